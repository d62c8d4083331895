theorem dL_refuses_1136 : decode cL_refuses 1136 = .ok (.if_icmp .ne 25, 3) := by decide +kernel
theorem dL_refuses_1139 : decode cL_refuses 1139 = .ok (.aload_n 0, 1) := by decide +kernel
theorem dL_refuses_1140 : decode cL_refuses 1140 = .ok (.iload_n 1, 1) := by decide +kernel
theorem dL_refuses_1141 : decode cL_refuses 1141 = .ok (.i2l, 1) := by decide +kernel
theorem dL_refuses_1142 : decode cL_refuses 1142 = .ok (.bipush 61, 2) := by decide +kernel
theorem dL_refuses_1144 : decode cL_refuses 1144 = .ok (.iload_n 1, 1) := by decide +kernel
theorem dL_refuses_1145 : decode cL_refuses 1145 = .ok (.bipush 9, 2) := by decide +kernel
theorem dL_refuses_1147 : decode cL_refuses 1147 = .ok (.irem, 1) := by decide +kernel
theorem dL_refuses_1148 : decode cL_refuses 1148 = .ok (.iadd, 1) := by decide +kernel
theorem dL_refuses_1149 : decode cL_refuses 1149 = .ok (.invokestatic 205, 3) := by decide +kernel
theorem dL_refuses_1152 : decode cL_refuses 1152 = .ok (.ldc 15, 2) := by decide +kernel
theorem dL_refuses_1154 : decode cL_refuses 1154 = .ok (.if_icmp .ne 7, 3) := by decide +kernel
theorem dL_refuses_1157 : decode cL_refuses 1157 = .ok (.iconst 1, 1) := by decide +kernel
theorem dL_refuses_1158 : decode cL_refuses 1158 = .ok (.goto 4, 3) := by decide +kernel
theorem dL_refuses_1161 : decode cL_refuses 1161 = .ok (.iconst 0, 1) := by decide +kernel
theorem dL_refuses_1162 : decode cL_refuses 1162 = .ok (.istore 7, 2) := by decide +kernel
theorem dL_refuses_1164 : decode cL_refuses 1164 = .ok (.aload_n 0, 1) := by decide +kernel
theorem dL_refuses_1165 : decode cL_refuses 1165 = .ok (.iconst 5, 1) := by decide +kernel
theorem dL_refuses_1166 : decode cL_refuses 1166 = .ok (.iconst 0, 1) := by decide +kernel
theorem dL_refuses_1167 : decode cL_refuses 1167 = .ok (.iconst 3, 1) := by decide +kernel
theorem dL_refuses_1168 : decode cL_refuses 1168 = .ok (.iconst 0, 1) := by decide +kernel
theorem dL_refuses_1169 : decode cL_refuses 1169 = .ok (.invokestatic 192, 3) := by decide +kernel
theorem dL_refuses_1172 : decode cL_refuses 1172 = .ok (.istore 8, 2) := by decide +kernel
theorem dL_refuses_1174 : decode cL_refuses 1174 = .ok (.iload 7, 2) := by decide +kernel
theorem dL_refuses_1176 : decode cL_refuses 1176 = .ok (.ifCond .eq 96, 3) := by decide +kernel
theorem dL_refuses_1179 : decode cL_refuses 1179 = .ok (.iload_n 2, 1) := by decide +kernel
theorem dL_refuses_1180 : decode cL_refuses 1180 = .ok (.bipush 10, 2) := by decide +kernel
theorem dL_refuses_1182 : decode cL_refuses 1182 = .ok (.if_icmp .lt 19, 3) := by decide +kernel
theorem dL_refuses_1185 : decode cL_refuses 1185 = .ok (.aload_n 0, 1) := by decide +kernel
theorem dL_refuses_1186 : decode cL_refuses 1186 = .ok (.bipush 9, 2) := by decide +kernel
theorem dL_refuses_1188 : decode cL_refuses 1188 = .ok (.iconst 0, 1) := by decide +kernel
theorem dL_refuses_1189 : decode cL_refuses 1189 = .ok (.sipush 450, 3) := by decide +kernel
theorem dL_refuses_1192 : decode cL_refuses 1192 = .ok (.iconst 0, 1) := by decide +kernel
theorem dL_refuses_1193 : decode cL_refuses 1193 = .ok (.invokestatic 192, 3) := by decide +kernel
theorem dL_refuses_1196 : decode cL_refuses 1196 = .ok (.ldc 18, 2) := by decide +kernel
theorem dL_refuses_1198 : decode cL_refuses 1198 = .ok (.if_icmp .ne 74, 3) := by decide +kernel
theorem dL_refuses_1201 : decode cL_refuses 1201 = .ok (.iload_n 3, 1) := by decide +kernel
theorem dL_refuses_1202 : decode cL_refuses 1202 = .ok (.iconst 4, 1) := by decide +kernel
theorem dL_refuses_1203 : decode cL_refuses 1203 = .ok (.if_icmp .lt 16, 3) := by decide +kernel
theorem dL_refuses_1206 : decode cL_refuses 1206 = .ok (.aload_n 0, 1) := by decide +kernel
theorem dL_refuses_1207 : decode cL_refuses 1207 = .ok (.iconst 1, 1) := by decide +kernel
theorem dL_refuses_1208 : decode cL_refuses 1208 = .ok (.iconst 2, 1) := by decide +kernel
theorem dL_refuses_1209 : decode cL_refuses 1209 = .ok (.iconst 3, 1) := by decide +kernel
theorem dL_refuses_1210 : decode cL_refuses 1210 = .ok (.iconst 4, 1) := by decide +kernel
theorem dL_refuses_1211 : decode cL_refuses 1211 = .ok (.invokestatic 196, 3) := by decide +kernel
theorem dL_refuses_1214 : decode cL_refuses 1214 = .ok (.ldc 18, 2) := by decide +kernel
theorem dL_refuses_1216 : decode cL_refuses 1216 = .ok (.if_icmp .ne 56, 3) := by decide +kernel
theorem dL_refuses_1219 : decode cL_refuses 1219 = .ok (.iload 8, 2) := by decide +kernel
theorem dL_refuses_1221 : decode cL_refuses 1221 = .ok (.sipush 900, 3) := by decide +kernel
theorem dL_refuses_1224 : decode cL_refuses 1224 = .ok (.if_icmp .eq 21, 3) := by decide +kernel
theorem dL_refuses_1227 : decode cL_refuses 1227 = .ok (.aload_n 0, 1) := by decide +kernel
theorem dL_refuses_1228 : decode cL_refuses 1228 = .ok (.bipush 12, 2) := by decide +kernel
theorem dL_refuses_1230 : decode cL_refuses 1230 = .ok (.iconst 0, 1) := by decide +kernel
theorem dL_refuses_1231 : decode cL_refuses 1231 = .ok (.iconst 3, 1) := by decide +kernel
theorem dL_refuses_1232 : decode cL_refuses 1232 = .ok (.iload 8, 2) := by decide +kernel
theorem dL_refuses_1234 : decode cL_refuses 1234 = .ok (.bipush 99, 2) := by decide +kernel
theorem dL_refuses_1236 : decode cL_refuses 1236 = .ok (.isub, 1) := by decide +kernel
theorem dL_refuses_1237 : decode cL_refuses 1237 = .ok (.invokestatic 192, 3) := by decide +kernel
theorem dL_refuses_1240 : decode cL_refuses 1240 = .ok (.ldc 18, 2) := by decide +kernel
theorem dL_refuses_1242 : decode cL_refuses 1242 = .ok (.if_icmp .ne 30, 3) := by decide +kernel
theorem dL_refuses_1245 : decode cL_refuses 1245 = .ok (.iload 8, 2) := by decide +kernel
theorem dL_refuses_1247 : decode cL_refuses 1247 = .ok (.sipush 802, 3) := by decide +kernel
theorem dL_refuses_1250 : decode cL_refuses 1250 = .ok (.if_icmp .lt 18, 3) := by decide +kernel
theorem dL_refuses_1253 : decode cL_refuses 1253 = .ok (.aload_n 0, 1) := by decide +kernel
theorem dL_refuses_1254 : decode cL_refuses 1254 = .ok (.bipush 13, 2) := by decide +kernel
theorem dL_refuses_1256 : decode cL_refuses 1256 = .ok (.iconst 0, 1) := by decide +kernel
theorem dL_refuses_1257 : decode cL_refuses 1257 = .ok (.iconst 3, 1) := by decide +kernel
theorem dL_refuses_1258 : decode cL_refuses 1258 = .ok (.bipush 99, 2) := by decide +kernel
theorem dL_refuses_1260 : decode cL_refuses 1260 = .ok (.invokestatic 192, 3) := by decide +kernel
theorem dL_refuses_1263 : decode cL_refuses 1263 = .ok (.ldc 18, 2) := by decide +kernel
theorem dL_refuses_1265 : decode cL_refuses 1265 = .ok (.if_icmp .ne 7, 3) := by decide +kernel
theorem dL_refuses_1268 : decode cL_refuses 1268 = .ok (.iconst 1, 1) := by decide +kernel
theorem dL_refuses_1269 : decode cL_refuses 1269 = .ok (.goto 4, 3) := by decide +kernel
theorem dL_refuses_1272 : decode cL_refuses 1272 = .ok (.iconst 0, 1) := by decide +kernel
theorem dL_refuses_1273 : decode cL_refuses 1273 = .ok (.ireturn, 1) := by decide +kernel
theorem dL_holds_0 : decode cL_holds 0 = .ok (.aload_n 0, 1) := by decide +kernel
theorem dL_holds_1 : decode cL_holds 1 = .ok (.iconst 2, 1) := by decide +kernel
theorem dL_holds_2 : decode cL_holds 2 = .ok (.iconst 0, 1) := by decide +kernel
theorem dL_holds_3 : decode cL_holds 3 = .ok (.iconst 0, 1) := by decide +kernel
theorem dL_holds_4 : decode cL_holds 4 = .ok (.iconst 0, 1) := by decide +kernel
theorem dL_holds_5 : decode cL_holds 5 = .ok (.invokestatic 192, 3) := by decide +kernel
theorem dL_holds_8 : decode cL_holds 8 = .ok (.istore_n 2, 1) := by decide +kernel
theorem dL_holds_9 : decode cL_holds 9 = .ok (.iconst 0, 1) := by decide +kernel
theorem dL_holds_10 : decode cL_holds 10 = .ok (.istore_n 3, 1) := by decide +kernel
theorem dL_holds_11 : decode cL_holds 11 = .ok (.iconst 0, 1) := by decide +kernel
theorem dL_holds_12 : decode cL_holds 12 = .ok (.istore 4, 2) := by decide +kernel
theorem dL_holds_14 : decode cL_holds 14 = .ok (.aload_n 0, 1) := by decide +kernel
theorem dL_holds_15 : decode cL_holds 15 = .ok (.invokevirtual 209, 3) := by decide +kernel
theorem dL_holds_18 : decode cL_holds 18 = .ok (.istore 5, 2) := by decide +kernel
theorem dL_holds_20 : decode cL_holds 20 = .ok (.iload_n 2, 1) := by decide +kernel
theorem dL_holds_21 : decode cL_holds 21 = .ok (.bipush 10, 2) := by decide +kernel
theorem dL_holds_23 : decode cL_holds 23 = .ok (.if_icmp .gt 7, 3) := by decide +kernel
theorem dL_holds_26 : decode cL_holds 26 = .ok (.iconst 1, 1) := by decide +kernel
theorem dL_holds_27 : decode cL_holds 27 = .ok (.goto 4, 3) := by decide +kernel
theorem dL_holds_30 : decode cL_holds 30 = .ok (.iconst 0, 1) := by decide +kernel
theorem dL_holds_31 : decode cL_holds 31 = .ok (.istore 6, 2) := by decide +kernel
theorem dL_holds_33 : decode cL_holds 33 = .ok (.iconst 0, 1) := by decide +kernel
theorem dL_holds_34 : decode cL_holds 34 = .ok (.istore 7, 2) := by decide +kernel
theorem dL_holds_36 : decode cL_holds 36 = .ok (.iload 7, 2) := by decide +kernel
theorem dL_holds_38 : decode cL_holds 38 = .ok (.iload_n 2, 1) := by decide +kernel
theorem dL_holds_39 : decode cL_holds 39 = .ok (.if_icmp .ge 576, 3) := by decide +kernel
theorem dL_holds_42 : decode cL_holds 42 = .ok (.iload 6, 2) := by decide +kernel
theorem dL_holds_44 : decode cL_holds 44 = .ok (.ifCond .eq 571, 3) := by decide +kernel
theorem dL_holds_47 : decode cL_holds 47 = .ok (.aload_n 0, 1) := by decide +kernel
theorem dL_holds_48 : decode cL_holds 48 = .ok (.iconst 3, 1) := by decide +kernel
theorem dL_holds_49 : decode cL_holds 49 = .ok (.iload 7, 2) := by decide +kernel
theorem dL_holds_51 : decode cL_holds 51 = .ok (.iconst 0, 1) := by decide +kernel
theorem dL_holds_52 : decode cL_holds 52 = .ok (.iconst 0, 1) := by decide +kernel
theorem dL_holds_53 : decode cL_holds 53 = .ok (.invokestatic 192, 3) := by decide +kernel
theorem dL_holds_56 : decode cL_holds 56 = .ok (.istore 8, 2) := by decide +kernel
theorem dL_holds_58 : decode cL_holds 58 = .ok (.aload_n 0, 1) := by decide +kernel
theorem dL_holds_59 : decode cL_holds 59 = .ok (.iconst 3, 1) := by decide +kernel
theorem dL_holds_60 : decode cL_holds 60 = .ok (.iload 7, 2) := by decide +kernel
theorem dL_holds_62 : decode cL_holds 62 = .ok (.iconst 1, 1) := by decide +kernel
theorem dL_holds_63 : decode cL_holds 63 = .ok (.iconst 0, 1) := by decide +kernel
theorem dL_holds_64 : decode cL_holds 64 = .ok (.invokestatic 192, 3) := by decide +kernel
theorem dL_holds_67 : decode cL_holds 67 = .ok (.istore 9, 2) := by decide +kernel
theorem dL_holds_69 : decode cL_holds 69 = .ok (.aload_n 0, 1) := by decide +kernel
theorem dL_holds_70 : decode cL_holds 70 = .ok (.iconst 3, 1) := by decide +kernel
theorem dL_holds_71 : decode cL_holds 71 = .ok (.iload 7, 2) := by decide +kernel
theorem dL_holds_73 : decode cL_holds 73 = .ok (.iconst 2, 1) := by decide +kernel
theorem dL_holds_74 : decode cL_holds 74 = .ok (.iconst 0, 1) := by decide +kernel
theorem dL_holds_75 : decode cL_holds 75 = .ok (.invokestatic 192, 3) := by decide +kernel
theorem dL_holds_78 : decode cL_holds 78 = .ok (.istore 10, 2) := by decide +kernel
theorem dL_holds_80 : decode cL_holds 80 = .ok (.aload_n 0, 1) := by decide +kernel
theorem dL_holds_81 : decode cL_holds 81 = .ok (.iconst 4, 1) := by decide +kernel
theorem dL_holds_82 : decode cL_holds 82 = .ok (.iload 7, 2) := by decide +kernel
theorem dL_holds_84 : decode cL_holds 84 = .ok (.iconst 0, 1) := by decide +kernel
theorem dL_holds_85 : decode cL_holds 85 = .ok (.iconst 0, 1) := by decide +kernel
theorem dL_holds_86 : decode cL_holds 86 = .ok (.invokestatic 192, 3) := by decide +kernel
theorem dL_holds_89 : decode cL_holds 89 = .ok (.istore 11, 2) := by decide +kernel
theorem dL_holds_91 : decode cL_holds 91 = .ok (.aload_n 0, 1) := by decide +kernel
theorem dL_holds_92 : decode cL_holds 92 = .ok (.iconst 3, 1) := by decide +kernel
theorem dL_holds_93 : decode cL_holds 93 = .ok (.iload 7, 2) := by decide +kernel
theorem dL_holds_95 : decode cL_holds 95 = .ok (.iconst 3, 1) := by decide +kernel
theorem dL_holds_96 : decode cL_holds 96 = .ok (.iconst 0, 1) := by decide +kernel
theorem dL_holds_97 : decode cL_holds 97 = .ok (.invokestatic 192, 3) := by decide +kernel
theorem dL_holds_100 : decode cL_holds 100 = .ok (.istore 12, 2) := by decide +kernel
theorem dL_holds_102 : decode cL_holds 102 = .ok (.aload_n 0, 1) := by decide +kernel
theorem dL_holds_103 : decode cL_holds 103 = .ok (.iconst 3, 1) := by decide +kernel
theorem dL_holds_104 : decode cL_holds 104 = .ok (.iload 7, 2) := by decide +kernel
theorem dL_holds_106 : decode cL_holds 106 = .ok (.iconst 4, 1) := by decide +kernel
theorem dL_holds_107 : decode cL_holds 107 = .ok (.iconst 0, 1) := by decide +kernel
theorem dL_holds_108 : decode cL_holds 108 = .ok (.invokestatic 192, 3) := by decide +kernel
theorem dL_holds_111 : decode cL_holds 111 = .ok (.istore 13, 2) := by decide +kernel
theorem dL_holds_113 : decode cL_holds 113 = .ok (.aload_n 0, 1) := by decide +kernel
theorem dL_holds_114 : decode cL_holds 114 = .ok (.iconst 3, 1) := by decide +kernel
theorem dL_holds_115 : decode cL_holds 115 = .ok (.iload 7, 2) := by decide +kernel
theorem dL_holds_117 : decode cL_holds 117 = .ok (.iconst 5, 1) := by decide +kernel
theorem dL_holds_118 : decode cL_holds 118 = .ok (.iconst 0, 1) := by decide +kernel
theorem dL_holds_119 : decode cL_holds 119 = .ok (.invokestatic 192, 3) := by decide +kernel
theorem dL_holds_122 : decode cL_holds 122 = .ok (.istore 14, 2) := by decide +kernel
theorem dL_holds_124 : decode cL_holds 124 = .ok (.aload_n 0, 1) := by decide +kernel
theorem dL_holds_125 : decode cL_holds 125 = .ok (.iconst 3, 1) := by decide +kernel
theorem dL_holds_126 : decode cL_holds 126 = .ok (.iload 7, 2) := by decide +kernel
theorem dL_holds_128 : decode cL_holds 128 = .ok (.bipush 7, 2) := by decide +kernel
theorem dL_holds_130 : decode cL_holds 130 = .ok (.iconst 0, 1) := by decide +kernel
theorem dL_holds_131 : decode cL_holds 131 = .ok (.invokestatic 192, 3) := by decide +kernel
theorem dL_holds_134 : decode cL_holds 134 = .ok (.istore 15, 2) := by decide +kernel
theorem dL_holds_136 : decode cL_holds 136 = .ok (.iconst 0, 1) := by decide +kernel
theorem dL_holds_137 : decode cL_holds 137 = .ok (.istore 16, 2) := by decide +kernel
theorem dL_holds_139 : decode cL_holds 139 = .ok (.sipush 9999, 3) := by decide +kernel
theorem dL_holds_142 : decode cL_holds 142 = .ok (.istore 17, 2) := by decide +kernel
theorem dL_holds_144 : decode cL_holds 144 = .ok (.iconst 0, 1) := by decide +kernel
theorem dL_holds_145 : decode cL_holds 145 = .ok (.istore 18, 2) := by decide +kernel
theorem dL_holds_147 : decode cL_holds 147 = .ok (.iload_n 3, 1) := by decide +kernel
theorem dL_holds_148 : decode cL_holds 148 = .ok (.aload_n 0, 1) := by decide +kernel
theorem dL_holds_149 : decode cL_holds 149 = .ok (.iconst 3, 1) := by decide +kernel
theorem dL_holds_150 : decode cL_holds 150 = .ok (.iload 7, 2) := by decide +kernel
theorem dL_holds_152 : decode cL_holds 152 = .ok (.bipush 6, 2) := by decide +kernel
theorem dL_holds_154 : decode cL_holds 154 = .ok (.iconst 0, 1) := by decide +kernel
theorem dL_holds_155 : decode cL_holds 155 = .ok (.invokestatic 192, 3) := by decide +kernel
theorem dL_holds_158 : decode cL_holds 158 = .ok (.iadd, 1) := by decide +kernel
theorem dL_holds_159 : decode cL_holds 159 = .ok (.istore_n 3, 1) := by decide +kernel
theorem dL_holds_160 : decode cL_holds 160 = .ok (.iload 4, 2) := by decide +kernel
theorem dL_holds_162 : decode cL_holds 162 = .ok (.aload_n 0, 1) := by decide +kernel
theorem dL_holds_163 : decode cL_holds 163 = .ok (.iconst 3, 1) := by decide +kernel
theorem dL_holds_164 : decode cL_holds 164 = .ok (.iload 7, 2) := by decide +kernel
theorem dL_holds_166 : decode cL_holds 166 = .ok (.bipush 8, 2) := by decide +kernel
theorem dL_holds_168 : decode cL_holds 168 = .ok (.iconst 0, 1) := by decide +kernel
theorem dL_holds_169 : decode cL_holds 169 = .ok (.invokestatic 192, 3) := by decide +kernel
theorem dL_holds_172 : decode cL_holds 172 = .ok (.iadd, 1) := by decide +kernel
theorem dL_holds_173 : decode cL_holds 173 = .ok (.istore 4, 2) := by decide +kernel
theorem dL_holds_175 : decode cL_holds 175 = .ok (.iconst 0, 1) := by decide +kernel
theorem dL_holds_176 : decode cL_holds 176 = .ok (.istore 19, 2) := by decide +kernel
theorem dL_holds_178 : decode cL_holds 178 = .ok (.iload 19, 2) := by decide +kernel
theorem dL_holds_180 : decode cL_holds 180 = .ok (.iconst 4, 1) := by decide +kernel
theorem dL_holds_181 : decode cL_holds 181 = .ok (.if_icmp .ge 146, 3) := by decide +kernel
theorem dL_holds_184 : decode cL_holds 184 = .ok (.iload 6, 2) := by decide +kernel
theorem dL_holds_186 : decode cL_holds 186 = .ok (.ifCond .eq 141, 3) := by decide +kernel
theorem dL_holds_189 : decode cL_holds 189 = .ok (.aload_n 0, 1) := by decide +kernel
theorem dL_holds_190 : decode cL_holds 190 = .ok (.iconst 5, 1) := by decide +kernel
theorem dL_holds_191 : decode cL_holds 191 = .ok (.iload 7, 2) := by decide +kernel
theorem dL_holds_193 : decode cL_holds 193 = .ok (.iload 19, 2) := by decide +kernel
theorem dL_holds_195 : decode cL_holds 195 = .ok (.iconst 1, 1) := by decide +kernel
theorem dL_holds_196 : decode cL_holds 196 = .ok (.invokestatic 192, 3) := by decide +kernel
theorem dL_holds_199 : decode cL_holds 199 = .ok (.istore 20, 2) := by decide +kernel
theorem dL_holds_201 : decode cL_holds 201 = .ok (.aload_n 0, 1) := by decide +kernel
theorem dL_holds_202 : decode cL_holds 202 = .ok (.iconst 5, 1) := by decide +kernel
theorem dL_holds_203 : decode cL_holds 203 = .ok (.iload 7, 2) := by decide +kernel
theorem dL_holds_205 : decode cL_holds 205 = .ok (.iload 19, 2) := by decide +kernel
theorem dL_holds_207 : decode cL_holds 207 = .ok (.iconst 0, 1) := by decide +kernel
theorem dL_holds_208 : decode cL_holds 208 = .ok (.invokestatic 192, 3) := by decide +kernel
theorem dL_holds_211 : decode cL_holds 211 = .ok (.istore 21, 2) := by decide +kernel
theorem dL_holds_213 : decode cL_holds 213 = .ok (.aload_n 0, 1) := by decide +kernel
theorem dL_holds_214 : decode cL_holds 214 = .ok (.iconst 5, 1) := by decide +kernel
theorem dL_holds_215 : decode cL_holds 215 = .ok (.iload 7, 2) := by decide +kernel
theorem dL_holds_217 : decode cL_holds 217 = .ok (.iload 19, 2) := by decide +kernel
theorem dL_holds_219 : decode cL_holds 219 = .ok (.iconst 2, 1) := by decide +kernel
theorem dL_holds_220 : decode cL_holds 220 = .ok (.invokestatic 192, 3) := by decide +kernel
theorem dL_holds_223 : decode cL_holds 223 = .ok (.istore 22, 2) := by decide +kernel
theorem dL_holds_225 : decode cL_holds 225 = .ok (.iload 16, 2) := by decide +kernel
theorem dL_holds_227 : decode cL_holds 227 = .ok (.iload 21, 2) := by decide +kernel
theorem dL_holds_229 : decode cL_holds 229 = .ok (.iadd, 1) := by decide +kernel
theorem dL_holds_230 : decode cL_holds 230 = .ok (.istore 16, 2) := by decide +kernel
theorem dL_holds_232 : decode cL_holds 232 = .ok (.iload 18, 2) := by decide +kernel
theorem dL_holds_234 : decode cL_holds 234 = .ok (.iload 19, 2) := by decide +kernel
theorem dL_holds_236 : decode cL_holds 236 = .ok (.iconst 2, 1) := by decide +kernel
theorem dL_holds_237 : decode cL_holds 237 = .ok (.irem, 1) := by decide +kernel
theorem dL_holds_238 : decode cL_holds 238 = .ok (.ifCond .ne 8, 3) := by decide +kernel
theorem dL_holds_241 : decode cL_holds 241 = .ok (.iload 20, 2) := by decide +kernel
theorem dL_holds_243 : decode cL_holds 243 = .ok (.goto 6, 3) := by decide +kernel
theorem dL_holds_246 : decode cL_holds 246 = .ok (.iload 20, 2) := by decide +kernel
theorem dL_holds_248 : decode cL_holds 248 = .ok (.ineg, 1) := by decide +kernel
theorem dL_holds_249 : decode cL_holds 249 = .ok (.iadd, 1) := by decide +kernel
theorem dL_holds_250 : decode cL_holds 250 = .ok (.istore 18, 2) := by decide +kernel
theorem dL_holds_252 : decode cL_holds 252 = .ok (.iload 20, 2) := by decide +kernel
theorem dL_holds_254 : decode cL_holds 254 = .ok (.iload 17, 2) := by decide +kernel
theorem dL_holds_256 : decode cL_holds 256 = .ok (.if_icmp .ge 8, 3) := by decide +kernel
theorem dL_holds_259 : decode cL_holds 259 = .ok (.iload 20, 2) := by decide +kernel
theorem dL_holds_261 : decode cL_holds 261 = .ok (.goto 5, 3) := by decide +kernel
theorem dL_holds_264 : decode cL_holds 264 = .ok (.iload 17, 2) := by decide +kernel
theorem dL_holds_266 : decode cL_holds 266 = .ok (.istore 17, 2) := by decide +kernel
theorem dL_holds_268 : decode cL_holds 268 = .ok (.iload 21, 2) := by decide +kernel
theorem dL_holds_270 : decode cL_holds 270 = .ok (.bipush 100, 2) := by decide +kernel
theorem dL_holds_272 : decode cL_holds 272 = .ok (.if_icmp .lt 46, 3) := by decide +kernel
theorem dL_holds_275 : decode cL_holds 275 = .ok (.iload 21, 2) := by decide +kernel
theorem dL_holds_277 : decode cL_holds 277 = .ok (.sipush 900, 3) := by decide +kernel
theorem dL_holds_280 : decode cL_holds 280 = .ok (.if_icmp .gt 38, 3) := by decide +kernel
theorem dL_holds_283 : decode cL_holds 283 = .ok (.iload 22, 2) := by decide +kernel
theorem dL_holds_285 : decode cL_holds 285 = .ok (.iload 19, 2) := by decide +kernel
theorem dL_holds_287 : decode cL_holds 287 = .ok (.iload 10, 2) := by decide +kernel
theorem dL_holds_289 : decode cL_holds 289 = .ok (.iadd, 1) := by decide +kernel
theorem dL_holds_290 : decode cL_holds 290 = .ok (.iconst 4, 1) := by decide +kernel
theorem dL_holds_291 : decode cL_holds 291 = .ok (.irem, 1) := by decide +kernel
theorem dL_holds_292 : decode cL_holds 292 = .ok (.if_icmp .ne 26, 3) := by decide +kernel
theorem dL_holds_295 : decode cL_holds 295 = .ok (.iload 20, 2) := by decide +kernel
theorem dL_holds_297 : decode cL_holds 297 = .ok (.iload 21, 2) := by decide +kernel
theorem dL_holds_299 : decode cL_holds 299 = .ok (.aload_n 0, 1) := by decide +kernel
theorem dL_holds_300 : decode cL_holds 300 = .ok (.bipush 6, 2) := by decide +kernel
theorem dL_holds_302 : decode cL_holds 302 = .ok (.iload 9, 2) := by decide +kernel
theorem dL_holds_304 : decode cL_holds 304 = .ok (.iload 22, 2) := by decide +kernel
theorem dL_holds_306 : decode cL_holds 306 = .ok (.iconst 0, 1) := by decide +kernel
theorem dL_holds_307 : decode cL_holds 307 = .ok (.invokestatic 192, 3) := by decide +kernel
theorem dL_holds_310 : decode cL_holds 310 = .ok (.isub, 1) := by decide +kernel
theorem dL_holds_311 : decode cL_holds 311 = .ok (.if_icmp .ne 7, 3) := by decide +kernel
theorem dL_holds_314 : decode cL_holds 314 = .ok (.iconst 1, 1) := by decide +kernel
theorem dL_holds_315 : decode cL_holds 315 = .ok (.goto 4, 3) := by decide +kernel
theorem dL_holds_318 : decode cL_holds 318 = .ok (.iconst 0, 1) := by decide +kernel
theorem dL_holds_319 : decode cL_holds 319 = .ok (.istore 6, 2) := by decide +kernel
theorem dL_holds_321 : decode cL_holds 321 = .ok (.iinc 19 1, 3) := by decide +kernel
theorem dL_holds_324 : decode cL_holds 324 = .ok (.goto (-146), 3) := by decide +kernel
theorem dL_holds_327 : decode cL_holds 327 = .ok (.iload 6, 2) := by decide +kernel
theorem dL_holds_329 : decode cL_holds 329 = .ok (.ifCond .eq 277, 3) := by decide +kernel
theorem dL_holds_332 : decode cL_holds 332 = .ok (.iload 11, 2) := by decide +kernel
theorem dL_holds_334 : decode cL_holds 334 = .ok (.iload 18, 2) := by decide +kernel
theorem dL_holds_336 : decode cL_holds 336 = .ok (.invokestatic 212, 3) := by decide +kernel
theorem dL_holds_339 : decode cL_holds 339 = .ok (.if_icmp .ne 267, 3) := by decide +kernel
theorem dL_holds_342 : decode cL_holds 342 = .ok (.iload 11, 2) := by decide +kernel
theorem dL_holds_344 : decode cL_holds 344 = .ok (.aload_n 0, 1) := by decide +kernel
theorem dL_holds_345 : decode cL_holds 345 = .ok (.iconst 4, 1) := by decide +kernel
theorem dL_holds_346 : decode cL_holds 346 = .ok (.iload 7, 2) := by decide +kernel
theorem dL_holds_348 : decode cL_holds 348 = .ok (.iconst 1, 1) := by decide +kernel
theorem dL_holds_349 : decode cL_holds 349 = .ok (.iconst 0, 1) := by decide +kernel
theorem dL_holds_350 : decode cL_holds 350 = .ok (.invokestatic 192, 3) := by decide +kernel
theorem dL_holds_353 : decode cL_holds 353 = .ok (.if_icmp .ne 253, 3) := by decide +kernel
theorem dL_holds_356 : decode cL_holds 356 = .ok (.iload 13, 2) := by decide +kernel
theorem dL_holds_358 : decode cL_holds 358 = .ok (.iload 16, 2) := by decide +kernel
theorem dL_holds_360 : decode cL_holds 360 = .ok (.iconst 4, 1) := by decide +kernel
theorem dL_holds_361 : decode cL_holds 361 = .ok (.idiv, 1) := by decide +kernel
theorem dL_holds_362 : decode cL_holds 362 = .ok (.if_icmp .ne 244, 3) := by decide +kernel
theorem dL_holds_365 : decode cL_holds 365 = .ok (.iload 14, 2) := by decide +kernel
theorem dL_holds_367 : decode cL_holds 367 = .ok (.iconst (-1), 1) := by decide +kernel
theorem dL_holds_368 : decode cL_holds 368 = .ok (.if_icmp .ne 7, 3) := by decide +kernel
theorem dL_holds_371 : decode cL_holds 371 = .ok (.iconst 1, 1) := by decide +kernel
theorem dL_holds_372 : decode cL_holds 372 = .ok (.goto 4, 3) := by decide +kernel
theorem dL_holds_375 : decode cL_holds 375 = .ok (.iconst 0, 1) := by decide +kernel
theorem dL_holds_376 : decode cL_holds 376 = .ok (.iload 11, 2) := by decide +kernel
theorem dL_holds_378 : decode cL_holds 378 = .ok (.ifCond .ne 7, 3) := by decide +kernel
theorem dL_holds_381 : decode cL_holds 381 = .ok (.iconst 1, 1) := by decide +kernel
theorem dL_holds_382 : decode cL_holds 382 = .ok (.goto 4, 3) := by decide +kernel
theorem dL_holds_385 : decode cL_holds 385 = .ok (.iconst 0, 1) := by decide +kernel
theorem dL_holds_386 : decode cL_holds 386 = .ok (.if_icmp .ne 220, 3) := by decide +kernel
theorem dL_holds_389 : decode cL_holds 389 = .ok (.iconst 2, 1) := by decide +kernel
theorem dL_holds_390 : decode cL_holds 390 = .ok (.iload 12, 2) := by decide +kernel
theorem dL_holds_392 : decode cL_holds 392 = .ok (.imul, 1) := by decide +kernel
theorem dL_holds_393 : decode cL_holds 393 = .ok (.iload 11, 2) := by decide +kernel
theorem dL_holds_395 : decode cL_holds 395 = .ok (.if_icmp .lt 211, 3) := by decide +kernel
theorem dL_holds_398 : decode cL_holds 398 = .ok (.aload_n 0, 1) := by decide +kernel
theorem dL_holds_399 : decode cL_holds 399 = .ok (.iconst 3, 1) := by decide +kernel
theorem dL_holds_400 : decode cL_holds 400 = .ok (.iload 7, 2) := by decide +kernel
theorem dL_holds_402 : decode cL_holds 402 = .ok (.bipush 6, 2) := by decide +kernel
theorem dL_holds_404 : decode cL_holds 404 = .ok (.iconst 0, 1) := by decide +kernel
theorem dL_holds_405 : decode cL_holds 405 = .ok (.invokestatic 192, 3) := by decide +kernel
theorem dL_holds_408 : decode cL_holds 408 = .ok (.ifCond .eq 8, 3) := by decide +kernel
theorem dL_holds_411 : decode cL_holds 411 = .ok (.iload 15, 2) := by decide +kernel
theorem dL_holds_413 : decode cL_holds 413 = .ok (.ifCond .ne 193, 3) := by decide +kernel
theorem dL_holds_416 : decode cL_holds 416 = .ok (.iload 5, 2) := by decide +kernel
theorem dL_holds_418 : decode cL_holds 418 = .ok (.iload 7, 2) := by decide +kernel
theorem dL_holds_420 : decode cL_holds 420 = .ok (.ishr, 1) := by decide +kernel
theorem dL_holds_421 : decode cL_holds 421 = .ok (.iconst 1, 1) := by decide +kernel
theorem dL_holds_422 : decode cL_holds 422 = .ok (.iand, 1) := by decide +kernel
theorem dL_holds_423 : decode cL_holds 423 = .ok (.iload 15, 2) := by decide +kernel
theorem dL_holds_425 : decode cL_holds 425 = .ok (.ifCond .ne 7, 3) := by decide +kernel
theorem dL_holds_428 : decode cL_holds 428 = .ok (.iconst 1, 1) := by decide +kernel
theorem dL_holds_429 : decode cL_holds 429 = .ok (.goto 4, 3) := by decide +kernel
theorem dL_holds_432 : decode cL_holds 432 = .ok (.iconst 0, 1) := by decide +kernel
theorem dL_holds_433 : decode cL_holds 433 = .ok (.if_icmp .ne 173, 3) := by decide +kernel
theorem dL_holds_436 : decode cL_holds 436 = .ok (.iload 15, 2) := by decide +kernel
theorem dL_holds_438 : decode cL_holds 438 = .ok (.iload 11, 2) := by decide +kernel
theorem dL_holds_440 : decode cL_holds 440 = .ok (.aload_n 0, 1) := by decide +kernel
theorem dL_holds_441 : decode cL_holds 441 = .ok (.bipush 7, 2) := by decide +kernel
theorem dL_holds_443 : decode cL_holds 443 = .ok (.iload 8, 2) := by decide +kernel
theorem dL_holds_445 : decode cL_holds 445 = .ok (.iconst 2, 1) := by decide +kernel
theorem dL_holds_446 : decode cL_holds 446 = .ok (.iconst 0, 1) := by decide +kernel
theorem dL_holds_447 : decode cL_holds 447 = .ok (.invokestatic 192, 3) := by decide +kernel
theorem dL_holds_450 : decode cL_holds 450 = .ok (.if_icmp .le 7, 3) := by decide +kernel
theorem dL_holds_453 : decode cL_holds 453 = .ok (.iconst 1, 1) := by decide +kernel
theorem dL_holds_454 : decode cL_holds 454 = .ok (.goto 61, 3) := by decide +kernel
theorem dL_holds_457 : decode cL_holds 457 = .ok (.iload 12, 2) := by decide +kernel
theorem dL_holds_459 : decode cL_holds 459 = .ok (.aload_n 0, 1) := by decide +kernel
theorem dL_holds_460 : decode cL_holds 460 = .ok (.bipush 7, 2) := by decide +kernel
theorem dL_holds_462 : decode cL_holds 462 = .ok (.iload 8, 2) := by decide +kernel
theorem dL_holds_464 : decode cL_holds 464 = .ok (.iconst 3, 1) := by decide +kernel
theorem dL_holds_465 : decode cL_holds 465 = .ok (.iconst 0, 1) := by decide +kernel
theorem dL_holds_466 : decode cL_holds 466 = .ok (.invokestatic 192, 3) := by decide +kernel
theorem dL_holds_469 : decode cL_holds 469 = .ok (.if_icmp .le 7, 3) := by decide +kernel
theorem dL_holds_472 : decode cL_holds 472 = .ok (.iconst 2, 1) := by decide +kernel
theorem dL_holds_473 : decode cL_holds 473 = .ok (.goto 42, 3) := by decide +kernel
theorem dL_holds_476 : decode cL_holds 476 = .ok (.iload 13, 2) := by decide +kernel
theorem dL_holds_478 : decode cL_holds 478 = .ok (.aload_n 0, 1) := by decide +kernel
theorem dL_holds_479 : decode cL_holds 479 = .ok (.bipush 7, 2) := by decide +kernel
theorem dL_holds_481 : decode cL_holds 481 = .ok (.iload 8, 2) := by decide +kernel
theorem dL_holds_483 : decode cL_holds 483 = .ok (.iconst 0, 1) := by decide +kernel
theorem dL_holds_484 : decode cL_holds 484 = .ok (.iconst 0, 1) := by decide +kernel
theorem dL_holds_485 : decode cL_holds 485 = .ok (.invokestatic 192, 3) := by decide +kernel
theorem dL_holds_488 : decode cL_holds 488 = .ok (.if_icmp .ge 7, 3) := by decide +kernel
theorem dL_holds_491 : decode cL_holds 491 = .ok (.iconst 3, 1) := by decide +kernel
theorem dL_holds_492 : decode cL_holds 492 = .ok (.goto 23, 3) := by decide +kernel
theorem dL_holds_495 : decode cL_holds 495 = .ok (.iload 13, 2) := by decide +kernel
theorem dL_holds_497 : decode cL_holds 497 = .ok (.aload_n 0, 1) := by decide +kernel
theorem dL_holds_498 : decode cL_holds 498 = .ok (.bipush 7, 2) := by decide +kernel
theorem dL_holds_500 : decode cL_holds 500 = .ok (.iload 8, 2) := by decide +kernel
theorem dL_holds_502 : decode cL_holds 502 = .ok (.iconst 1, 1) := by decide +kernel
theorem dL_holds_503 : decode cL_holds 503 = .ok (.iconst 0, 1) := by decide +kernel
theorem dL_holds_504 : decode cL_holds 504 = .ok (.invokestatic 192, 3) := by decide +kernel
theorem dL_holds_507 : decode cL_holds 507 = .ok (.if_icmp .le 7, 3) := by decide +kernel
theorem dL_holds_510 : decode cL_holds 510 = .ok (.iconst 4, 1) := by decide +kernel
theorem dL_holds_511 : decode cL_holds 511 = .ok (.goto 4, 3) := by decide +kernel
theorem dL_holds_514 : decode cL_holds 514 = .ok (.iconst 0, 1) := by decide +kernel
theorem dL_holds_515 : decode cL_holds 515 = .ok (.if_icmp .ne 91, 3) := by decide +kernel
theorem dL_holds_518 : decode cL_holds 518 = .ok (.iload 15, 2) := by decide +kernel
theorem dL_holds_520 : decode cL_holds 520 = .ok (.ifCond .le 7, 3) := by decide +kernel
theorem dL_holds_523 : decode cL_holds 523 = .ok (.iconst 1, 1) := by decide +kernel
theorem dL_holds_524 : decode cL_holds 524 = .ok (.goto 4, 3) := by decide +kernel
theorem dL_holds_527 : decode cL_holds 527 = .ok (.iconst 0, 1) := by decide +kernel
theorem dL_holds_528 : decode cL_holds 528 = .ok (.aload_n 0, 1) := by decide +kernel
theorem dL_holds_529 : decode cL_holds 529 = .ok (.bipush 21, 2) := by decide +kernel
theorem dL_holds_531 : decode cL_holds 531 = .ok (.iload 7, 2) := by decide +kernel
theorem dL_holds_533 : decode cL_holds 533 = .ok (.iconst 1, 1) := by decide +kernel
theorem dL_holds_534 : decode cL_holds 534 = .ok (.iload_n 1, 1) := by decide +kernel
theorem dL_holds_535 : decode cL_holds 535 = .ok (.sipush 200, 3) := by decide +kernel
theorem dL_holds_538 : decode cL_holds 538 = .ok (.irem, 1) := by decide +kernel
theorem dL_holds_539 : decode cL_holds 539 = .ok (.iadd, 1) := by decide +kernel
theorem dL_holds_540 : decode cL_holds 540 = .ok (.iconst 0, 1) := by decide +kernel
theorem dL_holds_541 : decode cL_holds 541 = .ok (.invokestatic 192, 3) := by decide +kernel
theorem dL_holds_544 : decode cL_holds 544 = .ok (.ifCond .ne 7, 3) := by decide +kernel
theorem dL_holds_547 : decode cL_holds 547 = .ok (.iconst 1, 1) := by decide +kernel
theorem dL_holds_548 : decode cL_holds 548 = .ok (.goto 4, 3) := by decide +kernel
theorem dL_holds_551 : decode cL_holds 551 = .ok (.iconst 0, 1) := by decide +kernel
theorem dL_holds_552 : decode cL_holds 552 = .ok (.if_icmp .ne 54, 3) := by decide +kernel
theorem dL_holds_555 : decode cL_holds 555 = .ok (.aload_n 0, 1) := by decide +kernel
theorem dL_holds_556 : decode cL_holds 556 = .ok (.bipush 19, 2) := by decide +kernel
theorem dL_holds_558 : decode cL_holds 558 = .ok (.iload 7, 2) := by decide +kernel
theorem dL_holds_560 : decode cL_holds 560 = .ok (.iload 9, 2) := by decide +kernel
theorem dL_holds_562 : decode cL_holds 562 = .ok (.iconst 1, 1) := by decide +kernel
theorem dL_holds_563 : decode cL_holds 563 = .ok (.invokestatic 192, 3) := by decide +kernel
theorem dL_holds_566 : decode cL_holds 566 = .ok (.iload 11, 2) := by decide +kernel
theorem dL_holds_568 : decode cL_holds 568 = .ok (.if_icmp .gt 38, 3) := by decide +kernel
theorem dL_holds_571 : decode cL_holds 571 = .ok (.iload 14, 2) := by decide +kernel
theorem dL_holds_573 : decode cL_holds 573 = .ok (.iconst (-1), 1) := by decide +kernel
theorem dL_holds_574 : decode cL_holds 574 = .ok (.if_icmp .eq 28, 3) := by decide +kernel
theorem dL_holds_577 : decode cL_holds 577 = .ok (.aload_n 0, 1) := by decide +kernel
theorem dL_holds_578 : decode cL_holds 578 = .ok (.iconst 5, 1) := by decide +kernel
theorem dL_holds_579 : decode cL_holds 579 = .ok (.iload 7, 2) := by decide +kernel
theorem dL_holds_581 : decode cL_holds 581 = .ok (.iload 14, 2) := by decide +kernel
theorem dL_holds_583 : decode cL_holds 583 = .ok (.iconst 1, 1) := by decide +kernel
theorem dL_holds_584 : decode cL_holds 584 = .ok (.invokestatic 192, 3) := by decide +kernel
theorem dL_holds_587 : decode cL_holds 587 = .ok (.aload_n 0, 1) := by decide +kernel
theorem dL_holds_588 : decode cL_holds 588 = .ok (.iconst 5, 1) := by decide +kernel
theorem dL_holds_589 : decode cL_holds 589 = .ok (.iload 7, 2) := by decide +kernel
theorem dL_holds_591 : decode cL_holds 591 = .ok (.iload 14, 2) := by decide +kernel
theorem dL_holds_593 : decode cL_holds 593 = .ok (.iconst 2, 1) := by decide +kernel
theorem dL_holds_594 : decode cL_holds 594 = .ok (.ixor, 1) := by decide +kernel
theorem dL_holds_595 : decode cL_holds 595 = .ok (.iconst 1, 1) := by decide +kernel
theorem dL_holds_596 : decode cL_holds 596 = .ok (.invokestatic 192, 3) := by decide +kernel
theorem dL_holds_599 : decode cL_holds 599 = .ok (.if_icmp .gt 7, 3) := by decide +kernel
theorem dL_holds_602 : decode cL_holds 602 = .ok (.iconst 1, 1) := by decide +kernel
theorem dL_holds_603 : decode cL_holds 603 = .ok (.goto 4, 3) := by decide +kernel
theorem dL_holds_606 : decode cL_holds 606 = .ok (.iconst 0, 1) := by decide +kernel
theorem dL_holds_607 : decode cL_holds 607 = .ok (.istore 6, 2) := by decide +kernel
theorem dL_holds_609 : decode cL_holds 609 = .ok (.iinc 7 1, 3) := by decide +kernel
theorem dL_holds_612 : decode cL_holds 612 = .ok (.goto (-576), 3) := by decide +kernel
theorem dL_holds_615 : decode cL_holds 615 = .ok (.iload 6, 2) := by decide +kernel
theorem dL_holds_617 : decode cL_holds 617 = .ok (.ifCond .eq 73, 3) := by decide +kernel
theorem dL_holds_620 : decode cL_holds 620 = .ok (.iload_n 3, 1) := by decide +kernel
theorem dL_holds_621 : decode cL_holds 621 = .ok (.aload_n 0, 1) := by decide +kernel
theorem dL_holds_622 : decode cL_holds 622 = .ok (.iconst 2, 1) := by decide +kernel
theorem dL_holds_623 : decode cL_holds 623 = .ok (.iconst 2, 1) := by decide +kernel
theorem dL_holds_624 : decode cL_holds 624 = .ok (.iconst 0, 1) := by decide +kernel
theorem dL_holds_625 : decode cL_holds 625 = .ok (.iconst 0, 1) := by decide +kernel
theorem dL_holds_626 : decode cL_holds 626 = .ok (.invokestatic 192, 3) := by decide +kernel
theorem dL_holds_629 : decode cL_holds 629 = .ok (.if_icmp .ne 61, 3) := by decide +kernel
theorem dL_holds_632 : decode cL_holds 632 = .ok (.iload 4, 2) := by decide +kernel
theorem dL_holds_634 : decode cL_holds 634 = .ok (.aload_n 0, 1) := by decide +kernel
theorem dL_holds_635 : decode cL_holds 635 = .ok (.iconst 2, 1) := by decide +kernel
theorem dL_holds_636 : decode cL_holds 636 = .ok (.bipush 7, 2) := by decide +kernel
theorem dL_holds_638 : decode cL_holds 638 = .ok (.iconst 0, 1) := by decide +kernel
theorem dL_holds_639 : decode cL_holds 639 = .ok (.iconst 0, 1) := by decide +kernel
theorem dL_holds_640 : decode cL_holds 640 = .ok (.invokestatic 192, 3) := by decide +kernel
theorem dL_holds_643 : decode cL_holds 643 = .ok (.if_icmp .ne 47, 3) := by decide +kernel
theorem dL_holds_646 : decode cL_holds 646 = .ok (.aload_n 0, 1) := by decide +kernel
theorem dL_holds_647 : decode cL_holds 647 = .ok (.iconst 2, 1) := by decide +kernel
theorem dL_holds_648 : decode cL_holds 648 = .ok (.iconst 4, 1) := by decide +kernel
theorem dL_holds_649 : decode cL_holds 649 = .ok (.iconst 0, 1) := by decide +kernel
theorem dL_holds_650 : decode cL_holds 650 = .ok (.iconst 0, 1) := by decide +kernel
theorem dL_holds_651 : decode cL_holds 651 = .ok (.invokestatic 192, 3) := by decide +kernel
theorem dL_holds_654 : decode cL_holds 654 = .ok (.iload_n 3, 1) := by decide +kernel
theorem dL_holds_655 : decode cL_holds 655 = .ok (.aload_n 0, 1) := by decide +kernel
theorem dL_holds_656 : decode cL_holds 656 = .ok (.iconst 2, 1) := by decide +kernel
theorem dL_holds_657 : decode cL_holds 657 = .ok (.iconst 5, 1) := by decide +kernel
theorem dL_holds_658 : decode cL_holds 658 = .ok (.iconst 0, 1) := by decide +kernel
theorem dL_holds_659 : decode cL_holds 659 = .ok (.iconst 0, 1) := by decide +kernel
theorem dL_holds_660 : decode cL_holds 660 = .ok (.invokestatic 192, 3) := by decide +kernel
theorem dL_holds_663 : decode cL_holds 663 = .ok (.iadd, 1) := by decide +kernel
theorem dL_holds_664 : decode cL_holds 664 = .ok (.if_icmp .ne 26, 3) := by decide +kernel
theorem dL_holds_667 : decode cL_holds 667 = .ok (.aload_n 0, 1) := by decide +kernel
theorem dL_holds_668 : decode cL_holds 668 = .ok (.iconst 2, 1) := by decide +kernel
theorem dL_holds_669 : decode cL_holds 669 = .ok (.iconst 4, 1) := by decide +kernel
theorem dL_holds_670 : decode cL_holds 670 = .ok (.iconst 0, 1) := by decide +kernel
theorem dL_holds_671 : decode cL_holds 671 = .ok (.iconst 0, 1) := by decide +kernel
theorem dL_holds_672 : decode cL_holds 672 = .ok (.invokestatic 192, 3) := by decide +kernel
theorem dL_holds_675 : decode cL_holds 675 = .ok (.aload_n 0, 1) := by decide +kernel
theorem dL_holds_676 : decode cL_holds 676 = .ok (.iconst 2, 1) := by decide +kernel
theorem dL_holds_677 : decode cL_holds 677 = .ok (.iconst 3, 1) := by decide +kernel
theorem dL_holds_678 : decode cL_holds 678 = .ok (.iconst 0, 1) := by decide +kernel
theorem dL_holds_679 : decode cL_holds 679 = .ok (.iconst 0, 1) := by decide +kernel
theorem dL_holds_680 : decode cL_holds 680 = .ok (.invokestatic 192, 3) := by decide +kernel
theorem dL_holds_683 : decode cL_holds 683 = .ok (.if_icmp .gt 7, 3) := by decide +kernel
theorem dL_holds_686 : decode cL_holds 686 = .ok (.iconst 1, 1) := by decide +kernel
theorem dL_holds_687 : decode cL_holds 687 = .ok (.goto 4, 3) := by decide +kernel
theorem dL_holds_690 : decode cL_holds 690 = .ok (.iconst 0, 1) := by decide +kernel
theorem dL_holds_691 : decode cL_holds 691 = .ok (.ireturn, 1) := by decide +kernel
theorem dL_act_0 : decode cL_act 0 = .ok (.iload_n 1, 1) := by decide +kernel
theorem dL_act_1 : decode cL_act 1 = .ok (.bipush 16, 2) := by decide +kernel
theorem dL_act_3 : decode cL_act 3 = .ok (.idiv, 1) := by decide +kernel
theorem dL_act_4 : decode cL_act 4 = .ok (.istore_n 2, 1) := by decide +kernel
theorem dL_act_5 : decode cL_act 5 = .ok (.aload_n 0, 1) := by decide +kernel
theorem dL_act_6 : decode cL_act 6 = .ok (.iconst 2, 1) := by decide +kernel
theorem dL_act_7 : decode cL_act 7 = .ok (.iconst 0, 1) := by decide +kernel
theorem dL_act_8 : decode cL_act 8 = .ok (.iconst 0, 1) := by decide +kernel
theorem dL_act_9 : decode cL_act 9 = .ok (.iconst 0, 1) := by decide +kernel
theorem dL_act_10 : decode cL_act 10 = .ok (.invokestatic 192, 3) := by decide +kernel
theorem dL_act_13 : decode cL_act 13 = .ok (.istore_n 3, 1) := by decide +kernel
theorem dL_act_14 : decode cL_act 14 = .ok (.aload_n 0, 1) := by decide +kernel
theorem dL_act_15 : decode cL_act 15 = .ok (.iconst 2, 1) := by decide +kernel
theorem dL_act_16 : decode cL_act 16 = .ok (.iconst 1, 1) := by decide +kernel
theorem dL_act_17 : decode cL_act 17 = .ok (.iconst 0, 1) := by decide +kernel
theorem dL_act_18 : decode cL_act 18 = .ok (.iconst 0, 1) := by decide +kernel
theorem dL_act_19 : decode cL_act 19 = .ok (.invokestatic 192, 3) := by decide +kernel
theorem dL_act_22 : decode cL_act 22 = .ok (.istore 4, 2) := by decide +kernel
theorem dL_act_24 : decode cL_act 24 = .ok (.iload_n 2, 1) := by decide +kernel
theorem dL_act_25 : decode cL_act 25 = .ok (.iload_n 3, 1) := by decide +kernel
theorem dL_act_26 : decode cL_act 26 = .ok (.irem, 1) := by decide +kernel
theorem dL_act_27 : decode cL_act 27 = .ok (.istore 5, 2) := by decide +kernel
theorem dL_act_29 : decode cL_act 29 = .ok (.iload_n 2, 1) := by decide +kernel
theorem dL_act_30 : decode cL_act 30 = .ok (.bipush 10, 2) := by decide +kernel
theorem dL_act_32 : decode cL_act 32 = .ok (.idiv, 1) := by decide +kernel
theorem dL_act_33 : decode cL_act 33 = .ok (.iconst 4, 1) := by decide +kernel
theorem dL_act_34 : decode cL_act 34 = .ok (.irem, 1) := by decide +kernel
theorem dL_act_35 : decode cL_act 35 = .ok (.istore 6, 2) := by decide +kernel
theorem dL_act_37 : decode cL_act 37 = .ok (.iload_n 1, 1) := by decide +kernel
theorem dL_act_38 : decode cL_act 38 = .ok (.bipush 16, 2) := by decide +kernel
theorem dL_act_40 : decode cL_act 40 = .ok (.irem, 1) := by decide +kernel
theorem dL_act_41 : decode cL_act 41 = .ok (.tableswitch 371 0 14 #[75, 97, 128, 148, 148, 181, 212, 230, 230, 230, 241, 241, 261, 312, 352], 75) := by decide +kernel
theorem dL_act_116 : decode cL_act 116 = .ok (.aload_n 0, 1) := by decide +kernel
theorem dL_act_117 : decode cL_act 117 = .ok (.bipush 9, 2) := by decide +kernel
theorem dL_act_119 : decode cL_act 119 = .ok (.iload_n 2, 1) := by decide +kernel
theorem dL_act_120 : decode cL_act 120 = .ok (.iconst 4, 1) := by decide +kernel
theorem dL_act_121 : decode cL_act 121 = .ok (.irem, 1) := by decide +kernel
theorem dL_act_122 : decode cL_act 122 = .ok (.sipush 380, 3) := by decide +kernel
theorem dL_act_125 : decode cL_act 125 = .ok (.iload_n 2, 1) := by decide +kernel
theorem dL_act_126 : decode cL_act 126 = .ok (.iconst 4, 1) := by decide +kernel
theorem dL_act_127 : decode cL_act 127 = .ok (.idiv, 1) := by decide +kernel
theorem dL_act_128 : decode cL_act 128 = .ok (.sipush 140, 3) := by decide +kernel
theorem dL_act_131 : decode cL_act 131 = .ok (.irem, 1) := by decide +kernel
theorem dL_act_132 : decode cL_act 132 = .ok (.iadd, 1) := by decide +kernel
theorem dL_act_133 : decode cL_act 133 = .ok (.iconst 0, 1) := by decide +kernel
theorem dL_act_134 : decode cL_act 134 = .ok (.invokestatic 192, 3) := by decide +kernel
theorem dL_act_137 : decode cL_act 137 = .ok (.ireturn, 1) := by decide +kernel
theorem dL_act_138 : decode cL_act 138 = .ok (.aload_n 0, 1) := by decide +kernel
theorem dL_act_139 : decode cL_act 139 = .ok (.iload_n 2, 1) := by decide +kernel
theorem dL_act_140 : decode cL_act 140 = .ok (.bipush 6, 2) := by decide +kernel
theorem dL_act_142 : decode cL_act 142 = .ok (.irem, 1) := by decide +kernel
theorem dL_act_143 : decode cL_act 143 = .ok (.iload_n 2, 1) := by decide +kernel
theorem dL_act_144 : decode cL_act 144 = .ok (.bipush 6, 2) := by decide +kernel
theorem dL_act_146 : decode cL_act 146 = .ok (.idiv, 1) := by decide +kernel
theorem dL_act_147 : decode cL_act 147 = .ok (.bipush 6, 2) := by decide +kernel
theorem dL_act_149 : decode cL_act 149 = .ok (.irem, 1) := by decide +kernel
theorem dL_act_150 : decode cL_act 150 = .ok (.iload_n 2, 1) := by decide +kernel
theorem dL_act_151 : decode cL_act 151 = .ok (.bipush 36, 2) := by decide +kernel
theorem dL_act_153 : decode cL_act 153 = .ok (.idiv, 1) := by decide +kernel
theorem dL_act_154 : decode cL_act 154 = .ok (.bipush 6, 2) := by decide +kernel
theorem dL_act_156 : decode cL_act 156 = .ok (.irem, 1) := by decide +kernel
theorem dL_act_157 : decode cL_act 157 = .ok (.iload_n 2, 1) := by decide +kernel
theorem dL_act_158 : decode cL_act 158 = .ok (.sipush 216, 3) := by decide +kernel
theorem dL_act_161 : decode cL_act 161 = .ok (.idiv, 1) := by decide +kernel
theorem dL_act_162 : decode cL_act 162 = .ok (.bipush 6, 2) := by decide +kernel
theorem dL_act_164 : decode cL_act 164 = .ok (.irem, 1) := by decide +kernel
theorem dL_act_165 : decode cL_act 165 = .ok (.invokestatic 196, 3) := by decide +kernel
theorem dL_act_168 : decode cL_act 168 = .ok (.ireturn, 1) := by decide +kernel
theorem dL_act_169 : decode cL_act 169 = .ok (.aload_n 0, 1) := by decide +kernel
theorem dL_act_170 : decode cL_act 170 = .ok (.bipush 10, 2) := by decide +kernel
theorem dL_act_172 : decode cL_act 172 = .ok (.iload_n 2, 1) := by decide +kernel
theorem dL_act_173 : decode cL_act 173 = .ok (.iload 4, 2) := by decide +kernel
theorem dL_act_175 : decode cL_act 175 = .ok (.irem, 1) := by decide +kernel
theorem dL_act_176 : decode cL_act 176 = .ok (.iload 6, 2) := by decide +kernel
theorem dL_act_178 : decode cL_act 178 = .ok (.iload_n 2, 1) := by decide +kernel
theorem dL_act_179 : decode cL_act 179 = .ok (.bipush 40, 2) := by decide +kernel
theorem dL_act_181 : decode cL_act 181 = .ok (.idiv, 1) := by decide +kernel
theorem dL_act_182 : decode cL_act 182 = .ok (.bipush 8, 2) := by decide +kernel
theorem dL_act_184 : decode cL_act 184 = .ok (.irem, 1) := by decide +kernel
theorem dL_act_185 : decode cL_act 185 = .ok (.invokestatic 192, 3) := by decide +kernel
theorem dL_act_188 : decode cL_act 188 = .ok (.ireturn, 1) := by decide +kernel
theorem dL_act_189 : decode cL_act 189 = .ok (.aload_n 0, 1) := by decide +kernel
theorem dL_act_190 : decode cL_act 190 = .ok (.bipush 12, 2) := by decide +kernel
theorem dL_act_192 : decode cL_act 192 = .ok (.iload 5, 2) := by decide +kernel
theorem dL_act_194 : decode cL_act 194 = .ok (.iload 6, 2) := by decide +kernel
theorem dL_act_196 : decode cL_act 196 = .ok (.iconst 1, 1) := by decide +kernel
theorem dL_act_197 : decode cL_act 197 = .ok (.iload_n 2, 1) := by decide +kernel
theorem dL_act_198 : decode cL_act 198 = .ok (.bipush 40, 2) := by decide +kernel
theorem dL_act_200 : decode cL_act 200 = .ok (.idiv, 1) := by decide +kernel
theorem dL_act_201 : decode cL_act 201 = .ok (.iload_n 2, 1) := by decide +kernel
theorem dL_act_202 : decode cL_act 202 = .ok (.bipush 7, 2) := by decide +kernel
theorem dL_act_204 : decode cL_act 204 = .ok (.irem, 1) := by decide +kernel
theorem dL_act_205 : decode cL_act 205 = .ok (.ifCond .ne 9, 3) := by decide +kernel
theorem dL_act_208 : decode cL_act 208 = .ok (.sipush 400, 3) := by decide +kernel
theorem dL_act_211 : decode cL_act 211 = .ok (.goto 5, 3) := by decide +kernel
theorem dL_act_214 : decode cL_act 214 = .ok (.bipush 12, 2) := by decide +kernel
theorem dL_act_216 : decode cL_act 216 = .ok (.irem, 1) := by decide +kernel
theorem dL_act_217 : decode cL_act 217 = .ok (.iadd, 1) := by decide +kernel
theorem dL_act_218 : decode cL_act 218 = .ok (.invokestatic 192, 3) := by decide +kernel
theorem dL_act_221 : decode cL_act 221 = .ok (.ireturn, 1) := by decide +kernel
theorem dL_act_222 : decode cL_act 222 = .ok (.aload_n 0, 1) := by decide +kernel
theorem dL_act_223 : decode cL_act 223 = .ok (.bipush 13, 2) := by decide +kernel
theorem dL_act_225 : decode cL_act 225 = .ok (.iload 5, 2) := by decide +kernel
theorem dL_act_227 : decode cL_act 227 = .ok (.iload 6, 2) := by decide +kernel
theorem dL_act_229 : decode cL_act 229 = .ok (.iconst 1, 1) := by decide +kernel
theorem dL_act_230 : decode cL_act 230 = .ok (.iload_n 2, 1) := by decide +kernel
theorem dL_act_231 : decode cL_act 231 = .ok (.bipush 40, 2) := by decide +kernel
theorem dL_act_233 : decode cL_act 233 = .ok (.idiv, 1) := by decide +kernel
theorem dL_act_234 : decode cL_act 234 = .ok (.iload_n 2, 1) := by decide +kernel
theorem dL_act_235 : decode cL_act 235 = .ok (.iconst 5, 1) := by decide +kernel
theorem dL_act_236 : decode cL_act 236 = .ok (.irem, 1) := by decide +kernel
theorem dL_act_237 : decode cL_act 237 = .ok (.ifCond .ne 8, 3) := by decide +kernel
theorem dL_act_240 : decode cL_act 240 = .ok (.bipush 99, 2) := by decide +kernel
theorem dL_act_242 : decode cL_act 242 = .ok (.goto 5, 3) := by decide +kernel
theorem dL_act_245 : decode cL_act 245 = .ok (.bipush 9, 2) := by decide +kernel
theorem dL_act_247 : decode cL_act 247 = .ok (.irem, 1) := by decide +kernel
theorem dL_act_248 : decode cL_act 248 = .ok (.iadd, 1) := by decide +kernel
theorem dL_act_249 : decode cL_act 249 = .ok (.invokestatic 192, 3) := by decide +kernel
theorem dL_act_252 : decode cL_act 252 = .ok (.ireturn, 1) := by decide +kernel
theorem dL_act_253 : decode cL_act 253 = .ok (.aload_n 0, 1) := by decide +kernel
theorem dL_act_254 : decode cL_act 254 = .ok (.bipush 11, 2) := by decide +kernel
theorem dL_act_256 : decode cL_act 256 = .ok (.iload 5, 2) := by decide +kernel
theorem dL_act_258 : decode cL_act 258 = .ok (.iload_n 2, 1) := by decide +kernel
theorem dL_act_259 : decode cL_act 259 = .ok (.bipush 40, 2) := by decide +kernel
theorem dL_act_261 : decode cL_act 261 = .ok (.idiv, 1) := by decide +kernel
theorem dL_act_262 : decode cL_act 262 = .ok (.iload 4, 2) := by decide +kernel
theorem dL_act_264 : decode cL_act 264 = .ok (.irem, 1) := by decide +kernel
theorem dL_act_265 : decode cL_act 265 = .ok (.iload 6, 2) := by decide +kernel
theorem dL_act_267 : decode cL_act 267 = .ok (.invokestatic 192, 3) := by decide +kernel
theorem dL_act_270 : decode cL_act 270 = .ok (.ireturn, 1) := by decide +kernel
theorem dL_act_271 : decode cL_act 271 = .ok (.aload_n 0, 1) := by decide +kernel
theorem dL_act_272 : decode cL_act 272 = .ok (.bipush 14, 2) := by decide +kernel
theorem dL_act_274 : decode cL_act 274 = .ok (.iload 5, 2) := by decide +kernel
theorem dL_act_276 : decode cL_act 276 = .ok (.iconst 0, 1) := by decide +kernel
theorem dL_act_277 : decode cL_act 277 = .ok (.iconst 0, 1) := by decide +kernel
theorem dL_act_278 : decode cL_act 278 = .ok (.invokestatic 192, 3) := by decide +kernel
theorem dL_act_281 : decode cL_act 281 = .ok (.ireturn, 1) := by decide +kernel
theorem dL_act_282 : decode cL_act 282 = .ok (.aload_n 0, 1) := by decide +kernel
theorem dL_act_283 : decode cL_act 283 = .ok (.bipush 15, 2) := by decide +kernel
theorem dL_act_285 : decode cL_act 285 = .ok (.iload 5, 2) := by decide +kernel
theorem dL_act_287 : decode cL_act 287 = .ok (.iconst 1, 1) := by decide +kernel
theorem dL_act_288 : decode cL_act 288 = .ok (.iload_n 2, 1) := by decide +kernel
theorem dL_act_289 : decode cL_act 289 = .ok (.bipush 40, 2) := by decide +kernel
theorem dL_act_291 : decode cL_act 291 = .ok (.idiv, 1) := by decide +kernel
theorem dL_act_292 : decode cL_act 292 = .ok (.sipush 200, 3) := by decide +kernel
theorem dL_act_295 : decode cL_act 295 = .ok (.irem, 1) := by decide +kernel
theorem dL_act_296 : decode cL_act 296 = .ok (.iadd, 1) := by decide +kernel
theorem dL_act_297 : decode cL_act 297 = .ok (.iconst 0, 1) := by decide +kernel
theorem dL_act_298 : decode cL_act 298 = .ok (.invokestatic 192, 3) := by decide +kernel
theorem dL_act_301 : decode cL_act 301 = .ok (.ireturn, 1) := by decide +kernel
theorem dL_act_302 : decode cL_act 302 = .ok (.aload_n 0, 1) := by decide +kernel
theorem dL_act_303 : decode cL_act 303 = .ok (.bipush 16, 2) := by decide +kernel
theorem dL_act_305 : decode cL_act 305 = .ok (.iload_n 2, 1) := by decide +kernel
theorem dL_act_306 : decode cL_act 306 = .ok (.iconst 4, 1) := by decide +kernel
theorem dL_act_307 : decode cL_act 307 = .ok (.irem, 1) := by decide +kernel
theorem dL_act_308 : decode cL_act 308 = .ok (.iload 6, 2) := by decide +kernel
theorem dL_act_310 : decode cL_act 310 = .ok (.iload 6, 2) := by decide +kernel
theorem dL_act_312 : decode cL_act 312 = .ok (.iconst 2, 1) := by decide +kernel
theorem dL_act_313 : decode cL_act 313 = .ok (.if_icmp .ge 18, 3) := by decide +kernel
theorem dL_act_316 : decode cL_act 316 = .ok (.sipush 350, 3) := by decide +kernel
theorem dL_act_319 : decode cL_act 319 = .ok (.iload_n 2, 1) := by decide +kernel
theorem dL_act_320 : decode cL_act 320 = .ok (.bipush 40, 2) := by decide +kernel
theorem dL_act_322 : decode cL_act 322 = .ok (.idiv, 1) := by decide +kernel
theorem dL_act_323 : decode cL_act 323 = .ok (.sipush 200, 3) := by decide +kernel
theorem dL_act_326 : decode cL_act 326 = .ok (.irem, 1) := by decide +kernel
theorem dL_act_327 : decode cL_act 327 = .ok (.iadd, 1) := by decide +kernel
theorem dL_act_328 : decode cL_act 328 = .ok (.goto 21, 3) := by decide +kernel
theorem dL_act_331 : decode cL_act 331 = .ok (.iload_n 2, 1) := by decide +kernel
theorem dL_act_332 : decode cL_act 332 = .ok (.bipush 40, 2) := by decide +kernel
theorem dL_act_334 : decode cL_act 334 = .ok (.idiv, 1) := by decide +kernel
theorem dL_act_335 : decode cL_act 335 = .ok (.iload 6, 2) := by decide +kernel
theorem dL_act_337 : decode cL_act 337 = .ok (.iconst 2, 1) := by decide +kernel
theorem dL_act_338 : decode cL_act 338 = .ok (.if_icmp .ne 8, 3) := by decide +kernel
theorem dL_act_341 : decode cL_act 341 = .ok (.bipush 12, 2) := by decide +kernel
theorem dL_act_343 : decode cL_act 343 = .ok (.goto 5, 3) := by decide +kernel
theorem dL_act_346 : decode cL_act 346 = .ok (.bipush 30, 2) := by decide +kernel
theorem dL_act_348 : decode cL_act 348 = .ok (.irem, 1) := by decide +kernel
theorem dL_act_349 : decode cL_act 349 = .ok (.invokestatic 192, 3) := by decide +kernel
theorem dL_act_352 : decode cL_act 352 = .ok (.ireturn, 1) := by decide +kernel
theorem dL_act_353 : decode cL_act 353 = .ok (.iload_n 2, 1) := by decide +kernel
theorem dL_act_354 : decode cL_act 354 = .ok (.iconst 2, 1) := by decide +kernel
theorem dL_act_355 : decode cL_act 355 = .ok (.irem, 1) := by decide +kernel
theorem dL_act_356 : decode cL_act 356 = .ok (.ifCond .ne 20, 3) := by decide +kernel
theorem dL_act_359 : decode cL_act 359 = .ok (.aload_n 0, 1) := by decide +kernel
theorem dL_act_360 : decode cL_act 360 = .ok (.bipush 17, 2) := by decide +kernel
theorem dL_act_362 : decode cL_act 362 = .ok (.iconst 0, 1) := by decide +kernel
theorem dL_act_363 : decode cL_act 363 = .ok (.iload_n 2, 1) := by decide +kernel
theorem dL_act_364 : decode cL_act 364 = .ok (.iconst 2, 1) := by decide +kernel
theorem dL_act_365 : decode cL_act 365 = .ok (.idiv, 1) := by decide +kernel
theorem dL_act_366 : decode cL_act 366 = .ok (.bipush 51, 2) := by decide +kernel
theorem dL_act_368 : decode cL_act 368 = .ok (.irem, 1) := by decide +kernel
theorem dL_act_369 : decode cL_act 369 = .ok (.iconst 0, 1) := by decide +kernel
theorem dL_act_370 : decode cL_act 370 = .ok (.invokestatic 192, 3) := by decide +kernel
theorem dL_act_373 : decode cL_act 373 = .ok (.goto 19, 3) := by decide +kernel
theorem dL_act_376 : decode cL_act 376 = .ok (.aload_n 0, 1) := by decide +kernel
theorem dL_act_377 : decode cL_act 377 = .ok (.bipush 17, 2) := by decide +kernel
theorem dL_act_379 : decode cL_act 379 = .ok (.iconst 1, 1) := by decide +kernel
theorem dL_act_380 : decode cL_act 380 = .ok (.iconst 1, 1) := by decide +kernel
theorem dL_act_381 : decode cL_act 381 = .ok (.iload_n 2, 1) := by decide +kernel
theorem dL_act_382 : decode cL_act 382 = .ok (.iconst 2, 1) := by decide +kernel
theorem dL_act_383 : decode cL_act 383 = .ok (.idiv, 1) := by decide +kernel
theorem dL_act_384 : decode cL_act 384 = .ok (.bipush 60, 2) := by decide +kernel
theorem dL_act_386 : decode cL_act 386 = .ok (.irem, 1) := by decide +kernel
theorem dL_act_387 : decode cL_act 387 = .ok (.iadd, 1) := by decide +kernel
theorem dL_act_388 : decode cL_act 388 = .ok (.iconst 0, 1) := by decide +kernel
theorem dL_act_389 : decode cL_act 389 = .ok (.invokestatic 192, 3) := by decide +kernel
theorem dL_act_392 : decode cL_act 392 = .ok (.ireturn, 1) := by decide +kernel
theorem dL_act_393 : decode cL_act 393 = .ok (.iload_n 3, 1) := by decide +kernel
theorem dL_act_394 : decode cL_act 394 = .ok (.iconst 2, 1) := by decide +kernel
theorem dL_act_395 : decode cL_act 395 = .ok (.if_icmp .ge 7, 3) := by decide +kernel
theorem dL_act_398 : decode cL_act 398 = .ok (.iconst (-1), 1) := by decide +kernel
theorem dL_act_399 : decode cL_act 399 = .ok (.goto 12, 3) := by decide +kernel
theorem dL_act_402 : decode cL_act 402 = .ok (.aload_n 0, 1) := by decide +kernel
theorem dL_act_403 : decode cL_act 403 = .ok (.bipush 18, 2) := by decide +kernel
theorem dL_act_405 : decode cL_act 405 = .ok (.iconst 0, 1) := by decide +kernel
theorem dL_act_406 : decode cL_act 406 = .ok (.iconst 0, 1) := by decide +kernel
theorem dL_act_407 : decode cL_act 407 = .ok (.iconst 0, 1) := by decide +kernel
theorem dL_act_408 : decode cL_act 408 = .ok (.invokestatic 192, 3) := by decide +kernel
theorem dL_act_411 : decode cL_act 411 = .ok (.ireturn, 1) := by decide +kernel
theorem dL_act_412 : decode cL_act 412 = .ok (.iload_n 2, 1) := by decide +kernel
theorem dL_act_413 : decode cL_act 413 = .ok (.iconst 2, 1) := by decide +kernel
theorem dL_act_414 : decode cL_act 414 = .ok (.irem, 1) := by decide +kernel
theorem dL_act_415 : decode cL_act 415 = .ok (.ifCond .ne 19, 3) := by decide +kernel
theorem dL_act_418 : decode cL_act 418 = .ok (.aload_n 0, 1) := by decide +kernel
theorem dL_act_419 : decode cL_act 419 = .ok (.bipush 23, 2) := by decide +kernel
theorem dL_act_421 : decode cL_act 421 = .ok (.iload_n 2, 1) := by decide +kernel
theorem dL_act_422 : decode cL_act 422 = .ok (.iconst 2, 1) := by decide +kernel
theorem dL_act_423 : decode cL_act 423 = .ok (.idiv, 1) := by decide +kernel
theorem dL_act_424 : decode cL_act 424 = .ok (.iconst 2, 1) := by decide +kernel
theorem dL_act_425 : decode cL_act 425 = .ok (.irem, 1) := by decide +kernel
theorem dL_act_426 : decode cL_act 426 = .ok (.iconst 0, 1) := by decide +kernel
theorem dL_act_427 : decode cL_act 427 = .ok (.iconst 0, 1) := by decide +kernel
theorem dL_act_428 : decode cL_act 428 = .ok (.invokestatic 192, 3) := by decide +kernel
theorem dL_act_431 : decode cL_act 431 = .ok (.goto 16, 3) := by decide +kernel
theorem dL_act_434 : decode cL_act 434 = .ok (.aload_n 0, 1) := by decide +kernel
theorem dL_act_435 : decode cL_act 435 = .ok (.bipush 24, 2) := by decide +kernel
theorem dL_act_437 : decode cL_act 437 = .ok (.iload_n 2, 1) := by decide +kernel
theorem dL_act_438 : decode cL_act 438 = .ok (.iconst 2, 1) := by decide +kernel
theorem dL_act_439 : decode cL_act 439 = .ok (.idiv, 1) := by decide +kernel
theorem dL_act_440 : decode cL_act 440 = .ok (.iconst 2, 1) := by decide +kernel
theorem dL_act_441 : decode cL_act 441 = .ok (.irem, 1) := by decide +kernel
theorem dL_act_442 : decode cL_act 442 = .ok (.iconst 0, 1) := by decide +kernel
theorem dL_act_443 : decode cL_act 443 = .ok (.iconst 0, 1) := by decide +kernel
theorem dL_act_444 : decode cL_act 444 = .ok (.invokestatic 192, 3) := by decide +kernel
theorem dL_act_447 : decode cL_act 447 = .ok (.ireturn, 1) := by decide +kernel
theorem dL_alike_0 : decode cL_alike 0 = .ok (.aload_n 0, 1) := by decide +kernel
theorem dL_alike_1 : decode cL_alike 1 = .ok (.iload_n 2, 1) := by decide +kernel
theorem dL_alike_2 : decode cL_alike 2 = .ok (.i2l, 1) := by decide +kernel
theorem dL_alike_3 : decode cL_alike 3 = .ok (.iconst 1, 1) := by decide +kernel
theorem dL_alike_4 : decode cL_alike 4 = .ok (.iload_n 2, 1) := by decide +kernel
theorem dL_alike_5 : decode cL_alike 5 = .ok (.bipush 60, 2) := by decide +kernel
theorem dL_alike_7 : decode cL_alike 7 = .ok (.irem, 1) := by decide +kernel
theorem dL_alike_8 : decode cL_alike 8 = .ok (.iadd, 1) := by decide +kernel
theorem dL_alike_9 : decode cL_alike 9 = .ok (.invokestatic 205, 3) := by decide +kernel
theorem dL_alike_12 : decode cL_alike 12 = .ok (.aload_n 1, 1) := by decide +kernel
theorem dL_alike_13 : decode cL_alike 13 = .ok (.iload_n 2, 1) := by decide +kernel
theorem dL_alike_14 : decode cL_alike 14 = .ok (.i2l, 1) := by decide +kernel
theorem dL_alike_15 : decode cL_alike 15 = .ok (.iconst 1, 1) := by decide +kernel
theorem dL_alike_16 : decode cL_alike 16 = .ok (.iload_n 2, 1) := by decide +kernel
theorem dL_alike_17 : decode cL_alike 17 = .ok (.bipush 60, 2) := by decide +kernel
theorem dL_alike_19 : decode cL_alike 19 = .ok (.irem, 1) := by decide +kernel
theorem dL_alike_20 : decode cL_alike 20 = .ok (.iadd, 1) := by decide +kernel
theorem dL_alike_21 : decode cL_alike 21 = .ok (.invokestatic 205, 3) := by decide +kernel
theorem dL_alike_24 : decode cL_alike 24 = .ok (.if_icmp .ne 18, 3) := by decide +kernel
theorem dL_alike_27 : decode cL_alike 27 = .ok (.aload_n 0, 1) := by decide +kernel
theorem dL_alike_28 : decode cL_alike 28 = .ok (.invokevirtual 209, 3) := by decide +kernel
theorem dL_alike_31 : decode cL_alike 31 = .ok (.aload_n 1, 1) := by decide +kernel
theorem dL_alike_32 : decode cL_alike 32 = .ok (.invokevirtual 209, 3) := by decide +kernel
theorem dL_alike_35 : decode cL_alike 35 = .ok (.if_icmp .ne 7, 3) := by decide +kernel
theorem dL_alike_38 : decode cL_alike 38 = .ok (.iconst 1, 1) := by decide +kernel
theorem dL_alike_39 : decode cL_alike 39 = .ok (.goto 4, 3) := by decide +kernel
theorem dL_alike_42 : decode cL_alike 42 = .ok (.iconst 0, 1) := by decide +kernel
theorem dL_alike_43 : decode cL_alike 43 = .ok (.istore_n 3, 1) := by decide +kernel
theorem dL_alike_44 : decode cL_alike 44 = .ok (.iconst 0, 1) := by decide +kernel
theorem dL_alike_45 : decode cL_alike 45 = .ok (.istore 4, 2) := by decide +kernel
theorem dL_alike_47 : decode cL_alike 47 = .ok (.iload 4, 2) := by decide +kernel
theorem dL_alike_49 : decode cL_alike 49 = .ok (.bipush 11, 2) := by decide +kernel
theorem dL_alike_51 : decode cL_alike 51 = .ok (.if_icmp .ge 146, 3) := by decide +kernel
theorem dL_alike_54 : decode cL_alike 54 = .ok (.iload_n 3, 1) := by decide +kernel
theorem dL_alike_55 : decode cL_alike 55 = .ok (.ifCond .eq 142, 3) := by decide +kernel
theorem dL_alike_58 : decode cL_alike 58 = .ok (.aload_n 0, 1) := by decide +kernel
theorem dL_alike_59 : decode cL_alike 59 = .ok (.iconst 2, 1) := by decide +kernel
theorem dL_alike_60 : decode cL_alike 60 = .ok (.iload 4, 2) := by decide +kernel
theorem dL_alike_62 : decode cL_alike 62 = .ok (.iconst 0, 1) := by decide +kernel
theorem dL_alike_63 : decode cL_alike 63 = .ok (.iconst 0, 1) := by decide +kernel
theorem dL_alike_64 : decode cL_alike 64 = .ok (.invokestatic 192, 3) := by decide +kernel
theorem dL_alike_67 : decode cL_alike 67 = .ok (.aload_n 1, 1) := by decide +kernel
theorem dL_alike_68 : decode cL_alike 68 = .ok (.iconst 2, 1) := by decide +kernel
theorem dL_alike_69 : decode cL_alike 69 = .ok (.iload 4, 2) := by decide +kernel
theorem dL_alike_71 : decode cL_alike 71 = .ok (.iconst 0, 1) := by decide +kernel
theorem dL_alike_72 : decode cL_alike 72 = .ok (.iconst 0, 1) := by decide +kernel
theorem dL_alike_73 : decode cL_alike 73 = .ok (.invokestatic 192, 3) := by decide +kernel
theorem dL_alike_76 : decode cL_alike 76 = .ok (.if_icmp .ne 113, 3) := by decide +kernel
theorem dL_alike_79 : decode cL_alike 79 = .ok (.aload_n 0, 1) := by decide +kernel
theorem dL_alike_80 : decode cL_alike 80 = .ok (.iconst 3, 1) := by decide +kernel
theorem dL_alike_81 : decode cL_alike 81 = .ok (.iload 4, 2) := by decide +kernel
theorem dL_alike_83 : decode cL_alike 83 = .ok (.iload_n 2, 1) := by decide +kernel
theorem dL_alike_84 : decode cL_alike 84 = .ok (.bipush 9, 2) := by decide +kernel
theorem dL_alike_86 : decode cL_alike 86 = .ok (.irem, 1) := by decide +kernel
theorem dL_alike_87 : decode cL_alike 87 = .ok (.iconst 0, 1) := by decide +kernel
theorem dL_alike_88 : decode cL_alike 88 = .ok (.invokestatic 192, 3) := by decide +kernel
theorem dL_alike_91 : decode cL_alike 91 = .ok (.aload_n 1, 1) := by decide +kernel
theorem dL_alike_92 : decode cL_alike 92 = .ok (.iconst 3, 1) := by decide +kernel
theorem dL_alike_93 : decode cL_alike 93 = .ok (.iload 4, 2) := by decide +kernel
theorem dL_alike_95 : decode cL_alike 95 = .ok (.iload_n 2, 1) := by decide +kernel
theorem dL_alike_96 : decode cL_alike 96 = .ok (.bipush 9, 2) := by decide +kernel
theorem dL_alike_98 : decode cL_alike 98 = .ok (.irem, 1) := by decide +kernel
theorem dL_alike_99 : decode cL_alike 99 = .ok (.iconst 0, 1) := by decide +kernel
theorem dL_alike_100 : decode cL_alike 100 = .ok (.invokestatic 192, 3) := by decide +kernel
theorem dL_alike_103 : decode cL_alike 103 = .ok (.if_icmp .ne 86, 3) := by decide +kernel
theorem dL_alike_106 : decode cL_alike 106 = .ok (.aload_n 0, 1) := by decide +kernel
theorem dL_alike_107 : decode cL_alike 107 = .ok (.iconst 5, 1) := by decide +kernel
theorem dL_alike_108 : decode cL_alike 108 = .ok (.iload 4, 2) := by decide +kernel
theorem dL_alike_110 : decode cL_alike 110 = .ok (.iload_n 2, 1) := by decide +kernel
theorem dL_alike_111 : decode cL_alike 111 = .ok (.iconst 4, 1) := by decide +kernel
theorem dL_alike_112 : decode cL_alike 112 = .ok (.irem, 1) := by decide +kernel
theorem dL_alike_113 : decode cL_alike 113 = .ok (.iconst 1, 1) := by decide +kernel
theorem dL_alike_114 : decode cL_alike 114 = .ok (.invokestatic 192, 3) := by decide +kernel
theorem dL_alike_117 : decode cL_alike 117 = .ok (.aload_n 1, 1) := by decide +kernel
theorem dL_alike_118 : decode cL_alike 118 = .ok (.iconst 5, 1) := by decide +kernel
theorem dL_alike_119 : decode cL_alike 119 = .ok (.iload 4, 2) := by decide +kernel
theorem dL_alike_121 : decode cL_alike 121 = .ok (.iload_n 2, 1) := by decide +kernel
theorem dL_alike_122 : decode cL_alike 122 = .ok (.iconst 4, 1) := by decide +kernel
theorem dL_alike_123 : decode cL_alike 123 = .ok (.irem, 1) := by decide +kernel
theorem dL_alike_124 : decode cL_alike 124 = .ok (.iconst 1, 1) := by decide +kernel
theorem dL_alike_125 : decode cL_alike 125 = .ok (.invokestatic 192, 3) := by decide +kernel
theorem dL_alike_128 : decode cL_alike 128 = .ok (.if_icmp .ne 61, 3) := by decide +kernel
theorem dL_alike_131 : decode cL_alike 131 = .ok (.aload_n 0, 1) := by decide +kernel
theorem dL_alike_132 : decode cL_alike 132 = .ok (.bipush 6, 2) := by decide +kernel
theorem dL_alike_134 : decode cL_alike 134 = .ok (.iload 4, 2) := by decide +kernel
theorem dL_alike_136 : decode cL_alike 136 = .ok (.iconst 4, 1) := by decide +kernel
theorem dL_alike_137 : decode cL_alike 137 = .ok (.irem, 1) := by decide +kernel
theorem dL_alike_138 : decode cL_alike 138 = .ok (.iload_n 2, 1) := by decide +kernel
theorem dL_alike_139 : decode cL_alike 139 = .ok (.iconst 4, 1) := by decide +kernel
theorem dL_alike_140 : decode cL_alike 140 = .ok (.irem, 1) := by decide +kernel
theorem dL_alike_141 : decode cL_alike 141 = .ok (.iconst 0, 1) := by decide +kernel
theorem dL_alike_142 : decode cL_alike 142 = .ok (.invokestatic 192, 3) := by decide +kernel
theorem dL_alike_145 : decode cL_alike 145 = .ok (.aload_n 1, 1) := by decide +kernel
theorem dL_alike_146 : decode cL_alike 146 = .ok (.bipush 6, 2) := by decide +kernel
theorem dL_alike_148 : decode cL_alike 148 = .ok (.iload 4, 2) := by decide +kernel
theorem dL_alike_150 : decode cL_alike 150 = .ok (.iconst 4, 1) := by decide +kernel
theorem dL_alike_151 : decode cL_alike 151 = .ok (.irem, 1) := by decide +kernel
theorem dL_alike_152 : decode cL_alike 152 = .ok (.iload_n 2, 1) := by decide +kernel
theorem dL_alike_153 : decode cL_alike 153 = .ok (.iconst 4, 1) := by decide +kernel
theorem dL_alike_154 : decode cL_alike 154 = .ok (.irem, 1) := by decide +kernel
theorem dL_alike_155 : decode cL_alike 155 = .ok (.iconst 0, 1) := by decide +kernel
theorem dL_alike_156 : decode cL_alike 156 = .ok (.invokestatic 192, 3) := by decide +kernel
theorem dL_alike_159 : decode cL_alike 159 = .ok (.if_icmp .ne 30, 3) := by decide +kernel
theorem dL_alike_162 : decode cL_alike 162 = .ok (.aload_n 0, 1) := by decide +kernel
theorem dL_alike_163 : decode cL_alike 163 = .ok (.bipush 20, 2) := by decide +kernel
theorem dL_alike_165 : decode cL_alike 165 = .ok (.iload 4, 2) := by decide +kernel
theorem dL_alike_167 : decode cL_alike 167 = .ok (.iconst 0, 1) := by decide +kernel
theorem dL_alike_168 : decode cL_alike 168 = .ok (.iconst 0, 1) := by decide +kernel
theorem dL_alike_169 : decode cL_alike 169 = .ok (.invokestatic 192, 3) := by decide +kernel
theorem dL_alike_172 : decode cL_alike 172 = .ok (.aload_n 1, 1) := by decide +kernel
theorem dL_alike_173 : decode cL_alike 173 = .ok (.bipush 20, 2) := by decide +kernel
theorem dL_alike_175 : decode cL_alike 175 = .ok (.iload 4, 2) := by decide +kernel
theorem dL_alike_177 : decode cL_alike 177 = .ok (.iconst 0, 1) := by decide +kernel
theorem dL_alike_178 : decode cL_alike 178 = .ok (.iconst 0, 1) := by decide +kernel
theorem dL_alike_179 : decode cL_alike 179 = .ok (.invokestatic 192, 3) := by decide +kernel
theorem dL_alike_182 : decode cL_alike 182 = .ok (.if_icmp .ne 7, 3) := by decide +kernel
theorem dL_alike_185 : decode cL_alike 185 = .ok (.iconst 1, 1) := by decide +kernel
theorem dL_alike_186 : decode cL_alike 186 = .ok (.goto 4, 3) := by decide +kernel
theorem dL_alike_189 : decode cL_alike 189 = .ok (.iconst 0, 1) := by decide +kernel
theorem dL_alike_190 : decode cL_alike 190 = .ok (.istore_n 3, 1) := by decide +kernel
theorem dL_alike_191 : decode cL_alike 191 = .ok (.iinc 4 1, 3) := by decide +kernel
theorem dL_alike_194 : decode cL_alike 194 = .ok (.goto (-147), 3) := by decide +kernel
theorem dL_alike_197 : decode cL_alike 197 = .ok (.iload_n 3, 1) := by decide +kernel
theorem dL_alike_198 : decode cL_alike 198 = .ok (.ireturn, 1) := by decide +kernel
theorem dL_law_0 : decode cL_law 0 = .ok (.new 8, 3) := by decide +kernel
theorem dL_law_3 : decode cL_law 3 = .ok (.dup, 1) := by decide +kernel
theorem dL_law_4 : decode cL_law 4 = .ok (.invokespecial 215, 3) := by decide +kernel
theorem dL_law_7 : decode cL_law 7 = .ok (.astore_n 1, 1) := by decide +kernel
theorem dL_law_8 : decode cL_law 8 = .ok (.new 8, 3) := by decide +kernel
theorem dL_law_11 : decode cL_law 11 = .ok (.dup, 1) := by decide +kernel
theorem dL_law_12 : decode cL_law 12 = .ok (.invokespecial 215, 3) := by decide +kernel
theorem dL_law_15 : decode cL_law 15 = .ok (.astore_n 2, 1) := by decide +kernel
theorem dL_law_16 : decode cL_law 16 = .ok (.bipush 14, 2) := by decide +kernel
theorem dL_law_18 : decode cL_law 18 = .ok (.aload_n 0, 1) := by decide +kernel
theorem dL_law_19 : decode cL_law 19 = .ok (.iconst 0, 1) := by decide +kernel
theorem dL_law_20 : decode cL_law 20 = .ok (.invokestatic 216, 3) := by decide +kernel
theorem dL_law_23 : decode cL_law 23 = .ok (.bipush 27, 2) := by decide +kernel
theorem dL_law_25 : decode cL_law 25 = .ok (.irem, 1) := by decide +kernel
theorem dL_law_26 : decode cL_law 26 = .ok (.iadd, 1) := by decide +kernel
theorem dL_law_27 : decode cL_law 27 = .ok (.istore_n 3, 1) := by decide +kernel
theorem dL_law_28 : decode cL_law 28 = .ok (.aload_n 0, 1) := by decide +kernel
theorem dL_law_29 : decode cL_law 29 = .ok (.iconst 1, 1) := by decide +kernel
theorem dL_law_30 : decode cL_law 30 = .ok (.invokestatic 216, 3) := by decide +kernel
theorem dL_law_33 : decode cL_law 33 = .ok (.istore 4, 2) := by decide +kernel
theorem dL_law_35 : decode cL_law 35 = .ok (.aload_n 1, 1) := by decide +kernel
theorem dL_law_36 : decode cL_law 36 = .ok (.bipush 9, 2) := by decide +kernel
theorem dL_law_38 : decode cL_law 38 = .ok (.iload 4, 2) := by decide +kernel
theorem dL_law_40 : decode cL_law 40 = .ok (.iconst 4, 1) := by decide +kernel
theorem dL_law_41 : decode cL_law 41 = .ok (.irem, 1) := by decide +kernel
theorem dL_law_42 : decode cL_law 42 = .ok (.sipush 400, 3) := by decide +kernel
theorem dL_law_45 : decode cL_law 45 = .ok (.iload 4, 2) := by decide +kernel
theorem dL_law_47 : decode cL_law 47 = .ok (.iconst 4, 1) := by decide +kernel
theorem dL_law_48 : decode cL_law 48 = .ok (.idiv, 1) := by decide +kernel
theorem dL_law_49 : decode cL_law 49 = .ok (.bipush 101, 2) := by decide +kernel
theorem dL_law_51 : decode cL_law 51 = .ok (.irem, 1) := by decide +kernel
theorem dL_law_52 : decode cL_law 52 = .ok (.iadd, 1) := by decide +kernel
theorem dL_law_53 : decode cL_law 53 = .ok (.iconst 0, 1) := by decide +kernel
theorem dL_law_54 : decode cL_law 54 = .ok (.invokestatic 192, 3) := by decide +kernel
theorem dL_law_57 : decode cL_law 57 = .ok (.ifCond .ne 96, 3) := by decide +kernel
theorem dL_law_60 : decode cL_law 60 = .ok (.aload_n 2, 1) := by decide +kernel
theorem dL_law_61 : decode cL_law 61 = .ok (.bipush 9, 2) := by decide +kernel
theorem dL_law_63 : decode cL_law 63 = .ok (.iload 4, 2) := by decide +kernel
theorem dL_law_65 : decode cL_law 65 = .ok (.iconst 4, 1) := by decide +kernel
theorem dL_law_66 : decode cL_law 66 = .ok (.irem, 1) := by decide +kernel
theorem dL_law_67 : decode cL_law 67 = .ok (.sipush 400, 3) := by decide +kernel
theorem dL_law_70 : decode cL_law 70 = .ok (.iload 4, 2) := by decide +kernel
theorem dL_law_72 : decode cL_law 72 = .ok (.iconst 4, 1) := by decide +kernel
theorem dL_law_73 : decode cL_law 73 = .ok (.idiv, 1) := by decide +kernel
theorem dL_law_74 : decode cL_law 74 = .ok (.bipush 101, 2) := by decide +kernel
theorem dL_law_76 : decode cL_law 76 = .ok (.irem, 1) := by decide +kernel
theorem dL_law_77 : decode cL_law 77 = .ok (.iadd, 1) := by decide +kernel
theorem dL_law_78 : decode cL_law 78 = .ok (.iconst 0, 1) := by decide +kernel
theorem dL_law_79 : decode cL_law 79 = .ok (.invokestatic 192, 3) := by decide +kernel
theorem dL_law_82 : decode cL_law 82 = .ok (.ifCond .ne 71, 3) := by decide +kernel
theorem dL_law_85 : decode cL_law 85 = .ok (.aload_n 1, 1) := by decide +kernel
theorem dL_law_86 : decode cL_law 86 = .ok (.bipush 9, 2) := by decide +kernel
theorem dL_law_88 : decode cL_law 88 = .ok (.iload 4, 2) := by decide +kernel
theorem dL_law_90 : decode cL_law 90 = .ok (.sipush 404, 3) := by decide +kernel
theorem dL_law_93 : decode cL_law 93 = .ok (.idiv, 1) := by decide +kernel
theorem dL_law_94 : decode cL_law 94 = .ok (.iconst 4, 1) := by decide +kernel
theorem dL_law_95 : decode cL_law 95 = .ok (.irem, 1) := by decide +kernel
theorem dL_law_96 : decode cL_law 96 = .ok (.sipush 400, 3) := by decide +kernel
theorem dL_law_99 : decode cL_law 99 = .ok (.iload 4, 2) := by decide +kernel
theorem dL_law_101 : decode cL_law 101 = .ok (.sipush 1616, 3) := by decide +kernel
theorem dL_law_104 : decode cL_law 104 = .ok (.idiv, 1) := by decide +kernel
theorem dL_law_105 : decode cL_law 105 = .ok (.bipush 101, 2) := by decide +kernel
theorem dL_law_107 : decode cL_law 107 = .ok (.irem, 1) := by decide +kernel
theorem dL_law_108 : decode cL_law 108 = .ok (.iadd, 1) := by decide +kernel
theorem dL_law_109 : decode cL_law 109 = .ok (.iconst 0, 1) := by decide +kernel
theorem dL_law_110 : decode cL_law 110 = .ok (.invokestatic 192, 3) := by decide +kernel
theorem dL_law_113 : decode cL_law 113 = .ok (.iconst 1, 1) := by decide +kernel
theorem dL_law_114 : decode cL_law 114 = .ok (.if_icmp .ne 39, 3) := by decide +kernel
theorem dL_law_117 : decode cL_law 117 = .ok (.aload_n 2, 1) := by decide +kernel
theorem dL_law_118 : decode cL_law 118 = .ok (.bipush 9, 2) := by decide +kernel
theorem dL_law_120 : decode cL_law 120 = .ok (.iload 4, 2) := by decide +kernel
theorem dL_law_122 : decode cL_law 122 = .ok (.sipush 404, 3) := by decide +kernel
theorem dL_law_125 : decode cL_law 125 = .ok (.idiv, 1) := by decide +kernel
theorem dL_law_126 : decode cL_law 126 = .ok (.iconst 4, 1) := by decide +kernel
theorem dL_law_127 : decode cL_law 127 = .ok (.irem, 1) := by decide +kernel
theorem dL_law_128 : decode cL_law 128 = .ok (.sipush 400, 3) := by decide +kernel
theorem dL_law_131 : decode cL_law 131 = .ok (.iload 4, 2) := by decide +kernel
theorem dL_law_133 : decode cL_law 133 = .ok (.sipush 1616, 3) := by decide +kernel
theorem dL_law_136 : decode cL_law 136 = .ok (.idiv, 1) := by decide +kernel
theorem dL_law_137 : decode cL_law 137 = .ok (.bipush 101, 2) := by decide +kernel
theorem dL_law_139 : decode cL_law 139 = .ok (.irem, 1) := by decide +kernel
theorem dL_law_140 : decode cL_law 140 = .ok (.iadd, 1) := by decide +kernel
theorem dL_law_141 : decode cL_law 141 = .ok (.iconst 0, 1) := by decide +kernel
theorem dL_law_142 : decode cL_law 142 = .ok (.invokestatic 192, 3) := by decide +kernel
theorem dL_law_145 : decode cL_law 145 = .ok (.iconst 1, 1) := by decide +kernel
theorem dL_law_146 : decode cL_law 146 = .ok (.if_icmp .ne 7, 3) := by decide +kernel
theorem dL_law_149 : decode cL_law 149 = .ok (.iconst 1, 1) := by decide +kernel
theorem dL_law_150 : decode cL_law 150 = .ok (.goto 4, 3) := by decide +kernel
theorem dL_law_153 : decode cL_law 153 = .ok (.iconst 0, 1) := by decide +kernel
theorem dL_law_154 : decode cL_law 154 = .ok (.istore 5, 2) := by decide +kernel
theorem dL_law_156 : decode cL_law 156 = .ok (.iconst 0, 1) := by decide +kernel
theorem dL_law_157 : decode cL_law 157 = .ok (.istore 6, 2) := by decide +kernel
theorem dL_law_159 : decode cL_law 159 = .ok (.iload 6, 2) := by decide +kernel
theorem dL_law_161 : decode cL_law 161 = .ok (.iload_n 3, 1) := by decide +kernel
theorem dL_law_162 : decode cL_law 162 = .ok (.if_icmp .ge 147, 3) := by decide +kernel
theorem dL_law_165 : decode cL_law 165 = .ok (.iload 5, 2) := by decide +kernel
theorem dL_law_167 : decode cL_law 167 = .ok (.ifCond .eq 142, 3) := by decide +kernel
theorem dL_law_170 : decode cL_law 170 = .ok (.aload_n 0, 1) := by decide +kernel
theorem dL_law_171 : decode cL_law 171 = .ok (.iconst 2, 1) := by decide +kernel
theorem dL_law_172 : decode cL_law 172 = .ok (.iload 6, 2) := by decide +kernel
theorem dL_law_174 : decode cL_law 174 = .ok (.iadd, 1) := by decide +kernel
theorem dL_law_175 : decode cL_law 175 = .ok (.invokestatic 216, 3) := by decide +kernel
theorem dL_law_178 : decode cL_law 178 = .ok (.istore 7, 2) := by decide +kernel
theorem dL_law_180 : decode cL_law 180 = .ok (.aload_n 1, 1) := by decide +kernel
theorem dL_law_181 : decode cL_law 181 = .ok (.iload 7, 2) := by decide +kernel
theorem dL_law_183 : decode cL_law 183 = .ok (.invokestatic 220, 3) := by decide +kernel
theorem dL_law_186 : decode cL_law 186 = .ok (.istore 8, 2) := by decide +kernel
theorem dL_law_188 : decode cL_law 188 = .ok (.aload_n 2, 1) := by decide +kernel
theorem dL_law_189 : decode cL_law 189 = .ok (.iload 7, 2) := by decide +kernel
theorem dL_law_191 : decode cL_law 191 = .ok (.ldc 223, 2) := by decide +kernel
theorem dL_law_193 : decode cL_law 193 = .ok (.irem, 1) := by decide +kernel
theorem dL_law_194 : decode cL_law 194 = .ok (.invokestatic 224, 3) := by decide +kernel
theorem dL_law_197 : decode cL_law 197 = .ok (.ifCond .eq 103, 3) := by decide +kernel
theorem dL_law_200 : decode cL_law 200 = .ok (.aload_n 2, 1) := by decide +kernel
theorem dL_law_201 : decode cL_law 201 = .ok (.iload 7, 2) := by decide +kernel
theorem dL_law_203 : decode cL_law 203 = .ok (.invokestatic 220, 3) := by decide +kernel
theorem dL_law_206 : decode cL_law 206 = .ok (.iload 8, 2) := by decide +kernel
theorem dL_law_208 : decode cL_law 208 = .ok (.if_icmp .ne 92, 3) := by decide +kernel
theorem dL_law_211 : decode cL_law 211 = .ok (.aload_n 2, 1) := by decide +kernel
theorem dL_law_212 : decode cL_law 212 = .ok (.iload 7, 2) := by decide +kernel
theorem dL_law_214 : decode cL_law 214 = .ok (.sipush 1000, 3) := by decide +kernel
theorem dL_law_217 : decode cL_law 217 = .ok (.irem, 1) := by decide +kernel
theorem dL_law_218 : decode cL_law 218 = .ok (.invokestatic 224, 3) := by decide +kernel
theorem dL_law_221 : decode cL_law 221 = .ok (.ifCond .eq 79, 3) := by decide +kernel
theorem dL_law_224 : decode cL_law 224 = .ok (.aload_n 1, 1) := by decide +kernel
theorem dL_law_225 : decode cL_law 225 = .ok (.aload_n 2, 1) := by decide +kernel
theorem dL_law_226 : decode cL_law 226 = .ok (.iload 7, 2) := by decide +kernel
theorem dL_law_228 : decode cL_law 228 = .ok (.sipush 5000, 3) := by decide +kernel
theorem dL_law_231 : decode cL_law 231 = .ok (.irem, 1) := by decide +kernel
theorem dL_law_232 : decode cL_law 232 = .ok (.invokestatic 228, 3) := by decide +kernel
theorem dL_law_235 : decode cL_law 235 = .ok (.ifCond .eq 65, 3) := by decide +kernel
theorem dL_law_238 : decode cL_law 238 = .ok (.iload 6, 2) := by decide +kernel
theorem dL_law_240 : decode cL_law 240 = .ok (.iconst 2, 1) := by decide +kernel
theorem dL_law_241 : decode cL_law 241 = .ok (.irem, 1) := by decide +kernel
theorem dL_law_242 : decode cL_law 242 = .ok (.ifCond .ne 17, 3) := by decide +kernel
theorem dL_law_245 : decode cL_law 245 = .ok (.aload_n 1, 1) := by decide +kernel
theorem dL_law_246 : decode cL_law 246 = .ok (.iload 7, 2) := by decide +kernel
theorem dL_law_248 : decode cL_law 248 = .ok (.iconst 3, 1) := by decide +kernel
theorem dL_law_249 : decode cL_law 249 = .ok (.idiv, 1) := by decide +kernel
theorem dL_law_250 : decode cL_law 250 = .ok (.invokestatic 232, 3) := by decide +kernel
theorem dL_law_253 : decode cL_law 253 = .ok (.ifCond .eq 47, 3) := by decide +kernel
theorem dL_law_256 : decode cL_law 256 = .ok (.goto 14, 3) := by decide +kernel
theorem dL_law_259 : decode cL_law 259 = .ok (.aload_n 2, 1) := by decide +kernel
theorem dL_law_260 : decode cL_law 260 = .ok (.iload 7, 2) := by decide +kernel
theorem dL_law_262 : decode cL_law 262 = .ok (.iconst 3, 1) := by decide +kernel
theorem dL_law_263 : decode cL_law 263 = .ok (.idiv, 1) := by decide +kernel
theorem dL_law_264 : decode cL_law 264 = .ok (.invokestatic 232, 3) := by decide +kernel
theorem dL_law_267 : decode cL_law 267 = .ok (.ifCond .eq 33, 3) := by decide +kernel
theorem dL_law_270 : decode cL_law 270 = .ok (.aload_n 1, 1) := by decide +kernel
theorem dL_law_271 : decode cL_law 271 = .ok (.aload_n 2, 1) := by decide +kernel
theorem dL_law_272 : decode cL_law 272 = .ok (.iload 7, 2) := by decide +kernel
theorem dL_law_274 : decode cL_law 274 = .ok (.bipush 7, 2) := by decide +kernel
theorem dL_law_276 : decode cL_law 276 = .ok (.idiv, 1) := by decide +kernel
theorem dL_law_277 : decode cL_law 277 = .ok (.invokestatic 235, 3) := by decide +kernel
theorem dL_law_280 : decode cL_law 280 = .ok (.ifCond .eq 20, 3) := by decide +kernel
theorem dL_law_283 : decode cL_law 283 = .ok (.aload_n 1, 1) := by decide +kernel
theorem dL_law_284 : decode cL_law 284 = .ok (.aload_n 2, 1) := by decide +kernel
theorem dL_law_285 : decode cL_law 285 = .ok (.iload 7, 2) := by decide +kernel
theorem dL_law_287 : decode cL_law 287 = .ok (.bipush 11, 2) := by decide +kernel
theorem dL_law_289 : decode cL_law 289 = .ok (.idiv, 1) := by decide +kernel
theorem dL_law_290 : decode cL_law 290 = .ok (.invokestatic 238, 3) := by decide +kernel
theorem dL_law_293 : decode cL_law 293 = .ok (.ifCond .eq 7, 3) := by decide +kernel
theorem dL_law_296 : decode cL_law 296 = .ok (.iconst 1, 1) := by decide +kernel
theorem dL_law_297 : decode cL_law 297 = .ok (.goto 4, 3) := by decide +kernel
theorem dL_law_300 : decode cL_law 300 = .ok (.iconst 0, 1) := by decide +kernel
theorem dL_law_301 : decode cL_law 301 = .ok (.istore 5, 2) := by decide +kernel
theorem dL_law_303 : decode cL_law 303 = .ok (.iinc 6 1, 3) := by decide +kernel
theorem dL_law_306 : decode cL_law 306 = .ok (.goto (-147), 3) := by decide +kernel
theorem dL_law_309 : decode cL_law 309 = .ok (.iload 5, 2) := by decide +kernel
theorem dL_law_311 : decode cL_law 311 = .ok (.ireturn, 1) := by decide +kernel
theorem dL_turned_0 : decode cL_turned 0 = .ok (.iload_n 2, 1) := by decide +kernel
theorem dL_turned_1 : decode cL_turned 1 = .ok (.aload_n 0, 1) := by decide +kernel
theorem dL_turned_2 : decode cL_turned 2 = .ok (.iconst 2, 1) := by decide +kernel
theorem dL_turned_3 : decode cL_turned 3 = .ok (.iconst 0, 1) := by decide +kernel
theorem dL_turned_4 : decode cL_turned 4 = .ok (.iconst 0, 1) := by decide +kernel
theorem dL_turned_5 : decode cL_turned 5 = .ok (.iconst 0, 1) := by decide +kernel
theorem dL_turned_6 : decode cL_turned 6 = .ok (.invokestatic 192, 3) := by decide +kernel
theorem dL_turned_9 : decode cL_turned 9 = .ok (.irem, 1) := by decide +kernel
theorem dL_turned_10 : decode cL_turned 10 = .ok (.istore_n 3, 1) := by decide +kernel
theorem dL_turned_11 : decode cL_turned 11 = .ok (.iload_n 2, 1) := by decide +kernel
theorem dL_turned_12 : decode cL_turned 12 = .ok (.bipush 10, 2) := by decide +kernel
theorem dL_turned_14 : decode cL_turned 14 = .ok (.idiv, 1) := by decide +kernel
theorem dL_turned_15 : decode cL_turned 15 = .ok (.aload_n 0, 1) := by decide +kernel
theorem dL_turned_16 : decode cL_turned 16 = .ok (.iconst 2, 1) := by decide +kernel
theorem dL_turned_17 : decode cL_turned 17 = .ok (.iconst 1, 1) := by decide +kernel
theorem dL_turned_18 : decode cL_turned 18 = .ok (.iconst 0, 1) := by decide +kernel
theorem dL_turned_19 : decode cL_turned 19 = .ok (.iconst 0, 1) := by decide +kernel
theorem dL_turned_20 : decode cL_turned 20 = .ok (.invokestatic 192, 3) := by decide +kernel
theorem dL_turned_23 : decode cL_turned 23 = .ok (.irem, 1) := by decide +kernel
theorem dL_turned_24 : decode cL_turned 24 = .ok (.istore 4, 2) := by decide +kernel
theorem dL_turned_26 : decode cL_turned 26 = .ok (.aload_n 0, 1) := by decide +kernel
theorem dL_turned_27 : decode cL_turned 27 = .ok (.bipush 19, 2) := by decide +kernel
theorem dL_turned_29 : decode cL_turned 29 = .ok (.iload_n 3, 1) := by decide +kernel
theorem dL_turned_30 : decode cL_turned 30 = .ok (.iload 4, 2) := by decide +kernel
theorem dL_turned_32 : decode cL_turned 32 = .ok (.iconst 0, 1) := by decide +kernel
theorem dL_turned_33 : decode cL_turned 33 = .ok (.invokestatic 192, 3) := by decide +kernel
theorem dL_turned_36 : decode cL_turned 36 = .ok (.istore 5, 2) := by decide +kernel
theorem dL_turned_38 : decode cL_turned 38 = .ok (.aload_n 0, 1) := by decide +kernel
theorem dL_turned_39 : decode cL_turned 39 = .ok (.bipush 19, 2) := by decide +kernel
theorem dL_turned_41 : decode cL_turned 41 = .ok (.iload_n 3, 1) := by decide +kernel
theorem dL_turned_42 : decode cL_turned 42 = .ok (.iload 4, 2) := by decide +kernel
theorem dL_turned_44 : decode cL_turned 44 = .ok (.iconst 1, 1) := by decide +kernel
theorem dL_turned_45 : decode cL_turned 45 = .ok (.invokestatic 192, 3) := by decide +kernel
theorem dL_turned_48 : decode cL_turned 48 = .ok (.istore 6, 2) := by decide +kernel
theorem dL_turned_50 : decode cL_turned 50 = .ok (.aload_n 0, 1) := by decide +kernel
theorem dL_turned_51 : decode cL_turned 51 = .ok (.iconst 4, 1) := by decide +kernel
theorem dL_turned_52 : decode cL_turned 52 = .ok (.iload_n 3, 1) := by decide +kernel
theorem dL_turned_53 : decode cL_turned 53 = .ok (.iconst 0, 1) := by decide +kernel
theorem dL_turned_54 : decode cL_turned 54 = .ok (.iconst 0, 1) := by decide +kernel
theorem dL_turned_55 : decode cL_turned 55 = .ok (.invokestatic 192, 3) := by decide +kernel
theorem dL_turned_58 : decode cL_turned 58 = .ok (.istore 7, 2) := by decide +kernel
theorem dL_turned_60 : decode cL_turned 60 = .ok (.aload_n 0, 1) := by decide +kernel
theorem dL_turned_61 : decode cL_turned 61 = .ok (.iconst 3, 1) := by decide +kernel
theorem dL_turned_62 : decode cL_turned 62 = .ok (.iload_n 3, 1) := by decide +kernel
theorem dL_turned_63 : decode cL_turned 63 = .ok (.bipush 6, 2) := by decide +kernel
theorem dL_turned_65 : decode cL_turned 65 = .ok (.iconst 0, 1) := by decide +kernel
theorem dL_turned_66 : decode cL_turned 66 = .ok (.invokestatic 192, 3) := by decide +kernel
theorem dL_turned_69 : decode cL_turned 69 = .ok (.istore 8, 2) := by decide +kernel
theorem dL_turned_71 : decode cL_turned 71 = .ok (.iconst 0, 1) := by decide +kernel
theorem dL_turned_72 : decode cL_turned 72 = .ok (.istore 9, 2) := by decide +kernel
theorem dL_turned_74 : decode cL_turned 74 = .ok (.iconst 1, 1) := by decide +kernel
theorem dL_turned_75 : decode cL_turned 75 = .ok (.istore 10, 2) := by decide +kernel
theorem dL_turned_77 : decode cL_turned 77 = .ok (.iconst 0, 1) := by decide +kernel
theorem dL_turned_78 : decode cL_turned 78 = .ok (.istore 11, 2) := by decide +kernel
theorem dL_turned_80 : decode cL_turned 80 = .ok (.iload 11, 2) := by decide +kernel
theorem dL_turned_82 : decode cL_turned 82 = .ok (.iconst 5, 1) := by decide +kernel
theorem dL_turned_83 : decode cL_turned 83 = .ok (.if_icmp .ge 192, 3) := by decide +kernel
theorem dL_turned_86 : decode cL_turned 86 = .ok (.iload 10, 2) := by decide +kernel
theorem dL_turned_88 : decode cL_turned 88 = .ok (.ifCond .eq 187, 3) := by decide +kernel
theorem dL_turned_91 : decode cL_turned 91 = .ok (.iload 11, 2) := by decide +kernel
theorem dL_turned_93 : decode cL_turned 93 = .ok (.ifCond .ne 8, 3) := by decide +kernel
theorem dL_turned_96 : decode cL_turned 96 = .ok (.iload 5, 2) := by decide +kernel
theorem dL_turned_98 : decode cL_turned 98 = .ok (.goto 7, 3) := by decide +kernel
theorem dL_turned_101 : decode cL_turned 101 = .ok (.iload 11, 2) := by decide +kernel
theorem dL_turned_103 : decode cL_turned 103 = .ok (.iconst 1, 1) := by decide +kernel
theorem dL_turned_104 : decode cL_turned 104 = .ok (.isub, 1) := by decide +kernel
theorem dL_turned_105 : decode cL_turned 105 = .ok (.istore 12, 2) := by decide +kernel
theorem dL_turned_107 : decode cL_turned 107 = .ok (.aload_n 0, 1) := by decide +kernel
theorem dL_turned_108 : decode cL_turned 108 = .ok (.bipush 11, 2) := by decide +kernel
theorem dL_turned_110 : decode cL_turned 110 = .ok (.iload_n 3, 1) := by decide +kernel
theorem dL_turned_111 : decode cL_turned 111 = .ok (.iload 4, 2) := by decide +kernel
theorem dL_turned_113 : decode cL_turned 113 = .ok (.iload 12, 2) := by decide +kernel
theorem dL_turned_115 : decode cL_turned 115 = .ok (.invokestatic 192, 3) := by decide +kernel
theorem dL_turned_118 : decode cL_turned 118 = .ok (.istore 13, 2) := by decide +kernel
theorem dL_turned_120 : decode cL_turned 120 = .ok (.aload_n 1, 1) := by decide +kernel
theorem dL_turned_121 : decode cL_turned 121 = .ok (.bipush 11, 2) := by decide +kernel
theorem dL_turned_123 : decode cL_turned 123 = .ok (.iload_n 3, 1) := by decide +kernel
theorem dL_turned_124 : decode cL_turned 124 = .ok (.iload 4, 2) := by decide +kernel
theorem dL_turned_126 : decode cL_turned 126 = .ok (.iload 12, 2) := by decide +kernel
theorem dL_turned_128 : decode cL_turned 128 = .ok (.invokestatic 192, 3) := by decide +kernel
theorem dL_turned_131 : decode cL_turned 131 = .ok (.iload 13, 2) := by decide +kernel
theorem dL_turned_133 : decode cL_turned 133 = .ok (.if_icmp .ne 39, 3) := by decide +kernel
theorem dL_turned_136 : decode cL_turned 136 = .ok (.iload 13, 2) := by decide +kernel
theorem dL_turned_138 : decode cL_turned 138 = .ok (.aload_n 0, 1) := by decide +kernel
theorem dL_turned_139 : decode cL_turned 139 = .ok (.iconst 4, 1) := by decide +kernel
theorem dL_turned_140 : decode cL_turned 140 = .ok (.iload_n 3, 1) := by decide +kernel
theorem dL_turned_141 : decode cL_turned 141 = .ok (.iconst 0, 1) := by decide +kernel
theorem dL_turned_142 : decode cL_turned 142 = .ok (.iconst 0, 1) := by decide +kernel
theorem dL_turned_143 : decode cL_turned 143 = .ok (.invokestatic 192, 3) := by decide +kernel
theorem dL_turned_146 : decode cL_turned 146 = .ok (.if_icmp .ne 26, 3) := by decide +kernel
theorem dL_turned_149 : decode cL_turned 149 = .ok (.iload 13, 2) := by decide +kernel
theorem dL_turned_151 : decode cL_turned 151 = .ok (.iload 6, 2) := by decide +kernel
theorem dL_turned_153 : decode cL_turned 153 = .ok (.if_icmp .lt 19, 3) := by decide +kernel
theorem dL_turned_156 : decode cL_turned 156 = .ok (.iload 11, 2) := by decide +kernel
theorem dL_turned_158 : decode cL_turned 158 = .ok (.ifCond .gt 10, 3) := by decide +kernel
theorem dL_turned_161 : decode cL_turned 161 = .ok (.iload 13, 2) := by decide +kernel
theorem dL_turned_163 : decode cL_turned 163 = .ok (.iload 6, 2) := by decide +kernel
theorem dL_turned_165 : decode cL_turned 165 = .ok (.if_icmp .ne 7, 3) := by decide +kernel
theorem dL_turned_168 : decode cL_turned 168 = .ok (.iconst 1, 1) := by decide +kernel
theorem dL_turned_169 : decode cL_turned 169 = .ok (.goto 4, 3) := by decide +kernel
theorem dL_turned_172 : decode cL_turned 172 = .ok (.iconst 0, 1) := by decide +kernel
theorem dL_turned_173 : decode cL_turned 173 = .ok (.istore 10, 2) := by decide +kernel
theorem dL_turned_175 : decode cL_turned 175 = .ok (.aload_n 0, 1) := by decide +kernel
theorem dL_turned_176 : decode cL_turned 176 = .ok (.iconst 3, 1) := by decide +kernel
theorem dL_turned_177 : decode cL_turned 177 = .ok (.iload_n 3, 1) := by decide +kernel
theorem dL_turned_178 : decode cL_turned 178 = .ok (.iconst 3, 1) := by decide +kernel
theorem dL_turned_179 : decode cL_turned 179 = .ok (.iconst 0, 1) := by decide +kernel
theorem dL_turned_180 : decode cL_turned 180 = .ok (.invokestatic 192, 3) := by decide +kernel
theorem dL_turned_183 : decode cL_turned 183 = .ok (.istore 14, 2) := by decide +kernel
theorem dL_turned_185 : decode cL_turned 185 = .ok (.iload 11, 2) := by decide +kernel
theorem dL_turned_187 : decode cL_turned 187 = .ok (.ifCond .ne 8, 3) := by decide +kernel
theorem dL_turned_190 : decode cL_turned 190 = .ok (.iload 14, 2) := by decide +kernel
theorem dL_turned_192 : decode cL_turned 192 = .ok (.goto 5, 3) := by decide +kernel
theorem dL_turned_195 : decode cL_turned 195 = .ok (.iload 9, 2) := by decide +kernel
theorem dL_turned_197 : decode cL_turned 197 = .ok (.istore 9, 2) := by decide +kernel
theorem dL_turned_199 : decode cL_turned 199 = .ok (.iload 10, 2) := by decide +kernel
theorem dL_turned_201 : decode cL_turned 201 = .ok (.ifCond .eq 65, 3) := by decide +kernel
theorem dL_turned_204 : decode cL_turned 204 = .ok (.iload 13, 2) := by decide +kernel
theorem dL_turned_206 : decode cL_turned 206 = .ok (.iload 6, 2) := by decide +kernel
theorem dL_turned_208 : decode cL_turned 208 = .ok (.if_icmp .gt 24, 3) := by decide +kernel
theorem dL_turned_211 : decode cL_turned 211 = .ok (.iload 14, 2) := by decide +kernel
theorem dL_turned_213 : decode cL_turned 213 = .ok (.iload 9, 2) := by decide +kernel
theorem dL_turned_215 : decode cL_turned 215 = .ok (.if_icmp .gt 17, 3) := by decide +kernel
theorem dL_turned_218 : decode cL_turned 218 = .ok (.iload 14, 2) := by decide +kernel
theorem dL_turned_220 : decode cL_turned 220 = .ok (.iload 9, 2) := by decide +kernel
theorem dL_turned_222 : decode cL_turned 222 = .ok (.if_icmp .ne 44, 3) := by decide +kernel
theorem dL_turned_225 : decode cL_turned 225 = .ok (.iload 12, 2) := by decide +kernel
theorem dL_turned_227 : decode cL_turned 227 = .ok (.iload 5, 2) := by decide +kernel
theorem dL_turned_229 : decode cL_turned 229 = .ok (.if_icmp .lt 37, 3) := by decide +kernel
theorem dL_turned_232 : decode cL_turned 232 = .ok (.aload_n 0, 1) := by decide +kernel
theorem dL_turned_233 : decode cL_turned 233 = .ok (.bipush 18, 2) := by decide +kernel
theorem dL_turned_235 : decode cL_turned 235 = .ok (.iconst 0, 1) := by decide +kernel
theorem dL_turned_236 : decode cL_turned 236 = .ok (.iconst 0, 1) := by decide +kernel
theorem dL_turned_237 : decode cL_turned 237 = .ok (.iconst 0, 1) := by decide +kernel
theorem dL_turned_238 : decode cL_turned 238 = .ok (.invokestatic 192, 3) := by decide +kernel
theorem dL_turned_241 : decode cL_turned 241 = .ok (.invokestatic 241, 3) := by decide +kernel
theorem dL_turned_244 : decode cL_turned 244 = .ok (.ifCond .ne 22, 3) := by decide +kernel
theorem dL_turned_247 : decode cL_turned 247 = .ok (.aload_n 1, 1) := by decide +kernel
theorem dL_turned_248 : decode cL_turned 248 = .ok (.bipush 18, 2) := by decide +kernel
theorem dL_turned_250 : decode cL_turned 250 = .ok (.iconst 0, 1) := by decide +kernel
theorem dL_turned_251 : decode cL_turned 251 = .ok (.iconst 0, 1) := by decide +kernel
theorem dL_turned_252 : decode cL_turned 252 = .ok (.iconst 0, 1) := by decide +kernel
theorem dL_turned_253 : decode cL_turned 253 = .ok (.invokestatic 192, 3) := by decide +kernel
theorem dL_turned_256 : decode cL_turned 256 = .ok (.invokestatic 241, 3) := by decide +kernel
theorem dL_turned_259 : decode cL_turned 259 = .ok (.ifCond .ne 7, 3) := by decide +kernel
theorem dL_turned_262 : decode cL_turned 262 = .ok (.iconst 1, 1) := by decide +kernel
theorem dL_turned_263 : decode cL_turned 263 = .ok (.goto 4, 3) := by decide +kernel
theorem dL_turned_266 : decode cL_turned 266 = .ok (.iconst 0, 1) := by decide +kernel
theorem dL_turned_267 : decode cL_turned 267 = .ok (.istore 10, 2) := by decide +kernel
theorem dL_turned_269 : decode cL_turned 269 = .ok (.iinc 11 1, 3) := by decide +kernel
theorem dL_turned_272 : decode cL_turned 272 = .ok (.goto (-192), 3) := by decide +kernel
theorem dL_turned_275 : decode cL_turned 275 = .ok (.aload_n 0, 1) := by decide +kernel
theorem dL_turned_276 : decode cL_turned 276 = .ok (.bipush 22, 2) := by decide +kernel
theorem dL_turned_278 : decode cL_turned 278 = .ok (.iload_n 3, 1) := by decide +kernel
theorem dL_turned_279 : decode cL_turned 279 = .ok (.iconst 0, 1) := by decide +kernel
theorem dL_turned_280 : decode cL_turned 280 = .ok (.iconst 0, 1) := by decide +kernel
theorem dL_turned_281 : decode cL_turned 281 = .ok (.invokestatic 192, 3) := by decide +kernel
theorem dL_turned_284 : decode cL_turned 284 = .ok (.istore 11, 2) := by decide +kernel
theorem dL_turned_286 : decode cL_turned 286 = .ok (.iload 10, 2) := by decide +kernel
theorem dL_turned_288 : decode cL_turned 288 = .ok (.ifCond .eq 44, 3) := by decide +kernel
theorem dL_turned_291 : decode cL_turned 291 = .ok (.aload_n 0, 1) := by decide +kernel
theorem dL_turned_292 : decode cL_turned 292 = .ok (.bipush 19, 2) := by decide +kernel
theorem dL_turned_294 : decode cL_turned 294 = .ok (.iload_n 3, 1) := by decide +kernel
theorem dL_turned_295 : decode cL_turned 295 = .ok (.iload 11, 2) := by decide +kernel
theorem dL_turned_297 : decode cL_turned 297 = .ok (.iconst 1, 1) := by decide +kernel
theorem dL_turned_298 : decode cL_turned 298 = .ok (.invokestatic 192, 3) := by decide +kernel
theorem dL_turned_301 : decode cL_turned 301 = .ok (.iload 6, 2) := by decide +kernel
theorem dL_turned_303 : decode cL_turned 303 = .ok (.if_icmp .gt 29, 3) := by decide +kernel
theorem dL_turned_306 : decode cL_turned 306 = .ok (.iload 4, 2) := by decide +kernel
theorem dL_turned_308 : decode cL_turned 308 = .ok (.iload 11, 2) := by decide +kernel
theorem dL_turned_310 : decode cL_turned 310 = .ok (.if_icmp .ge 18, 3) := by decide +kernel
theorem dL_turned_313 : decode cL_turned 313 = .ok (.aload_n 0, 1) := by decide +kernel
theorem dL_turned_314 : decode cL_turned 314 = .ok (.bipush 19, 2) := by decide +kernel
theorem dL_turned_316 : decode cL_turned 316 = .ok (.iload_n 3, 1) := by decide +kernel
theorem dL_turned_317 : decode cL_turned 317 = .ok (.iload 11, 2) := by decide +kernel
theorem dL_turned_319 : decode cL_turned 319 = .ok (.iconst 1, 1) := by decide +kernel
theorem dL_turned_320 : decode cL_turned 320 = .ok (.invokestatic 192, 3) := by decide +kernel
theorem dL_turned_323 : decode cL_turned 323 = .ok (.iload 6, 2) := by decide +kernel
theorem dL_turned_325 : decode cL_turned 325 = .ok (.if_icmp .ge 7, 3) := by decide +kernel
theorem dL_turned_328 : decode cL_turned 328 = .ok (.iconst 1, 1) := by decide +kernel
theorem dL_turned_329 : decode cL_turned 329 = .ok (.goto 4, 3) := by decide +kernel
theorem dL_turned_332 : decode cL_turned 332 = .ok (.iconst 0, 1) := by decide +kernel
theorem dL_turned_333 : decode cL_turned 333 = .ok (.istore 10, 2) := by decide +kernel
theorem dL_turned_335 : decode cL_turned 335 = .ok (.aload_n 0, 1) := by decide +kernel
theorem dL_turned_336 : decode cL_turned 336 = .ok (.bipush 20, 2) := by decide +kernel
theorem dL_turned_338 : decode cL_turned 338 = .ok (.iload_n 3, 1) := by decide +kernel
theorem dL_turned_339 : decode cL_turned 339 = .ok (.iconst 0, 1) := by decide +kernel
theorem dL_turned_340 : decode cL_turned 340 = .ok (.iconst 0, 1) := by decide +kernel
theorem dL_turned_341 : decode cL_turned 341 = .ok (.invokestatic 192, 3) := by decide +kernel
theorem dL_turned_344 : decode cL_turned 344 = .ok (.istore 12, 2) := by decide +kernel
theorem dL_turned_346 : decode cL_turned 346 = .ok (.iload 12, 2) := by decide +kernel
theorem dL_turned_348 : decode cL_turned 348 = .ok (.iconst (-1), 1) := by decide +kernel
theorem dL_turned_349 : decode cL_turned 349 = .ok (.if_icmp .eq 122, 3) := by decide +kernel
theorem dL_turned_352 : decode cL_turned 352 = .ok (.iload 10, 2) := by decide +kernel
theorem dL_turned_354 : decode cL_turned 354 = .ok (.ifCond .eq 117, 3) := by decide +kernel
theorem dL_turned_357 : decode cL_turned 357 = .ok (.aload_n 0, 1) := by decide +kernel
theorem dL_turned_358 : decode cL_turned 358 = .ok (.iconst 5, 1) := by decide +kernel
theorem dL_turned_359 : decode cL_turned 359 = .ok (.iload_n 3, 1) := by decide +kernel
theorem dL_turned_360 : decode cL_turned 360 = .ok (.iload 12, 2) := by decide +kernel
theorem dL_turned_362 : decode cL_turned 362 = .ok (.iconst 0, 1) := by decide +kernel
theorem dL_turned_363 : decode cL_turned 363 = .ok (.invokestatic 192, 3) := by decide +kernel
theorem dL_turned_366 : decode cL_turned 366 = .ok (.istore 13, 2) := by decide +kernel
theorem dL_turned_368 : decode cL_turned 368 = .ok (.iload 7, 2) := by decide +kernel
theorem dL_turned_370 : decode cL_turned 370 = .ok (.ifCond .le 98, 3) := by decide +kernel
theorem dL_turned_373 : decode cL_turned 373 = .ok (.aload_n 0, 1) := by decide +kernel
theorem dL_turned_374 : decode cL_turned 374 = .ok (.bipush 12, 2) := by decide +kernel
theorem dL_turned_376 : decode cL_turned 376 = .ok (.iload_n 3, 1) := by decide +kernel
theorem dL_turned_377 : decode cL_turned 377 = .ok (.iload 12, 2) := by decide +kernel
theorem dL_turned_379 : decode cL_turned 379 = .ok (.iload 7, 2) := by decide +kernel
theorem dL_turned_381 : decode cL_turned 381 = .ok (.invokestatic 192, 3) := by decide +kernel
theorem dL_turned_384 : decode cL_turned 384 = .ok (.iload 13, 2) := by decide +kernel
theorem dL_turned_386 : decode cL_turned 386 = .ok (.iload 7, 2) := by decide +kernel
theorem dL_turned_388 : decode cL_turned 388 = .ok (.isub, 1) := by decide +kernel
theorem dL_turned_389 : decode cL_turned 389 = .ok (.if_icmp .ne 79, 3) := by decide +kernel
theorem dL_turned_392 : decode cL_turned 392 = .ok (.aload_n 1, 1) := by decide +kernel
theorem dL_turned_393 : decode cL_turned 393 = .ok (.bipush 12, 2) := by decide +kernel
theorem dL_turned_395 : decode cL_turned 395 = .ok (.iload_n 3, 1) := by decide +kernel
theorem dL_turned_396 : decode cL_turned 396 = .ok (.iload 12, 2) := by decide +kernel
theorem dL_turned_398 : decode cL_turned 398 = .ok (.iload 7, 2) := by decide +kernel
theorem dL_turned_400 : decode cL_turned 400 = .ok (.invokestatic 192, 3) := by decide +kernel
theorem dL_turned_403 : decode cL_turned 403 = .ok (.iload 13, 2) := by decide +kernel
theorem dL_turned_405 : decode cL_turned 405 = .ok (.iload 7, 2) := by decide +kernel
theorem dL_turned_407 : decode cL_turned 407 = .ok (.isub, 1) := by decide +kernel
theorem dL_turned_408 : decode cL_turned 408 = .ok (.if_icmp .ne 60, 3) := by decide +kernel
theorem dL_turned_411 : decode cL_turned 411 = .ok (.aload_n 0, 1) := by decide +kernel
theorem dL_turned_412 : decode cL_turned 412 = .ok (.iconst 4, 1) := by decide +kernel
theorem dL_turned_413 : decode cL_turned 413 = .ok (.iload_n 3, 1) := by decide +kernel
theorem dL_turned_414 : decode cL_turned 414 = .ok (.iconst 1, 1) := by decide +kernel
theorem dL_turned_415 : decode cL_turned 415 = .ok (.iconst 0, 1) := by decide +kernel
theorem dL_turned_416 : decode cL_turned 416 = .ok (.invokestatic 192, 3) := by decide +kernel
theorem dL_turned_419 : decode cL_turned 419 = .ok (.ifCond .ne 49, 3) := by decide +kernel
theorem dL_turned_422 : decode cL_turned 422 = .ok (.aload_n 0, 1) := by decide +kernel
theorem dL_turned_423 : decode cL_turned 423 = .ok (.iconst 3, 1) := by decide +kernel
theorem dL_turned_424 : decode cL_turned 424 = .ok (.iload_n 3, 1) := by decide +kernel
theorem dL_turned_425 : decode cL_turned 425 = .ok (.bipush 6, 2) := by decide +kernel
theorem dL_turned_427 : decode cL_turned 427 = .ok (.iconst 0, 1) := by decide +kernel
theorem dL_turned_428 : decode cL_turned 428 = .ok (.invokestatic 192, 3) := by decide +kernel
theorem dL_turned_431 : decode cL_turned 431 = .ok (.ifCond .ne 37, 3) := by decide +kernel
theorem dL_turned_434 : decode cL_turned 434 = .ok (.aload_n 0, 1) := by decide +kernel
theorem dL_turned_435 : decode cL_turned 435 = .ok (.bipush 18, 2) := by decide +kernel
theorem dL_turned_437 : decode cL_turned 437 = .ok (.iconst 0, 1) := by decide +kernel
theorem dL_turned_438 : decode cL_turned 438 = .ok (.iconst 0, 1) := by decide +kernel
theorem dL_turned_439 : decode cL_turned 439 = .ok (.iconst 0, 1) := by decide +kernel
theorem dL_turned_440 : decode cL_turned 440 = .ok (.invokestatic 192, 3) := by decide +kernel
theorem dL_turned_443 : decode cL_turned 443 = .ok (.invokestatic 241, 3) := by decide +kernel
theorem dL_turned_446 : decode cL_turned 446 = .ok (.ifCond .ne 22, 3) := by decide +kernel
theorem dL_turned_449 : decode cL_turned 449 = .ok (.aload_n 1, 1) := by decide +kernel
theorem dL_turned_450 : decode cL_turned 450 = .ok (.bipush 18, 2) := by decide +kernel
theorem dL_turned_452 : decode cL_turned 452 = .ok (.iconst 0, 1) := by decide +kernel
theorem dL_turned_453 : decode cL_turned 453 = .ok (.iconst 0, 1) := by decide +kernel
theorem dL_turned_454 : decode cL_turned 454 = .ok (.iconst 0, 1) := by decide +kernel
theorem dL_turned_455 : decode cL_turned 455 = .ok (.invokestatic 192, 3) := by decide +kernel
theorem dL_turned_458 : decode cL_turned 458 = .ok (.invokestatic 241, 3) := by decide +kernel
theorem dL_turned_461 : decode cL_turned 461 = .ok (.ifCond .ne 7, 3) := by decide +kernel
theorem dL_turned_464 : decode cL_turned 464 = .ok (.iconst 1, 1) := by decide +kernel
theorem dL_turned_465 : decode cL_turned 465 = .ok (.goto 4, 3) := by decide +kernel
theorem dL_turned_468 : decode cL_turned 468 = .ok (.iconst 0, 1) := by decide +kernel
theorem dL_turned_469 : decode cL_turned 469 = .ok (.istore 10, 2) := by decide +kernel
theorem dL_turned_471 : decode cL_turned 471 = .ok (.iload 10, 2) := by decide +kernel
theorem dL_turned_473 : decode cL_turned 473 = .ok (.ifCond .eq 34, 3) := by decide +kernel
theorem dL_turned_476 : decode cL_turned 476 = .ok (.aload_n 0, 1) := by decide +kernel
theorem dL_turned_477 : decode cL_turned 477 = .ok (.iconst 4, 1) := by decide +kernel
theorem dL_turned_478 : decode cL_turned 478 = .ok (.iload_n 3, 1) := by decide +kernel
theorem dL_turned_479 : decode cL_turned 479 = .ok (.iconst 0, 1) := by decide +kernel
theorem dL_turned_480 : decode cL_turned 480 = .ok (.iconst 0, 1) := by decide +kernel
theorem dL_turned_481 : decode cL_turned 481 = .ok (.invokestatic 192, 3) := by decide +kernel
theorem dL_turned_484 : decode cL_turned 484 = .ok (.iload 7, 2) := by decide +kernel
theorem dL_turned_486 : decode cL_turned 486 = .ok (.if_icmp .ne 21, 3) := by decide +kernel
theorem dL_turned_489 : decode cL_turned 489 = .ok (.aload_n 0, 1) := by decide +kernel
theorem dL_turned_490 : decode cL_turned 490 = .ok (.iconst 3, 1) := by decide +kernel
theorem dL_turned_491 : decode cL_turned 491 = .ok (.iload_n 3, 1) := by decide +kernel
theorem dL_turned_492 : decode cL_turned 492 = .ok (.bipush 6, 2) := by decide +kernel
theorem dL_turned_494 : decode cL_turned 494 = .ok (.iconst 0, 1) := by decide +kernel
theorem dL_turned_495 : decode cL_turned 495 = .ok (.invokestatic 192, 3) := by decide +kernel
theorem dL_turned_498 : decode cL_turned 498 = .ok (.iload 8, 2) := by decide +kernel
theorem dL_turned_500 : decode cL_turned 500 = .ok (.if_icmp .ne 7, 3) := by decide +kernel
theorem dL_turned_503 : decode cL_turned 503 = .ok (.iconst 1, 1) := by decide +kernel
theorem dL_turned_504 : decode cL_turned 504 = .ok (.goto 4, 3) := by decide +kernel
theorem dL_turned_507 : decode cL_turned 507 = .ok (.iconst 0, 1) := by decide +kernel
theorem dL_turned_508 : decode cL_turned 508 = .ok (.ireturn, 1) := by decide +kernel
theorem dL_sits_0 : decode cL_sits 0 = .ok (.iload_n 2, 1) := by decide +kernel
theorem dL_sits_1 : decode cL_sits 1 = .ok (.aload_n 0, 1) := by decide +kernel
theorem dL_sits_2 : decode cL_sits 2 = .ok (.iconst 2, 1) := by decide +kernel
theorem dL_sits_3 : decode cL_sits 3 = .ok (.iconst 0, 1) := by decide +kernel
theorem dL_sits_4 : decode cL_sits 4 = .ok (.iconst 0, 1) := by decide +kernel
theorem dL_sits_5 : decode cL_sits 5 = .ok (.iconst 0, 1) := by decide +kernel
theorem dL_sits_6 : decode cL_sits 6 = .ok (.invokestatic 192, 3) := by decide +kernel
theorem dL_sits_9 : decode cL_sits 9 = .ok (.irem, 1) := by decide +kernel
theorem dL_sits_10 : decode cL_sits 10 = .ok (.istore_n 3, 1) := by decide +kernel
theorem dL_sits_11 : decode cL_sits 11 = .ok (.iconst 1, 1) := by decide +kernel
theorem dL_sits_12 : decode cL_sits 12 = .ok (.iload_n 2, 1) := by decide +kernel
theorem dL_sits_13 : decode cL_sits 13 = .ok (.bipush 10, 2) := by decide +kernel
theorem dL_sits_15 : decode cL_sits 15 = .ok (.idiv, 1) := by decide +kernel
theorem dL_sits_16 : decode cL_sits 16 = .ok (.sipush 200, 3) := by decide +kernel
theorem dL_sits_19 : decode cL_sits 19 = .ok (.irem, 1) := by decide +kernel
theorem dL_sits_20 : decode cL_sits 20 = .ok (.iadd, 1) := by decide +kernel
theorem dL_sits_21 : decode cL_sits 21 = .ok (.istore 4, 2) := by decide +kernel
theorem dL_sits_23 : decode cL_sits 23 = .ok (.aload_n 0, 1) := by decide +kernel
theorem dL_sits_24 : decode cL_sits 24 = .ok (.bipush 21, 2) := by decide +kernel
theorem dL_sits_26 : decode cL_sits 26 = .ok (.iload_n 3, 1) := by decide +kernel
theorem dL_sits_27 : decode cL_sits 27 = .ok (.iload 4, 2) := by decide +kernel
theorem dL_sits_29 : decode cL_sits 29 = .ok (.iconst 0, 1) := by decide +kernel
theorem dL_sits_30 : decode cL_sits 30 = .ok (.invokestatic 192, 3) := by decide +kernel
theorem dL_sits_33 : decode cL_sits 33 = .ok (.istore 5, 2) := by decide +kernel
theorem dL_sits_35 : decode cL_sits 35 = .ok (.aload_n 0, 1) := by decide +kernel
theorem dL_sits_36 : decode cL_sits 36 = .ok (.iconst 3, 1) := by decide +kernel
theorem dL_sits_37 : decode cL_sits 37 = .ok (.iload_n 3, 1) := by decide +kernel
theorem dL_sits_38 : decode cL_sits 38 = .ok (.iconst 4, 1) := by decide +kernel
theorem dL_sits_39 : decode cL_sits 39 = .ok (.iconst 0, 1) := by decide +kernel
theorem dL_sits_40 : decode cL_sits 40 = .ok (.invokestatic 192, 3) := by decide +kernel
theorem dL_sits_43 : decode cL_sits 43 = .ok (.istore 6, 2) := by decide +kernel
theorem dL_sits_45 : decode cL_sits 45 = .ok (.aload_n 0, 1) := by decide +kernel
theorem dL_sits_46 : decode cL_sits 46 = .ok (.iconst 2, 1) := by decide +kernel
theorem dL_sits_47 : decode cL_sits 47 = .ok (.bipush 10, 2) := by decide +kernel
theorem dL_sits_49 : decode cL_sits 49 = .ok (.iconst 0, 1) := by decide +kernel
theorem dL_sits_50 : decode cL_sits 50 = .ok (.iconst 0, 1) := by decide +kernel
theorem dL_sits_51 : decode cL_sits 51 = .ok (.invokestatic 192, 3) := by decide +kernel
theorem dL_sits_54 : decode cL_sits 54 = .ok (.istore 7, 2) := by decide +kernel
theorem dL_sits_56 : decode cL_sits 56 = .ok (.aload_n 0, 1) := by decide +kernel
theorem dL_sits_57 : decode cL_sits 57 = .ok (.iconst 3, 1) := by decide +kernel
theorem dL_sits_58 : decode cL_sits 58 = .ok (.iload_n 3, 1) := by decide +kernel
theorem dL_sits_59 : decode cL_sits 59 = .ok (.bipush 6, 2) := by decide +kernel
theorem dL_sits_61 : decode cL_sits 61 = .ok (.iconst 0, 1) := by decide +kernel
theorem dL_sits_62 : decode cL_sits 62 = .ok (.invokestatic 192, 3) := by decide +kernel
theorem dL_sits_65 : decode cL_sits 65 = .ok (.istore 8, 2) := by decide +kernel
theorem dL_sits_67 : decode cL_sits 67 = .ok (.iload 5, 2) := by decide +kernel
theorem dL_sits_69 : decode cL_sits 69 = .ok (.iconst (-1), 1) := by decide +kernel
theorem dL_sits_70 : decode cL_sits 70 = .ok (.if_icmp .eq 10, 3) := by decide +kernel
theorem dL_sits_73 : decode cL_sits 73 = .ok (.iload 5, 2) := by decide +kernel
theorem dL_sits_75 : decode cL_sits 75 = .ok (.bipush 10, 2) := by decide +kernel
theorem dL_sits_77 : decode cL_sits 77 = .ok (.if_icmp .le 8, 3) := by decide +kernel
theorem dL_sits_80 : decode cL_sits 80 = .ok (.bipush 10, 2) := by decide +kernel
theorem dL_sits_82 : decode cL_sits 82 = .ok (.goto 5, 3) := by decide +kernel
theorem dL_sits_85 : decode cL_sits 85 = .ok (.iload 5, 2) := by decide +kernel
theorem dL_sits_87 : decode cL_sits 87 = .ok (.istore 9, 2) := by decide +kernel
theorem dL_sits_89 : decode cL_sits 89 = .ok (.iconst 0, 1) := by decide +kernel
theorem dL_sits_90 : decode cL_sits 90 = .ok (.istore 10, 2) := by decide +kernel
theorem dL_sits_92 : decode cL_sits 92 = .ok (.iconst 1, 1) := by decide +kernel
theorem dL_sits_93 : decode cL_sits 93 = .ok (.istore 11, 2) := by decide +kernel
theorem dL_sits_95 : decode cL_sits 95 = .ok (.iconst 0, 1) := by decide +kernel
theorem dL_sits_96 : decode cL_sits 96 = .ok (.istore 12, 2) := by decide +kernel
theorem dL_sits_98 : decode cL_sits 98 = .ok (.iload 12, 2) := by decide +kernel
theorem dL_sits_100 : decode cL_sits 100 = .ok (.iload 9, 2) := by decide +kernel
theorem dL_sits_102 : decode cL_sits 102 = .ok (.if_icmp .ge 120, 3) := by decide +kernel
theorem dL_sits_105 : decode cL_sits 105 = .ok (.iload 11, 2) := by decide +kernel
theorem dL_sits_107 : decode cL_sits 107 = .ok (.ifCond .eq 115, 3) := by decide +kernel
theorem dL_sits_110 : decode cL_sits 110 = .ok (.aload_n 0, 1) := by decide +kernel
theorem dL_sits_111 : decode cL_sits 111 = .ok (.iconst 3, 1) := by decide +kernel
theorem dL_sits_112 : decode cL_sits 112 = .ok (.iload_n 3, 1) := by decide +kernel
theorem dL_sits_113 : decode cL_sits 113 = .ok (.bipush 7, 2) := by decide +kernel
theorem dL_sits_115 : decode cL_sits 115 = .ok (.iconst 0, 1) := by decide +kernel
theorem dL_sits_116 : decode cL_sits 116 = .ok (.invokestatic 192, 3) := by decide +kernel
theorem dL_sits_119 : decode cL_sits 119 = .ok (.ifCond .ne 7, 3) := by decide +kernel
theorem dL_sits_122 : decode cL_sits 122 = .ok (.iconst 1, 1) := by decide +kernel
theorem dL_sits_123 : decode cL_sits 123 = .ok (.goto 4, 3) := by decide +kernel
theorem dL_sits_126 : decode cL_sits 126 = .ok (.iconst 0, 1) := by decide +kernel
theorem dL_sits_127 : decode cL_sits 127 = .ok (.istore 11, 2) := by decide +kernel
theorem dL_sits_129 : decode cL_sits 129 = .ok (.aload_n 0, 1) := by decide +kernel
theorem dL_sits_130 : decode cL_sits 130 = .ok (.bipush 15, 2) := by decide +kernel
theorem dL_sits_132 : decode cL_sits 132 = .ok (.iload_n 3, 1) := by decide +kernel
theorem dL_sits_133 : decode cL_sits 133 = .ok (.iload 4, 2) := by decide +kernel
theorem dL_sits_135 : decode cL_sits 135 = .ok (.iconst 0, 1) := by decide +kernel
theorem dL_sits_136 : decode cL_sits 136 = .ok (.invokestatic 192, 3) := by decide +kernel
theorem dL_sits_139 : decode cL_sits 139 = .ok (.istore 13, 2) := by decide +kernel
theorem dL_sits_141 : decode cL_sits 141 = .ok (.iload 10, 2) := by decide +kernel
theorem dL_sits_143 : decode cL_sits 143 = .ok (.iload 13, 2) := by decide +kernel
theorem dL_sits_145 : decode cL_sits 145 = .ok (.iadd, 1) := by decide +kernel
theorem dL_sits_146 : decode cL_sits 146 = .ok (.istore 10, 2) := by decide +kernel
theorem dL_sits_148 : decode cL_sits 148 = .ok (.iload 11, 2) := by decide +kernel
theorem dL_sits_150 : decode cL_sits 150 = .ok (.ifCond .eq 63, 3) := by decide +kernel
theorem dL_sits_153 : decode cL_sits 153 = .ok (.iload 13, 2) := by decide +kernel
theorem dL_sits_155 : decode cL_sits 155 = .ok (.ifCond .lt 58, 3) := by decide +kernel
theorem dL_sits_158 : decode cL_sits 158 = .ok (.aload_n 1, 1) := by decide +kernel
theorem dL_sits_159 : decode cL_sits 159 = .ok (.bipush 15, 2) := by decide +kernel
theorem dL_sits_161 : decode cL_sits 161 = .ok (.iload_n 3, 1) := by decide +kernel
theorem dL_sits_162 : decode cL_sits 162 = .ok (.iload 4, 2) := by decide +kernel
theorem dL_sits_164 : decode cL_sits 164 = .ok (.iconst 0, 1) := by decide +kernel
theorem dL_sits_165 : decode cL_sits 165 = .ok (.invokestatic 192, 3) := by decide +kernel
theorem dL_sits_168 : decode cL_sits 168 = .ok (.iload 13, 2) := by decide +kernel
theorem dL_sits_170 : decode cL_sits 170 = .ok (.if_icmp .ne 43, 3) := by decide +kernel
theorem dL_sits_173 : decode cL_sits 173 = .ok (.iload 13, 2) := by decide +kernel
theorem dL_sits_175 : decode cL_sits 175 = .ok (.iconst 4, 1) := by decide +kernel
theorem dL_sits_176 : decode cL_sits 176 = .ok (.iload 4, 2) := by decide +kernel
theorem dL_sits_178 : decode cL_sits 178 = .ok (.aload_n 0, 1) := by decide +kernel
theorem dL_sits_179 : decode cL_sits 179 = .ok (.bipush 8, 2) := by decide +kernel
theorem dL_sits_181 : decode cL_sits 181 = .ok (.iconst 1, 1) := by decide +kernel
theorem dL_sits_182 : decode cL_sits 182 = .ok (.iconst 0, 1) := by decide +kernel
theorem dL_sits_183 : decode cL_sits 183 = .ok (.iconst 0, 1) := by decide +kernel
theorem dL_sits_184 : decode cL_sits 184 = .ok (.invokestatic 192, 3) := by decide +kernel
theorem dL_sits_187 : decode cL_sits 187 = .ok (.idiv, 1) := by decide +kernel
theorem dL_sits_188 : decode cL_sits 188 = .ok (.imul, 1) := by decide +kernel
theorem dL_sits_189 : decode cL_sits 189 = .ok (.if_icmp .gt 24, 3) := by decide +kernel
theorem dL_sits_192 : decode cL_sits 192 = .ok (.iload 13, 2) := by decide +kernel
theorem dL_sits_194 : decode cL_sits 194 = .ok (.ifCond .eq 15, 3) := by decide +kernel
theorem dL_sits_197 : decode cL_sits 197 = .ok (.aload_n 0, 1) := by decide +kernel
theorem dL_sits_198 : decode cL_sits 198 = .ok (.iconst 3, 1) := by decide +kernel
theorem dL_sits_199 : decode cL_sits 199 = .ok (.iload_n 3, 1) := by decide +kernel
theorem dL_sits_200 : decode cL_sits 200 = .ok (.bipush 6, 2) := by decide +kernel
theorem dL_sits_202 : decode cL_sits 202 = .ok (.iconst 0, 1) := by decide +kernel
theorem dL_sits_203 : decode cL_sits 203 = .ok (.invokestatic 192, 3) := by decide +kernel
theorem dL_sits_206 : decode cL_sits 206 = .ok (.ifCond .ne 7, 3) := by decide +kernel
theorem dL_sits_209 : decode cL_sits 209 = .ok (.iconst 1, 1) := by decide +kernel
theorem dL_sits_210 : decode cL_sits 210 = .ok (.goto 4, 3) := by decide +kernel
theorem dL_sits_213 : decode cL_sits 213 = .ok (.iconst 0, 1) := by decide +kernel
theorem dL_sits_214 : decode cL_sits 214 = .ok (.istore 11, 2) := by decide +kernel
theorem dL_sits_216 : decode cL_sits 216 = .ok (.iinc 12 1, 3) := by decide +kernel
theorem dL_sits_219 : decode cL_sits 219 = .ok (.goto (-121), 3) := by decide +kernel
theorem dL_sits_222 : decode cL_sits 222 = .ok (.iload 11, 2) := by decide +kernel
theorem dL_sits_224 : decode cL_sits 224 = .ok (.ifCond .eq 56, 3) := by decide +kernel
theorem dL_sits_227 : decode cL_sits 227 = .ok (.aload_n 0, 1) := by decide +kernel
theorem dL_sits_228 : decode cL_sits 228 = .ok (.iconst 3, 1) := by decide +kernel
theorem dL_sits_229 : decode cL_sits 229 = .ok (.iload_n 3, 1) := by decide +kernel
theorem dL_sits_230 : decode cL_sits 230 = .ok (.bipush 7, 2) := by decide +kernel
theorem dL_sits_232 : decode cL_sits 232 = .ok (.iconst 0, 1) := by decide +kernel
theorem dL_sits_233 : decode cL_sits 233 = .ok (.invokestatic 192, 3) := by decide +kernel
theorem dL_sits_236 : decode cL_sits 236 = .ok (.ifCond .le 7, 3) := by decide +kernel
theorem dL_sits_239 : decode cL_sits 239 = .ok (.iconst 1, 1) := by decide +kernel
theorem dL_sits_240 : decode cL_sits 240 = .ok (.goto 4, 3) := by decide +kernel
theorem dL_sits_243 : decode cL_sits 243 = .ok (.iconst 0, 1) := by decide +kernel
theorem dL_sits_244 : decode cL_sits 244 = .ok (.iload 5, 2) := by decide +kernel
theorem dL_sits_246 : decode cL_sits 246 = .ok (.iload 9, 2) := by decide +kernel
theorem dL_sits_248 : decode cL_sits 248 = .ok (.if_icmp .ne 7, 3) := by decide +kernel
theorem dL_sits_251 : decode cL_sits 251 = .ok (.iconst 1, 1) := by decide +kernel
theorem dL_sits_252 : decode cL_sits 252 = .ok (.goto 4, 3) := by decide +kernel
theorem dL_sits_255 : decode cL_sits 255 = .ok (.iconst 0, 1) := by decide +kernel
theorem dL_sits_256 : decode cL_sits 256 = .ok (.if_icmp .ne 24, 3) := by decide +kernel
theorem dL_sits_259 : decode cL_sits 259 = .ok (.aload_n 0, 1) := by decide +kernel
theorem dL_sits_260 : decode cL_sits 260 = .ok (.iconst 2, 1) := by decide +kernel
theorem dL_sits_261 : decode cL_sits 261 = .ok (.bipush 10, 2) := by decide +kernel
theorem dL_sits_263 : decode cL_sits 263 = .ok (.iconst 0, 1) := by decide +kernel
theorem dL_sits_264 : decode cL_sits 264 = .ok (.iconst 0, 1) := by decide +kernel
theorem dL_sits_265 : decode cL_sits 265 = .ok (.invokestatic 192, 3) := by decide +kernel
theorem dL_sits_268 : decode cL_sits 268 = .ok (.iload 7, 2) := by decide +kernel
theorem dL_sits_270 : decode cL_sits 270 = .ok (.iload 10, 2) := by decide +kernel
theorem dL_sits_272 : decode cL_sits 272 = .ok (.iadd, 1) := by decide +kernel
theorem dL_sits_273 : decode cL_sits 273 = .ok (.if_icmp .ne 7, 3) := by decide +kernel
theorem dL_sits_276 : decode cL_sits 276 = .ok (.iconst 1, 1) := by decide +kernel
theorem dL_sits_277 : decode cL_sits 277 = .ok (.goto 4, 3) := by decide +kernel
theorem dL_sits_280 : decode cL_sits 280 = .ok (.iconst 0, 1) := by decide +kernel
theorem dL_sits_281 : decode cL_sits 281 = .ok (.istore 11, 2) := by decide +kernel
theorem dL_sits_283 : decode cL_sits 283 = .ok (.iconst 0, 1) := by decide +kernel
theorem dL_sits_284 : decode cL_sits 284 = .ok (.istore 12, 2) := by decide +kernel
theorem dL_sits_286 : decode cL_sits 286 = .ok (.iload 12, 2) := by decide +kernel
theorem dL_sits_288 : decode cL_sits 288 = .ok (.iload 9, 2) := by decide +kernel
theorem dL_sits_290 : decode cL_sits 290 = .ok (.if_icmp .ge 51, 3) := by decide +kernel
theorem dL_sits_293 : decode cL_sits 293 = .ok (.iload 11, 2) := by decide +kernel
theorem dL_sits_295 : decode cL_sits 295 = .ok (.ifCond .eq 46, 3) := by decide +kernel
theorem dL_sits_298 : decode cL_sits 298 = .ok (.aload_n 0, 1) := by decide +kernel
theorem dL_sits_299 : decode cL_sits 299 = .ok (.bipush 18, 2) := by decide +kernel
theorem dL_sits_301 : decode cL_sits 301 = .ok (.iconst 0, 1) := by decide +kernel
theorem dL_sits_302 : decode cL_sits 302 = .ok (.iconst 0, 1) := by decide +kernel
theorem dL_sits_303 : decode cL_sits 303 = .ok (.iconst 0, 1) := by decide +kernel
theorem dL_sits_304 : decode cL_sits 304 = .ok (.invokestatic 192, 3) := by decide +kernel
theorem dL_sits_307 : decode cL_sits 307 = .ok (.invokestatic 241, 3) := by decide +kernel
theorem dL_sits_310 : decode cL_sits 310 = .ok (.ifCond .ne 22, 3) := by decide +kernel
theorem dL_sits_313 : decode cL_sits 313 = .ok (.aload_n 1, 1) := by decide +kernel
theorem dL_sits_314 : decode cL_sits 314 = .ok (.bipush 18, 2) := by decide +kernel
theorem dL_sits_316 : decode cL_sits 316 = .ok (.iconst 0, 1) := by decide +kernel
theorem dL_sits_317 : decode cL_sits 317 = .ok (.iconst 0, 1) := by decide +kernel
theorem dL_sits_318 : decode cL_sits 318 = .ok (.iconst 0, 1) := by decide +kernel
theorem dL_sits_319 : decode cL_sits 319 = .ok (.invokestatic 192, 3) := by decide +kernel
theorem dL_sits_322 : decode cL_sits 322 = .ok (.invokestatic 241, 3) := by decide +kernel
theorem dL_sits_325 : decode cL_sits 325 = .ok (.ifCond .ne 7, 3) := by decide +kernel
theorem dL_sits_328 : decode cL_sits 328 = .ok (.iconst 1, 1) := by decide +kernel
theorem dL_sits_329 : decode cL_sits 329 = .ok (.goto 4, 3) := by decide +kernel
theorem dL_sits_332 : decode cL_sits 332 = .ok (.iconst 0, 1) := by decide +kernel
theorem dL_sits_333 : decode cL_sits 333 = .ok (.istore 11, 2) := by decide +kernel
theorem dL_sits_335 : decode cL_sits 335 = .ok (.iinc 12 1, 3) := by decide +kernel
theorem dL_sits_338 : decode cL_sits 338 = .ok (.goto (-52), 3) := by decide +kernel
theorem dL_sits_341 : decode cL_sits 341 = .ok (.aload_n 0, 1) := by decide +kernel
theorem dL_sits_342 : decode cL_sits 342 = .ok (.iconst 3, 1) := by decide +kernel
theorem dL_sits_343 : decode cL_sits 343 = .ok (.iload_n 3, 1) := by decide +kernel
theorem dL_sits_344 : decode cL_sits 344 = .ok (.bipush 7, 2) := by decide +kernel
theorem dL_sits_346 : decode cL_sits 346 = .ok (.iconst 0, 1) := by decide +kernel
theorem dL_sits_347 : decode cL_sits 347 = .ok (.invokestatic 192, 3) := by decide +kernel
theorem dL_sits_350 : decode cL_sits 350 = .ok (.istore 12, 2) := by decide +kernel
theorem dL_sits_352 : decode cL_sits 352 = .ok (.aload_n 0, 1) := by decide +kernel
theorem dL_sits_353 : decode cL_sits 353 = .ok (.iconst 2, 1) := by decide +kernel
theorem dL_sits_354 : decode cL_sits 354 = .ok (.bipush 6, 2) := by decide +kernel
theorem dL_sits_356 : decode cL_sits 356 = .ok (.iconst 0, 1) := by decide +kernel
theorem dL_sits_357 : decode cL_sits 357 = .ok (.iconst 0, 1) := by decide +kernel
theorem dL_sits_358 : decode cL_sits 358 = .ok (.invokestatic 192, 3) := by decide +kernel
theorem dL_sits_361 : decode cL_sits 361 = .ok (.istore 13, 2) := by decide +kernel
theorem dL_sits_363 : decode cL_sits 363 = .ok (.aload_n 0, 1) := by decide +kernel
theorem dL_sits_364 : decode cL_sits 364 = .ok (.iconst 2, 1) := by decide +kernel
theorem dL_sits_365 : decode cL_sits 365 = .ok (.iconst 4, 1) := by decide +kernel
theorem dL_sits_366 : decode cL_sits 366 = .ok (.iconst 0, 1) := by decide +kernel
theorem dL_sits_367 : decode cL_sits 367 = .ok (.iconst 0, 1) := by decide +kernel
theorem dL_sits_368 : decode cL_sits 368 = .ok (.invokestatic 192, 3) := by decide +kernel
theorem dL_sits_371 : decode cL_sits 371 = .ok (.istore 14, 2) := by decide +kernel
theorem dL_sits_373 : decode cL_sits 373 = .ok (.iload 11, 2) := by decide +kernel
theorem dL_sits_375 : decode cL_sits 375 = .ok (.ifCond .eq 108, 3) := by decide +kernel
theorem dL_sits_378 : decode cL_sits 378 = .ok (.aload_n 0, 1) := by decide +kernel
theorem dL_sits_379 : decode cL_sits 379 = .ok (.bipush 14, 2) := by decide +kernel
theorem dL_sits_381 : decode cL_sits 381 = .ok (.iload_n 3, 1) := by decide +kernel
theorem dL_sits_382 : decode cL_sits 382 = .ok (.iconst 0, 1) := by decide +kernel
theorem dL_sits_383 : decode cL_sits 383 = .ok (.iconst 0, 1) := by decide +kernel
theorem dL_sits_384 : decode cL_sits 384 = .ok (.invokestatic 192, 3) := by decide +kernel
theorem dL_sits_387 : decode cL_sits 387 = .ok (.iload 12, 2) := by decide +kernel
theorem dL_sits_389 : decode cL_sits 389 = .ok (.if_icmp .ne 94, 3) := by decide +kernel
theorem dL_sits_392 : decode cL_sits 392 = .ok (.aload_n 1, 1) := by decide +kernel
theorem dL_sits_393 : decode cL_sits 393 = .ok (.bipush 14, 2) := by decide +kernel
theorem dL_sits_395 : decode cL_sits 395 = .ok (.iload_n 3, 1) := by decide +kernel
theorem dL_sits_396 : decode cL_sits 396 = .ok (.iconst 0, 1) := by decide +kernel
theorem dL_sits_397 : decode cL_sits 397 = .ok (.iconst 0, 1) := by decide +kernel
theorem dL_sits_398 : decode cL_sits 398 = .ok (.invokestatic 192, 3) := by decide +kernel
theorem dL_sits_401 : decode cL_sits 401 = .ok (.iload 12, 2) := by decide +kernel
theorem dL_sits_403 : decode cL_sits 403 = .ok (.if_icmp .ne 80, 3) := by decide +kernel
theorem dL_sits_406 : decode cL_sits 406 = .ok (.aload_n 0, 1) := by decide +kernel
theorem dL_sits_407 : decode cL_sits 407 = .ok (.iconst 3, 1) := by decide +kernel
theorem dL_sits_408 : decode cL_sits 408 = .ok (.iload_n 3, 1) := by decide +kernel
theorem dL_sits_409 : decode cL_sits 409 = .ok (.bipush 6, 2) := by decide +kernel
theorem dL_sits_411 : decode cL_sits 411 = .ok (.iconst 0, 1) := by decide +kernel
theorem dL_sits_412 : decode cL_sits 412 = .ok (.invokestatic 192, 3) := by decide +kernel
theorem dL_sits_415 : decode cL_sits 415 = .ok (.iload 12, 2) := by decide +kernel
theorem dL_sits_417 : decode cL_sits 417 = .ok (.ifCond .ne 7, 3) := by decide +kernel
theorem dL_sits_420 : decode cL_sits 420 = .ok (.iconst 1, 1) := by decide +kernel
theorem dL_sits_421 : decode cL_sits 421 = .ok (.goto 4, 3) := by decide +kernel
theorem dL_sits_424 : decode cL_sits 424 = .ok (.iconst 0, 1) := by decide +kernel
theorem dL_sits_425 : decode cL_sits 425 = .ok (.if_icmp .ne 58, 3) := by decide +kernel
theorem dL_sits_428 : decode cL_sits 428 = .ok (.aload_n 0, 1) := by decide +kernel
theorem dL_sits_429 : decode cL_sits 429 = .ok (.iconst 2, 1) := by decide +kernel
theorem dL_sits_430 : decode cL_sits 430 = .ok (.bipush 6, 2) := by decide +kernel
theorem dL_sits_432 : decode cL_sits 432 = .ok (.iconst 0, 1) := by decide +kernel
theorem dL_sits_433 : decode cL_sits 433 = .ok (.iconst 0, 1) := by decide +kernel
theorem dL_sits_434 : decode cL_sits 434 = .ok (.invokestatic 192, 3) := by decide +kernel
theorem dL_sits_437 : decode cL_sits 437 = .ok (.iload 13, 2) := by decide +kernel
theorem dL_sits_439 : decode cL_sits 439 = .ok (.aload_n 0, 1) := by decide +kernel
theorem dL_sits_440 : decode cL_sits 440 = .ok (.bipush 8, 2) := by decide +kernel
theorem dL_sits_442 : decode cL_sits 442 = .ok (.iconst 0, 1) := by decide +kernel
theorem dL_sits_443 : decode cL_sits 443 = .ok (.iconst 0, 1) := by decide +kernel
theorem dL_sits_444 : decode cL_sits 444 = .ok (.iconst 0, 1) := by decide +kernel
theorem dL_sits_445 : decode cL_sits 445 = .ok (.invokestatic 192, 3) := by decide +kernel
theorem dL_sits_448 : decode cL_sits 448 = .ok (.iadd, 1) := by decide +kernel
theorem dL_sits_449 : decode cL_sits 449 = .ok (.if_icmp .ne 34, 3) := by decide +kernel
theorem dL_sits_452 : decode cL_sits 452 = .ok (.aload_n 0, 1) := by decide +kernel
theorem dL_sits_453 : decode cL_sits 453 = .ok (.iconst 2, 1) := by decide +kernel
theorem dL_sits_454 : decode cL_sits 454 = .ok (.iconst 4, 1) := by decide +kernel
theorem dL_sits_455 : decode cL_sits 455 = .ok (.iconst 0, 1) := by decide +kernel
theorem dL_sits_456 : decode cL_sits 456 = .ok (.iconst 0, 1) := by decide +kernel
theorem dL_sits_457 : decode cL_sits 457 = .ok (.invokestatic 192, 3) := by decide +kernel
theorem dL_sits_460 : decode cL_sits 460 = .ok (.iload 14, 2) := by decide +kernel
theorem dL_sits_462 : decode cL_sits 462 = .ok (.iload 12, 2) := by decide +kernel
theorem dL_sits_464 : decode cL_sits 464 = .ok (.ifCond .ne 10, 3) := by decide +kernel
theorem dL_sits_467 : decode cL_sits 467 = .ok (.iconst 1, 1) := by decide +kernel
theorem dL_sits_468 : decode cL_sits 468 = .ok (.iload 8, 2) := by decide +kernel
theorem dL_sits_470 : decode cL_sits 470 = .ok (.isub, 1) := by decide +kernel
theorem dL_sits_471 : decode cL_sits 471 = .ok (.goto 4, 3) := by decide +kernel
theorem dL_sits_474 : decode cL_sits 474 = .ok (.iconst 0, 1) := by decide +kernel
theorem dL_sits_475 : decode cL_sits 475 = .ok (.iadd, 1) := by decide +kernel
theorem dL_sits_476 : decode cL_sits 476 = .ok (.if_icmp .ne 7, 3) := by decide +kernel
theorem dL_sits_479 : decode cL_sits 479 = .ok (.iconst 1, 1) := by decide +kernel
theorem dL_sits_480 : decode cL_sits 480 = .ok (.goto 4, 3) := by decide +kernel
theorem dL_sits_483 : decode cL_sits 483 = .ok (.iconst 0, 1) := by decide +kernel
theorem dL_sits_484 : decode cL_sits 484 = .ok (.istore 11, 2) := by decide +kernel
theorem dL_sits_486 : decode cL_sits 486 = .ok (.iload 11, 2) := by decide +kernel
theorem dL_sits_488 : decode cL_sits 488 = .ok (.ifCond .eq 78, 3) := by decide +kernel
theorem dL_sits_491 : decode cL_sits 491 = .ok (.aload_n 0, 1) := by decide +kernel
theorem dL_sits_492 : decode cL_sits 492 = .ok (.bipush 18, 2) := by decide +kernel
theorem dL_sits_494 : decode cL_sits 494 = .ok (.iconst 0, 1) := by decide +kernel
theorem dL_sits_495 : decode cL_sits 495 = .ok (.iconst 0, 1) := by decide +kernel
theorem dL_sits_496 : decode cL_sits 496 = .ok (.iconst 0, 1) := by decide +kernel
theorem dL_sits_497 : decode cL_sits 497 = .ok (.invokestatic 192, 3) := by decide +kernel
theorem dL_sits_500 : decode cL_sits 500 = .ok (.invokestatic 241, 3) := by decide +kernel
theorem dL_sits_503 : decode cL_sits 503 = .ok (.ifCond .ne 63, 3) := by decide +kernel
theorem dL_sits_506 : decode cL_sits 506 = .ok (.aload_n 1, 1) := by decide +kernel
theorem dL_sits_507 : decode cL_sits 507 = .ok (.bipush 18, 2) := by decide +kernel
theorem dL_sits_509 : decode cL_sits 509 = .ok (.iconst 0, 1) := by decide +kernel
theorem dL_sits_510 : decode cL_sits 510 = .ok (.iconst 0, 1) := by decide +kernel
theorem dL_sits_511 : decode cL_sits 511 = .ok (.iconst 0, 1) := by decide +kernel
theorem dL_sits_512 : decode cL_sits 512 = .ok (.invokestatic 192, 3) := by decide +kernel
theorem dL_sits_515 : decode cL_sits 515 = .ok (.invokestatic 241, 3) := by decide +kernel
theorem dL_sits_518 : decode cL_sits 518 = .ok (.ifCond .ne 48, 3) := by decide +kernel
theorem dL_sits_521 : decode cL_sits 521 = .ok (.aload_n 0, 1) := by decide +kernel
theorem dL_sits_522 : decode cL_sits 522 = .ok (.iconst 3, 1) := by decide +kernel
theorem dL_sits_523 : decode cL_sits 523 = .ok (.iload_n 3, 1) := by decide +kernel
theorem dL_sits_524 : decode cL_sits 524 = .ok (.iconst 4, 1) := by decide +kernel
theorem dL_sits_525 : decode cL_sits 525 = .ok (.iconst 0, 1) := by decide +kernel
theorem dL_sits_526 : decode cL_sits 526 = .ok (.invokestatic 192, 3) := by decide +kernel
theorem dL_sits_529 : decode cL_sits 529 = .ok (.iload 6, 2) := by decide +kernel
theorem dL_sits_531 : decode cL_sits 531 = .ok (.if_icmp .ne 35, 3) := by decide +kernel
theorem dL_sits_534 : decode cL_sits 534 = .ok (.aload_n 0, 1) := by decide +kernel
theorem dL_sits_535 : decode cL_sits 535 = .ok (.iconst 3, 1) := by decide +kernel
theorem dL_sits_536 : decode cL_sits 536 = .ok (.iload_n 3, 1) := by decide +kernel
theorem dL_sits_537 : decode cL_sits 537 = .ok (.bipush 6, 2) := by decide +kernel
theorem dL_sits_539 : decode cL_sits 539 = .ok (.iconst 0, 1) := by decide +kernel
theorem dL_sits_540 : decode cL_sits 540 = .ok (.invokestatic 192, 3) := by decide +kernel
theorem dL_sits_543 : decode cL_sits 543 = .ok (.iload 8, 2) := by decide +kernel
theorem dL_sits_545 : decode cL_sits 545 = .ok (.if_icmp .ne 21, 3) := by decide +kernel
theorem dL_sits_548 : decode cL_sits 548 = .ok (.aload_n 0, 1) := by decide +kernel
theorem dL_sits_549 : decode cL_sits 549 = .ok (.iconst 2, 1) := by decide +kernel
theorem dL_sits_550 : decode cL_sits 550 = .ok (.bipush 10, 2) := by decide +kernel
theorem dL_sits_552 : decode cL_sits 552 = .ok (.iconst 0, 1) := by decide +kernel
theorem dL_sits_553 : decode cL_sits 553 = .ok (.iconst 0, 1) := by decide +kernel
theorem dL_sits_554 : decode cL_sits 554 = .ok (.invokestatic 192, 3) := by decide +kernel
theorem dL_sits_557 : decode cL_sits 557 = .ok (.iload 7, 2) := by decide +kernel
theorem dL_sits_559 : decode cL_sits 559 = .ok (.if_icmp .ne 7, 3) := by decide +kernel
theorem dL_sits_562 : decode cL_sits 562 = .ok (.iconst 1, 1) := by decide +kernel
theorem dL_sits_563 : decode cL_sits 563 = .ok (.goto 4, 3) := by decide +kernel
theorem dL_sits_566 : decode cL_sits 566 = .ok (.iconst 0, 1) := by decide +kernel
theorem dL_sits_567 : decode cL_sits 567 = .ok (.ireturn, 1) := by decide +kernel
