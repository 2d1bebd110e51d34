theorem dX9_next_69 : decode cX9_next 69 = .ok (.if_icmp .ne 11, 3) := by decide +kernel
theorem dX9_next_72 : decode cX9_next 72 = .ok (.aload_n 0, 1) := by decide +kernel
theorem dX9_next_73 : decode cX9_next 73 = .ok (.iconst 0, 1) := by decide +kernel
theorem dX9_next_74 : decode cX9_next 74 = .ok (.putfield 109, 3) := by decide +kernel
theorem dX9_next_77 : decode cX9_next 77 = .ok (.goto 230, 3) := by decide +kernel
theorem dX9_next_80 : decode cX9_next 80 = .ok (.aload_n 0, 1) := by decide +kernel
theorem dX9_next_81 : decode cX9_next 81 = .ok (.aload_n 0, 1) := by decide +kernel
theorem dX9_next_82 : decode cX9_next 82 = .ok (.getfield 92, 3) := by decide +kernel
theorem dX9_next_85 : decode cX9_next 85 = .ok (.bipush 97, 2) := by decide +kernel
theorem dX9_next_87 : decode cX9_next 87 = .ok (.bipush 122, 2) := by decide +kernel
theorem dX9_next_89 : decode cX9_next 89 = .ok (.invokevirtual 95, 3) := by decide +kernel
theorem dX9_next_92 : decode cX9_next 92 = .ok (.ifCond .eq 96, 3) := by decide +kernel
theorem dX9_next_95 : decode cX9_next 95 = .ok (.aload_n 0, 1) := by decide +kernel
theorem dX9_next_96 : decode cX9_next 96 = .ok (.iconst 1, 1) := by decide +kernel
theorem dX9_next_97 : decode cX9_next 97 = .ok (.putfield 109, 3) := by decide +kernel
theorem dX9_next_100 : decode cX9_next 100 = .ok (.iconst 0, 1) := by decide +kernel
theorem dX9_next_101 : decode cX9_next 101 = .ok (.istore_n 1, 1) := by decide +kernel
theorem dX9_next_102 : decode cX9_next 102 = .ok (.aload_n 0, 1) := by decide +kernel
theorem dX9_next_103 : decode cX9_next 103 = .ok (.aload_n 0, 1) := by decide +kernel
theorem dX9_next_104 : decode cX9_next 104 = .ok (.getfield 92, 3) := by decide +kernel
theorem dX9_next_107 : decode cX9_next 107 = .ok (.bipush 97, 2) := by decide +kernel
theorem dX9_next_109 : decode cX9_next 109 = .ok (.bipush 122, 2) := by decide +kernel
theorem dX9_next_111 : decode cX9_next 111 = .ok (.invokevirtual 95, 3) := by decide +kernel
theorem dX9_next_114 : decode cX9_next 114 = .ok (.ifCond .eq 71, 3) := by decide +kernel
theorem dX9_next_117 : decode cX9_next 117 = .ok (.aload_n 0, 1) := by decide +kernel
theorem dX9_next_118 : decode cX9_next 118 = .ok (.iload_n 1, 1) := by decide +kernel
theorem dX9_next_119 : decode cX9_next 119 = .ok (.bipush 11, 2) := by decide +kernel
theorem dX9_next_121 : decode cX9_next 121 = .ok (.if_icmp .le 9, 3) := by decide +kernel
theorem dX9_next_124 : decode cX9_next 124 = .ok (.ldc2_w 112, 3) := by decide +kernel
theorem dX9_next_127 : decode cX9_next 127 = .ok (.goto 26, 3) := by decide +kernel
theorem dX9_next_130 : decode cX9_next 130 = .ok (.ldc2_w 114, 3) := by decide +kernel
theorem dX9_next_133 : decode cX9_next 133 = .ok (.aload_n 0, 1) := by decide +kernel
theorem dX9_next_134 : decode cX9_next 134 = .ok (.getfield 105, 3) := by decide +kernel
theorem dX9_next_137 : decode cX9_next 137 = .ok (.lmul, 1) := by decide +kernel
theorem dX9_next_138 : decode cX9_next 138 = .ok (.aload_n 0, 1) := by decide +kernel
theorem dX9_next_139 : decode cX9_next 139 = .ok (.getfield 23, 3) := by decide +kernel
theorem dX9_next_142 : decode cX9_next 142 = .ok (.aload_n 0, 1) := by decide +kernel
theorem dX9_next_143 : decode cX9_next 143 = .ok (.getfield 92, 3) := by decide +kernel
theorem dX9_next_146 : decode cX9_next 146 = .ok (.baload, 1) := by decide +kernel
theorem dX9_next_147 : decode cX9_next 147 = .ok (.i2l, 1) := by decide +kernel
theorem dX9_next_148 : decode cX9_next 148 = .ok (.ladd, 1) := by decide +kernel
theorem dX9_next_149 : decode cX9_next 149 = .ok (.ldc2_w 116, 3) := by decide +kernel
theorem dX9_next_152 : decode cX9_next 152 = .ok (.lsub, 1) := by decide +kernel
theorem dX9_next_153 : decode cX9_next 153 = .ok (.putfield 105, 3) := by decide +kernel
theorem dX9_next_156 : decode cX9_next 156 = .ok (.iload_n 1, 1) := by decide +kernel
theorem dX9_next_157 : decode cX9_next 157 = .ok (.bipush 11, 2) := by decide +kernel
theorem dX9_next_159 : decode cX9_next 159 = .ok (.if_icmp .le 10, 3) := by decide +kernel
theorem dX9_next_162 : decode cX9_next 162 = .ok (.aload_n 0, 1) := by decide +kernel
theorem dX9_next_163 : decode cX9_next 163 = .ok (.ldc2_w 112, 3) := by decide +kernel
theorem dX9_next_166 : decode cX9_next 166 = .ok (.putfield 105, 3) := by decide +kernel
theorem dX9_next_169 : decode cX9_next 169 = .ok (.aload_n 0, 1) := by decide +kernel
theorem dX9_next_170 : decode cX9_next 170 = .ok (.dup, 1) := by decide +kernel
theorem dX9_next_171 : decode cX9_next 171 = .ok (.getfield 92, 3) := by decide +kernel
theorem dX9_next_174 : decode cX9_next 174 = .ok (.iconst 1, 1) := by decide +kernel
theorem dX9_next_175 : decode cX9_next 175 = .ok (.iadd, 1) := by decide +kernel
theorem dX9_next_176 : decode cX9_next 176 = .ok (.putfield 92, 3) := by decide +kernel
theorem dX9_next_179 : decode cX9_next 179 = .ok (.iinc 1 1, 3) := by decide +kernel
theorem dX9_next_182 : decode cX9_next 182 = .ok (.goto (-80), 3) := by decide +kernel
theorem dX9_next_185 : decode cX9_next 185 = .ok (.goto 122, 3) := by decide +kernel
theorem dX9_next_188 : decode cX9_next 188 = .ok (.aload_n 0, 1) := by decide +kernel
theorem dX9_next_189 : decode cX9_next 189 = .ok (.aload_n 0, 1) := by decide +kernel
theorem dX9_next_190 : decode cX9_next 190 = .ok (.getfield 92, 3) := by decide +kernel
theorem dX9_next_193 : decode cX9_next 193 = .ok (.bipush 48, 2) := by decide +kernel
theorem dX9_next_195 : decode cX9_next 195 = .ok (.bipush 57, 2) := by decide +kernel
theorem dX9_next_197 : decode cX9_next 197 = .ok (.invokevirtual 95, 3) := by decide +kernel
theorem dX9_next_200 : decode cX9_next 200 = .ok (.ifCond .eq 74, 3) := by decide +kernel
theorem dX9_next_203 : decode cX9_next 203 = .ok (.aload_n 0, 1) := by decide +kernel
theorem dX9_next_204 : decode cX9_next 204 = .ok (.iconst 2, 1) := by decide +kernel
theorem dX9_next_205 : decode cX9_next 205 = .ok (.putfield 109, 3) := by decide +kernel
theorem dX9_next_208 : decode cX9_next 208 = .ok (.aload_n 0, 1) := by decide +kernel
theorem dX9_next_209 : decode cX9_next 209 = .ok (.aload_n 0, 1) := by decide +kernel
theorem dX9_next_210 : decode cX9_next 210 = .ok (.getfield 92, 3) := by decide +kernel
theorem dX9_next_213 : decode cX9_next 213 = .ok (.bipush 48, 2) := by decide +kernel
theorem dX9_next_215 : decode cX9_next 215 = .ok (.bipush 57, 2) := by decide +kernel
theorem dX9_next_217 : decode cX9_next 217 = .ok (.invokevirtual 95, 3) := by decide +kernel
theorem dX9_next_220 : decode cX9_next 220 = .ok (.ifCond .eq 87, 3) := by decide +kernel
theorem dX9_next_223 : decode cX9_next 223 = .ok (.aload_n 0, 1) := by decide +kernel
theorem dX9_next_224 : decode cX9_next 224 = .ok (.aload_n 0, 1) := by decide +kernel
theorem dX9_next_225 : decode cX9_next 225 = .ok (.getfield 102, 3) := by decide +kernel
theorem dX9_next_228 : decode cX9_next 228 = .ok (.ldc 118, 2) := by decide +kernel
theorem dX9_next_230 : decode cX9_next 230 = .ok (.if_icmp .le 8, 3) := by decide +kernel
theorem dX9_next_233 : decode cX9_next 233 = .ok (.ldc 119, 2) := by decide +kernel
theorem dX9_next_235 : decode cX9_next 235 = .ok (.goto 23, 3) := by decide +kernel
theorem dX9_next_238 : decode cX9_next 238 = .ok (.bipush 10, 2) := by decide +kernel
theorem dX9_next_240 : decode cX9_next 240 = .ok (.aload_n 0, 1) := by decide +kernel
theorem dX9_next_241 : decode cX9_next 241 = .ok (.getfield 102, 3) := by decide +kernel
theorem dX9_next_244 : decode cX9_next 244 = .ok (.imul, 1) := by decide +kernel
theorem dX9_next_245 : decode cX9_next 245 = .ok (.aload_n 0, 1) := by decide +kernel
theorem dX9_next_246 : decode cX9_next 246 = .ok (.getfield 23, 3) := by decide +kernel
theorem dX9_next_249 : decode cX9_next 249 = .ok (.aload_n 0, 1) := by decide +kernel
theorem dX9_next_250 : decode cX9_next 250 = .ok (.getfield 92, 3) := by decide +kernel
theorem dX9_next_253 : decode cX9_next 253 = .ok (.baload, 1) := by decide +kernel
theorem dX9_next_254 : decode cX9_next 254 = .ok (.iadd, 1) := by decide +kernel
theorem dX9_next_255 : decode cX9_next 255 = .ok (.bipush 48, 2) := by decide +kernel
theorem dX9_next_257 : decode cX9_next 257 = .ok (.isub, 1) := by decide +kernel
theorem dX9_next_258 : decode cX9_next 258 = .ok (.putfield 102, 3) := by decide +kernel
theorem dX9_next_261 : decode cX9_next 261 = .ok (.aload_n 0, 1) := by decide +kernel
theorem dX9_next_262 : decode cX9_next 262 = .ok (.dup, 1) := by decide +kernel
theorem dX9_next_263 : decode cX9_next 263 = .ok (.getfield 92, 3) := by decide +kernel
theorem dX9_next_266 : decode cX9_next 266 = .ok (.iconst 1, 1) := by decide +kernel
theorem dX9_next_267 : decode cX9_next 267 = .ok (.iadd, 1) := by decide +kernel
theorem dX9_next_268 : decode cX9_next 268 = .ok (.putfield 92, 3) := by decide +kernel
theorem dX9_next_271 : decode cX9_next 271 = .ok (.goto (-63), 3) := by decide +kernel
theorem dX9_next_274 : decode cX9_next 274 = .ok (.aload_n 0, 1) := by decide +kernel
theorem dX9_next_275 : decode cX9_next 275 = .ok (.aload_n 0, 1) := by decide +kernel
theorem dX9_next_276 : decode cX9_next 276 = .ok (.getfield 23, 3) := by decide +kernel
theorem dX9_next_279 : decode cX9_next 279 = .ok (.aload_n 0, 1) := by decide +kernel
theorem dX9_next_280 : decode cX9_next 280 = .ok (.getfield 92, 3) := by decide +kernel
theorem dX9_next_283 : decode cX9_next 283 = .ok (.baload, 1) := by decide +kernel
theorem dX9_next_284 : decode cX9_next 284 = .ok (.bipush 59, 2) := by decide +kernel
theorem dX9_next_286 : decode cX9_next 286 = .ok (.if_icmp .ne 7, 3) := by decide +kernel
theorem dX9_next_289 : decode cX9_next 289 = .ok (.iconst 3, 1) := by decide +kernel
theorem dX9_next_290 : decode cX9_next 290 = .ok (.goto 4, 3) := by decide +kernel
theorem dX9_next_293 : decode cX9_next 293 = .ok (.iconst 4, 1) := by decide +kernel
theorem dX9_next_294 : decode cX9_next 294 = .ok (.putfield 109, 3) := by decide +kernel
theorem dX9_next_297 : decode cX9_next 297 = .ok (.aload_n 0, 1) := by decide +kernel
theorem dX9_next_298 : decode cX9_next 298 = .ok (.dup, 1) := by decide +kernel
theorem dX9_next_299 : decode cX9_next 299 = .ok (.getfield 92, 3) := by decide +kernel
theorem dX9_next_302 : decode cX9_next 302 = .ok (.iconst 1, 1) := by decide +kernel
theorem dX9_next_303 : decode cX9_next 303 = .ok (.iadd, 1) := by decide +kernel
theorem dX9_next_304 : decode cX9_next 304 = .ok (.putfield 92, 3) := by decide +kernel
theorem dX9_next_307 : decode cX9_next 307 = .ok (.return_, 1) := by decide +kernel
theorem dX9_number_0 : decode cX9_number 0 = .ok (.aload_n 0, 1) := by decide +kernel
theorem dX9_number_1 : decode cX9_number 1 = .ok (.getfield 120, 3) := by decide +kernel
theorem dX9_number_4 : decode cX9_number 4 = .ok (.ifCond .eq 5, 3) := by decide +kernel
theorem dX9_number_7 : decode cX9_number 7 = .ok (.iload_n 1, 1) := by decide +kernel
theorem dX9_number_8 : decode cX9_number 8 = .ok (.ireturn, 1) := by decide +kernel
theorem dX9_number_9 : decode cX9_number 9 = .ok (.aload_n 0, 1) := by decide +kernel
theorem dX9_number_10 : decode cX9_number 10 = .ok (.getfield 109, 3) := by decide +kernel
theorem dX9_number_13 : decode cX9_number 13 = .ok (.iconst 2, 1) := by decide +kernel
theorem dX9_number_14 : decode cX9_number 14 = .ok (.if_icmp .eq 10, 3) := by decide +kernel
theorem dX9_number_17 : decode cX9_number 17 = .ok (.aload_n 0, 1) := by decide +kernel
theorem dX9_number_18 : decode cX9_number 18 = .ok (.iconst 1, 1) := by decide +kernel
theorem dX9_number_19 : decode cX9_number 19 = .ok (.invokevirtual 136, 3) := by decide +kernel
theorem dX9_number_22 : decode cX9_number 22 = .ok (.iload_n 1, 1) := by decide +kernel
theorem dX9_number_23 : decode cX9_number 23 = .ok (.ireturn, 1) := by decide +kernel
theorem dX9_number_24 : decode cX9_number 24 = .ok (.aload_n 0, 1) := by decide +kernel
theorem dX9_number_25 : decode cX9_number 25 = .ok (.getfield 102, 3) := by decide +kernel
theorem dX9_number_28 : decode cX9_number 28 = .ok (.i2l, 1) := by decide +kernel
theorem dX9_number_29 : decode cX9_number 29 = .ok (.iload_n 1, 1) := by decide +kernel
theorem dX9_number_30 : decode cX9_number 30 = .ok (.i2l, 1) := by decide +kernel
theorem dX9_number_31 : decode cX9_number 31 = .ok (.iload_n 2, 1) := by decide +kernel
theorem dX9_number_32 : decode cX9_number 32 = .ok (.i2l, 1) := by decide +kernel
theorem dX9_number_33 : decode cX9_number 33 = .ok (.invokestatic 73, 3) := by decide +kernel
theorem dX9_number_36 : decode cX9_number 36 = .ok (.ifCond .ne 10, 3) := by decide +kernel
theorem dX9_number_39 : decode cX9_number 39 = .ok (.aload_n 0, 1) := by decide +kernel
theorem dX9_number_40 : decode cX9_number 40 = .ok (.iconst 2, 1) := by decide +kernel
theorem dX9_number_41 : decode cX9_number 41 = .ok (.invokevirtual 136, 3) := by decide +kernel
theorem dX9_number_44 : decode cX9_number 44 = .ok (.iload_n 1, 1) := by decide +kernel
theorem dX9_number_45 : decode cX9_number 45 = .ok (.ireturn, 1) := by decide +kernel
theorem dX9_number_46 : decode cX9_number 46 = .ok (.aload_n 0, 1) := by decide +kernel
theorem dX9_number_47 : decode cX9_number 47 = .ok (.getfield 102, 3) := by decide +kernel
theorem dX9_number_50 : decode cX9_number 50 = .ok (.istore_n 3, 1) := by decide +kernel
theorem dX9_number_51 : decode cX9_number 51 = .ok (.aload_n 0, 1) := by decide +kernel
theorem dX9_number_52 : decode cX9_number 52 = .ok (.invokevirtual 130, 3) := by decide +kernel
theorem dX9_number_55 : decode cX9_number 55 = .ok (.iload_n 3, 1) := by decide +kernel
theorem dX9_number_56 : decode cX9_number 56 = .ok (.ireturn, 1) := by decide +kernel
theorem dX9_number__0 : decode cX9_number_ 0 = .ok (.aload_n 0, 1) := by decide +kernel
theorem dX9_number__1 : decode cX9_number_ 1 = .ok (.lload_n 1, 1) := by decide +kernel
theorem dX9_number__2 : decode cX9_number_ 2 = .ok (.invokevirtual 139, 3) := by decide +kernel
theorem dX9_number__5 : decode cX9_number_ 5 = .ok (.aload_n 0, 1) := by decide +kernel
theorem dX9_number__6 : decode cX9_number_ 6 = .ok (.iload_n 3, 1) := by decide +kernel
theorem dX9_number__7 : decode cX9_number_ 7 = .ok (.iload 4, 2) := by decide +kernel
theorem dX9_number__9 : decode cX9_number_ 9 = .ok (.invokevirtual 143, 3) := by decide +kernel
theorem dX9_number__12 : decode cX9_number_ 12 = .ok (.ireturn, 1) := by decide +kernel
theorem dX9_ohms_0 : decode cX9_ohms 0 = .ok (.aload_n 0, 1) := by decide +kernel
theorem dX9_ohms_1 : decode cX9_ohms 1 = .ok (.iconst 0, 1) := by decide +kernel
theorem dX9_ohms_2 : decode cX9_ohms 2 = .ok (.putfield 68, 3) := by decide +kernel
theorem dX9_ohms_5 : decode cX9_ohms 5 = .ok (.aload_n 0, 1) := by decide +kernel
theorem dX9_ohms_6 : decode cX9_ohms 6 = .ok (.iload_n 1, 1) := by decide +kernel
theorem dX9_ohms_7 : decode cX9_ohms 7 = .ok (.i2l, 1) := by decide +kernel
theorem dX9_ohms_8 : decode cX9_ohms 8 = .ok (.invokevirtual 289, 3) := by decide +kernel
theorem dX9_ohms_11 : decode cX9_ohms 11 = .ok (.ifCond .eq 10, 3) := by decide +kernel
theorem dX9_ohms_14 : decode cX9_ohms 14 = .ok (.iload_n 2, 1) := by decide +kernel
theorem dX9_ohms_15 : decode cX9_ohms 15 = .ok (.invokestatic 292, 3) := by decide +kernel
theorem dX9_ohms_18 : decode cX9_ohms 18 = .ok (.ifCond .ne 7, 3) := by decide +kernel
theorem dX9_ohms_21 : decode cX9_ohms 21 = .ok (.ldc2_w 295, 3) := by decide +kernel
theorem dX9_ohms_24 : decode cX9_ohms 24 = .ok (.lreturn, 1) := by decide +kernel
theorem dX9_ohms_25 : decode cX9_ohms 25 = .ok (.aload_n 0, 1) := by decide +kernel
theorem dX9_ohms_26 : decode cX9_ohms 26 = .ok (.invokevirtual 286, 3) := by decide +kernel
theorem dX9_ohms_29 : decode cX9_ohms 29 = .ok (.aload_n 0, 1) := by decide +kernel
theorem dX9_ohms_30 : decode cX9_ohms 30 = .ok (.iload_n 1, 1) := by decide +kernel
theorem dX9_ohms_31 : decode cX9_ohms 31 = .ok (.invokevirtual 262, 3) := by decide +kernel
theorem dX9_ohms_34 : decode cX9_ohms 34 = .ok (.aload_n 0, 1) := by decide +kernel
theorem dX9_ohms_35 : decode cX9_ohms 35 = .ok (.getfield 250, 3) := by decide +kernel
theorem dX9_ohms_38 : decode cX9_ohms 38 = .ok (.ifCond .ne 10, 3) := by decide +kernel
theorem dX9_ohms_41 : decode cX9_ohms 41 = .ok (.lconst 1, 1) := by decide +kernel
theorem dX9_ohms_42 : decode cX9_ohms 42 = .ok (.iload_n 2, 1) := by decide +kernel
theorem dX9_ohms_43 : decode cX9_ohms 43 = .ok (.i2l, 1) := by decide +kernel
theorem dX9_ohms_44 : decode cX9_ohms 44 = .ok (.lsub, 1) := by decide +kernel
theorem dX9_ohms_45 : decode cX9_ohms 45 = .ok (.goto 17, 3) := by decide +kernel
theorem dX9_ohms_48 : decode cX9_ohms 48 = .ok (.aload_n 0, 1) := by decide +kernel
theorem dX9_ohms_49 : decode cX9_ohms 49 = .ok (.getfield 259, 3) := by decide +kernel
theorem dX9_ohms_52 : decode cX9_ohms 52 = .ok (.aload_n 0, 1) := by decide +kernel
theorem dX9_ohms_53 : decode cX9_ohms 53 = .ok (.getfield 59, 3) := by decide +kernel
theorem dX9_ohms_56 : decode cX9_ohms 56 = .ok (.iconst 0, 1) := by decide +kernel
theorem dX9_ohms_57 : decode cX9_ohms 57 = .ok (.laload, 1) := by decide +kernel
theorem dX9_ohms_58 : decode cX9_ohms 58 = .ok (.iload_n 2, 1) := by decide +kernel
theorem dX9_ohms_59 : decode cX9_ohms 59 = .ok (.invokestatic 297, 3) := by decide +kernel
theorem dX9_ohms_62 : decode cX9_ohms 62 = .ok (.lreturn, 1) := by decide +kernel
theorem dX9_partAt_0 : decode cX9_partAt 0 = .ok (.iload_n 1, 1) := by decide +kernel
theorem dX9_partAt_1 : decode cX9_partAt 1 = .ok (.aload_n 0, 1) := by decide +kernel
theorem dX9_partAt_2 : decode cX9_partAt 2 = .ok (.getfield 250, 3) := by decide +kernel
theorem dX9_partAt_5 : decode cX9_partAt 5 = .ok (.if_icmp .ge 12, 3) := by decide +kernel
theorem dX9_partAt_8 : decode cX9_partAt 8 = .ok (.aload_n 0, 1) := by decide +kernel
theorem dX9_partAt_9 : decode cX9_partAt 9 = .ok (.getfield 56, 3) := by decide +kernel
theorem dX9_partAt_12 : decode cX9_partAt 12 = .ok (.iload_n 1, 1) := by decide +kernel
theorem dX9_partAt_13 : decode cX9_partAt 13 = .ok (.laload, 1) := by decide +kernel
theorem dX9_partAt_14 : decode cX9_partAt 14 = .ok (.goto 4, 3) := by decide +kernel
theorem dX9_partAt_17 : decode cX9_partAt 17 = .ok (.lconst 0, 1) := by decide +kernel
theorem dX9_partAt_18 : decode cX9_partAt 18 = .ok (.lreturn, 1) := by decide +kernel
theorem dX9_partOf_0 : decode cX9_partOf 0 = .ok (.iload 4, 2) := by decide +kernel
theorem dX9_partOf_2 : decode cX9_partOf 2 = .ok (.ifCond .ne 7, 3) := by decide +kernel
theorem dX9_partOf_5 : decode cX9_partOf 5 = .ok (.lload_n 0, 1) := by decide +kernel
theorem dX9_partOf_6 : decode cX9_partOf 6 = .ok (.goto 4, 3) := by decide +kernel
theorem dX9_partOf_9 : decode cX9_partOf 9 = .ok (.lload_n 2, 1) := by decide +kernel
theorem dX9_partOf_10 : decode cX9_partOf 10 = .ok (.lload_n 0, 1) := by decide +kernel
theorem dX9_partOf_11 : decode cX9_partOf 11 = .ok (.lload_n 2, 1) := by decide +kernel
theorem dX9_partOf_12 : decode cX9_partOf 12 = .ok (.invokestatic 277, 3) := by decide +kernel
theorem dX9_partOf_15 : decode cX9_partOf 15 = .ok (.ldiv, 1) := by decide +kernel
theorem dX9_partOf_16 : decode cX9_partOf 16 = .ok (.lreturn, 1) := by decide +kernel
theorem dX9_paste_0 : decode cX9_paste 0 = .ok (.aload_n 0, 1) := by decide +kernel
theorem dX9_paste_1 : decode cX9_paste 1 = .ok (.iconst 0, 1) := by decide +kernel
theorem dX9_paste_2 : decode cX9_paste 2 = .ok (.putfield 68, 3) := by decide +kernel
theorem dX9_paste_5 : decode cX9_paste 5 = .ok (.iload_n 1, 1) := by decide +kernel
theorem dX9_paste_6 : decode cX9_paste 6 = .ok (.invokestatic 77, 3) := by decide +kernel
theorem dX9_paste_9 : decode cX9_paste 9 = .ok (.ifCond .eq 10, 3) := by decide +kernel
theorem dX9_paste_12 : decode cX9_paste 12 = .ok (.iload_n 3, 1) := by decide +kernel
theorem dX9_paste_13 : decode cX9_paste 13 = .ok (.invokestatic 77, 3) := by decide +kernel
theorem dX9_paste_16 : decode cX9_paste 16 = .ok (.ifCond .ne 6, 3) := by decide +kernel
theorem dX9_paste_19 : decode cX9_paste 19 = .ok (.bipush (-2), 2) := by decide +kernel
theorem dX9_paste_21 : decode cX9_paste 21 = .ok (.ireturn, 1) := by decide +kernel
theorem dX9_paste_22 : decode cX9_paste 22 = .ok (.aload_n 0, 1) := by decide +kernel
theorem dX9_paste_23 : decode cX9_paste 23 = .ok (.getfield 7, 3) := by decide +kernel
theorem dX9_paste_26 : decode cX9_paste 26 = .ok (.iload_n 1, 1) := by decide +kernel
theorem dX9_paste_27 : decode cX9_paste 27 = .ok (.iaload, 1) := by decide +kernel
theorem dX9_paste_28 : decode cX9_paste 28 = .ok (.iconst (-1), 1) := by decide +kernel
theorem dX9_paste_29 : decode cX9_paste 29 = .ok (.if_icmp .eq 13, 3) := by decide +kernel
theorem dX9_paste_32 : decode cX9_paste 32 = .ok (.aload_n 0, 1) := by decide +kernel
theorem dX9_paste_33 : decode cX9_paste 33 = .ok (.getfield 7, 3) := by decide +kernel
theorem dX9_paste_36 : decode cX9_paste 36 = .ok (.iload_n 3, 1) := by decide +kernel
theorem dX9_paste_37 : decode cX9_paste 37 = .ok (.iaload, 1) := by decide +kernel
theorem dX9_paste_38 : decode cX9_paste 38 = .ok (.iconst (-1), 1) := by decide +kernel
theorem dX9_paste_39 : decode cX9_paste 39 = .ok (.if_icmp .ne 6, 3) := by decide +kernel
theorem dX9_paste_42 : decode cX9_paste 42 = .ok (.bipush (-6), 2) := by decide +kernel
theorem dX9_paste_44 : decode cX9_paste 44 = .ok (.ireturn, 1) := by decide +kernel
theorem dX9_paste_45 : decode cX9_paste 45 = .ok (.aload_n 0, 1) := by decide +kernel
theorem dX9_paste_46 : decode cX9_paste 46 = .ok (.getfield 7, 3) := by decide +kernel
theorem dX9_paste_49 : decode cX9_paste 49 = .ok (.iload_n 1, 1) := by decide +kernel
theorem dX9_paste_50 : decode cX9_paste 50 = .ok (.iaload, 1) := by decide +kernel
theorem dX9_paste_51 : decode cX9_paste 51 = .ok (.aload_n 0, 1) := by decide +kernel
theorem dX9_paste_52 : decode cX9_paste 52 = .ok (.getfield 7, 3) := by decide +kernel
theorem dX9_paste_55 : decode cX9_paste 55 = .ok (.iload_n 3, 1) := by decide +kernel
theorem dX9_paste_56 : decode cX9_paste 56 = .ok (.iaload, 1) := by decide +kernel
theorem dX9_paste_57 : decode cX9_paste 57 = .ok (.if_icmp .eq 6, 3) := by decide +kernel
theorem dX9_paste_60 : decode cX9_paste 60 = .ok (.bipush (-8), 2) := by decide +kernel
theorem dX9_paste_62 : decode cX9_paste 62 = .ok (.ireturn, 1) := by decide +kernel
theorem dX9_paste_63 : decode cX9_paste 63 = .ok (.iload_n 2, 1) := by decide +kernel
theorem dX9_paste_64 : decode cX9_paste 64 = .ok (.ifCond .lt 48, 3) := by decide +kernel
theorem dX9_paste_67 : decode cX9_paste 67 = .ok (.iload 4, 2) := by decide +kernel
theorem dX9_paste_69 : decode cX9_paste 69 = .ok (.ifCond .lt 43, 3) := by decide +kernel
theorem dX9_paste_72 : decode cX9_paste 72 = .ok (.iload 5, 2) := by decide +kernel
theorem dX9_paste_74 : decode cX9_paste 74 = .ok (.ifCond .lt 38, 3) := by decide +kernel
theorem dX9_paste_77 : decode cX9_paste 77 = .ok (.iload_n 2, 1) := by decide +kernel
theorem dX9_paste_78 : decode cX9_paste 78 = .ok (.i2l, 1) := by decide +kernel
theorem dX9_paste_79 : decode cX9_paste 79 = .ok (.iload 5, 2) := by decide +kernel
theorem dX9_paste_81 : decode cX9_paste 81 = .ok (.i2l, 1) := by decide +kernel
theorem dX9_paste_82 : decode cX9_paste 82 = .ok (.ladd, 1) := by decide +kernel
theorem dX9_paste_83 : decode cX9_paste 83 = .ok (.aload_n 0, 1) := by decide +kernel
theorem dX9_paste_84 : decode cX9_paste 84 = .ok (.getfield 13, 3) := by decide +kernel
theorem dX9_paste_87 : decode cX9_paste 87 = .ok (.iload_n 1, 1) := by decide +kernel
theorem dX9_paste_88 : decode cX9_paste 88 = .ok (.iaload, 1) := by decide +kernel
theorem dX9_paste_89 : decode cX9_paste 89 = .ok (.i2l, 1) := by decide +kernel
theorem dX9_paste_90 : decode cX9_paste 90 = .ok (.lcmp, 1) := by decide +kernel
theorem dX9_paste_91 : decode cX9_paste 91 = .ok (.ifCond .gt 21, 3) := by decide +kernel
theorem dX9_paste_94 : decode cX9_paste 94 = .ok (.iload 4, 2) := by decide +kernel
theorem dX9_paste_96 : decode cX9_paste 96 = .ok (.i2l, 1) := by decide +kernel
theorem dX9_paste_97 : decode cX9_paste 97 = .ok (.iload 5, 2) := by decide +kernel
theorem dX9_paste_99 : decode cX9_paste 99 = .ok (.i2l, 1) := by decide +kernel
theorem dX9_paste_100 : decode cX9_paste 100 = .ok (.ladd, 1) := by decide +kernel
theorem dX9_paste_101 : decode cX9_paste 101 = .ok (.aload_n 0, 1) := by decide +kernel
theorem dX9_paste_102 : decode cX9_paste 102 = .ok (.getfield 13, 3) := by decide +kernel
theorem dX9_paste_105 : decode cX9_paste 105 = .ok (.iload_n 3, 1) := by decide +kernel
theorem dX9_paste_106 : decode cX9_paste 106 = .ok (.iaload, 1) := by decide +kernel
theorem dX9_paste_107 : decode cX9_paste 107 = .ok (.i2l, 1) := by decide +kernel
theorem dX9_paste_108 : decode cX9_paste 108 = .ok (.lcmp, 1) := by decide +kernel
theorem dX9_paste_109 : decode cX9_paste 109 = .ok (.ifCond .le 6, 3) := by decide +kernel
theorem dX9_paste_112 : decode cX9_paste 112 = .ok (.bipush (-7), 2) := by decide +kernel
theorem dX9_paste_114 : decode cX9_paste 114 = .ok (.ireturn, 1) := by decide +kernel
theorem dX9_paste_115 : decode cX9_paste 115 = .ok (.iconst 0, 1) := by decide +kernel
theorem dX9_paste_116 : decode cX9_paste 116 = .ok (.istore 6, 2) := by decide +kernel
theorem dX9_paste_118 : decode cX9_paste 118 = .ok (.iload 6, 2) := by decide +kernel
theorem dX9_paste_120 : decode cX9_paste 120 = .ok (.iload 5, 2) := by decide +kernel
theorem dX9_paste_122 : decode cX9_paste 122 = .ok (.if_icmp .ge 30, 3) := by decide +kernel
theorem dX9_paste_125 : decode cX9_paste 125 = .ok (.aload_n 0, 1) := by decide +kernel
theorem dX9_paste_126 : decode cX9_paste 126 = .ok (.getfield 20, 3) := by decide +kernel
theorem dX9_paste_129 : decode cX9_paste 129 = .ok (.iload 6, 2) := by decide +kernel
theorem dX9_paste_131 : decode cX9_paste 131 = .ok (.aload_n 0, 1) := by decide +kernel
theorem dX9_paste_132 : decode cX9_paste 132 = .ok (.getfield 16, 3) := by decide +kernel
theorem dX9_paste_135 : decode cX9_paste 135 = .ok (.bipush 60, 2) := by decide +kernel
theorem dX9_paste_137 : decode cX9_paste 137 = .ok (.iload_n 1, 1) := by decide +kernel
theorem dX9_paste_138 : decode cX9_paste 138 = .ok (.imul, 1) := by decide +kernel
theorem dX9_paste_139 : decode cX9_paste 139 = .ok (.iload_n 2, 1) := by decide +kernel
theorem dX9_paste_140 : decode cX9_paste 140 = .ok (.iadd, 1) := by decide +kernel
theorem dX9_paste_141 : decode cX9_paste 141 = .ok (.iload 6, 2) := by decide +kernel
theorem dX9_paste_143 : decode cX9_paste 143 = .ok (.iadd, 1) := by decide +kernel
theorem dX9_paste_144 : decode cX9_paste 144 = .ok (.laload, 1) := by decide +kernel
theorem dX9_paste_145 : decode cX9_paste 145 = .ok (.lastore, 1) := by decide +kernel
theorem dX9_paste_146 : decode cX9_paste 146 = .ok (.iinc 6 1, 3) := by decide +kernel
theorem dX9_paste_149 : decode cX9_paste 149 = .ok (.goto (-31), 3) := by decide +kernel
theorem dX9_paste_152 : decode cX9_paste 152 = .ok (.iconst 0, 1) := by decide +kernel
theorem dX9_paste_153 : decode cX9_paste 153 = .ok (.istore 6, 2) := by decide +kernel
theorem dX9_paste_155 : decode cX9_paste 155 = .ok (.iload 6, 2) := by decide +kernel
theorem dX9_paste_157 : decode cX9_paste 157 = .ok (.iload 5, 2) := by decide +kernel
theorem dX9_paste_159 : decode cX9_paste 159 = .ok (.if_icmp .ge 31, 3) := by decide +kernel
theorem dX9_paste_162 : decode cX9_paste 162 = .ok (.aload_n 0, 1) := by decide +kernel
theorem dX9_paste_163 : decode cX9_paste 163 = .ok (.getfield 16, 3) := by decide +kernel
theorem dX9_paste_166 : decode cX9_paste 166 = .ok (.bipush 60, 2) := by decide +kernel
theorem dX9_paste_168 : decode cX9_paste 168 = .ok (.iload_n 3, 1) := by decide +kernel
theorem dX9_paste_169 : decode cX9_paste 169 = .ok (.imul, 1) := by decide +kernel
theorem dX9_paste_170 : decode cX9_paste 170 = .ok (.iload 4, 2) := by decide +kernel
theorem dX9_paste_172 : decode cX9_paste 172 = .ok (.iadd, 1) := by decide +kernel
theorem dX9_paste_173 : decode cX9_paste 173 = .ok (.iload 6, 2) := by decide +kernel
theorem dX9_paste_175 : decode cX9_paste 175 = .ok (.iadd, 1) := by decide +kernel
theorem dX9_paste_176 : decode cX9_paste 176 = .ok (.aload_n 0, 1) := by decide +kernel
theorem dX9_paste_177 : decode cX9_paste 177 = .ok (.getfield 20, 3) := by decide +kernel
theorem dX9_paste_180 : decode cX9_paste 180 = .ok (.iload 6, 2) := by decide +kernel
theorem dX9_paste_182 : decode cX9_paste 182 = .ok (.laload, 1) := by decide +kernel
theorem dX9_paste_183 : decode cX9_paste 183 = .ok (.lastore, 1) := by decide +kernel
theorem dX9_paste_184 : decode cX9_paste 184 = .ok (.iinc 6 1, 3) := by decide +kernel
theorem dX9_paste_187 : decode cX9_paste 187 = .ok (.goto (-32), 3) := by decide +kernel
theorem dX9_paste_190 : decode cX9_paste 190 = .ok (.iconst 0, 1) := by decide +kernel
theorem dX9_paste_191 : decode cX9_paste 191 = .ok (.ireturn, 1) := by decide +kernel
theorem dX9_power_0 : decode cX9_power 0 = .ok (.iload_n 2, 1) := by decide +kernel
theorem dX9_power_1 : decode cX9_power 1 = .ok (.ifCond .ne 7, 3) := by decide +kernel
theorem dX9_power_4 : decode cX9_power 4 = .ok (.lconst 1, 1) := by decide +kernel
theorem dX9_power_5 : decode cX9_power 5 = .ok (.goto 12, 3) := by decide +kernel
theorem dX9_power_8 : decode cX9_power 8 = .ok (.lload_n 0, 1) := by decide +kernel
theorem dX9_power_9 : decode cX9_power 9 = .ok (.lload_n 0, 1) := by decide +kernel
theorem dX9_power_10 : decode cX9_power 10 = .ok (.iload_n 2, 1) := by decide +kernel
theorem dX9_power_11 : decode cX9_power 11 = .ok (.iconst 1, 1) := by decide +kernel
theorem dX9_power_12 : decode cX9_power 12 = .ok (.isub, 1) := by decide +kernel
theorem dX9_power_13 : decode cX9_power 13 = .ok (.invokestatic 379, 3) := by decide +kernel
theorem dX9_power_16 : decode cX9_power 16 = .ok (.lmul, 1) := by decide +kernel
theorem dX9_power_17 : decode cX9_power 17 = .ok (.lreturn, 1) := by decide +kernel
theorem dX9_rate_0 : decode cX9_rate 0 = .ok (.aload_n 0, 1) := by decide +kernel
theorem dX9_rate_1 : decode cX9_rate 1 = .ok (.iconst 0, 1) := by decide +kernel
theorem dX9_rate_2 : decode cX9_rate 2 = .ok (.putfield 68, 3) := by decide +kernel
theorem dX9_rate_5 : decode cX9_rate 5 = .ok (.aload_n 0, 1) := by decide +kernel
theorem dX9_rate_6 : decode cX9_rate 6 = .ok (.iload_n 1, 1) := by decide +kernel
theorem dX9_rate_7 : decode cX9_rate 7 = .ok (.invokevirtual 268, 3) := by decide +kernel
theorem dX9_rate_10 : decode cX9_rate 10 = .ok (.ifCond .eq 15, 3) := by decide +kernel
theorem dX9_rate_13 : decode cX9_rate 13 = .ok (.iload_n 2, 1) := by decide +kernel
theorem dX9_rate_14 : decode cX9_rate 14 = .ok (.i2l, 1) := by decide +kernel
theorem dX9_rate_15 : decode cX9_rate 15 = .ok (.lconst 0, 1) := by decide +kernel
theorem dX9_rate_16 : decode cX9_rate 16 = .ok (.ldc2_w 413, 3) := by decide +kernel
theorem dX9_rate_19 : decode cX9_rate 19 = .ok (.invokestatic 73, 3) := by decide +kernel
theorem dX9_rate_22 : decode cX9_rate 22 = .ok (.ifCond .ne 6, 3) := by decide +kernel
theorem dX9_rate_25 : decode cX9_rate 25 = .ok (.bipush (-2), 2) := by decide +kernel
theorem dX9_rate_27 : decode cX9_rate 27 = .ok (.ireturn, 1) := by decide +kernel
theorem dX9_rate_28 : decode cX9_rate 28 = .ok (.aload_n 0, 1) := by decide +kernel
theorem dX9_rate_29 : decode cX9_rate 29 = .ok (.getfield 34, 3) := by decide +kernel
theorem dX9_rate_32 : decode cX9_rate 32 = .ok (.bipush 6, 2) := by decide +kernel
theorem dX9_rate_34 : decode cX9_rate 34 = .ok (.iaload, 1) := by decide +kernel
theorem dX9_rate_35 : decode cX9_rate 35 = .ok (.ifCond .le 6, 3) := by decide +kernel
theorem dX9_rate_38 : decode cX9_rate 38 = .ok (.bipush (-5), 2) := by decide +kernel
theorem dX9_rate_40 : decode cX9_rate 40 = .ok (.ireturn, 1) := by decide +kernel
theorem dX9_rate_41 : decode cX9_rate 41 = .ok (.aload_n 0, 1) := by decide +kernel
theorem dX9_rate_42 : decode cX9_rate 42 = .ok (.getfield 37, 3) := by decide +kernel
theorem dX9_rate_45 : decode cX9_rate 45 = .ok (.iconst 3, 1) := by decide +kernel
theorem dX9_rate_46 : decode cX9_rate 46 = .ok (.iload_n 1, 1) := by decide +kernel
theorem dX9_rate_47 : decode cX9_rate 47 = .ok (.imul, 1) := by decide +kernel
theorem dX9_rate_48 : decode cX9_rate 48 = .ok (.iconst 2, 1) := by decide +kernel
theorem dX9_rate_49 : decode cX9_rate 49 = .ok (.iadd, 1) := by decide +kernel
theorem dX9_rate_50 : decode cX9_rate 50 = .ok (.iaload, 1) := by decide +kernel
theorem dX9_rate_51 : decode cX9_rate 51 = .ok (.istore_n 3, 1) := by decide +kernel
theorem dX9_rate_52 : decode cX9_rate 52 = .ok (.aload_n 0, 1) := by decide +kernel
theorem dX9_rate_53 : decode cX9_rate 53 = .ok (.getfield 37, 3) := by decide +kernel
theorem dX9_rate_56 : decode cX9_rate 56 = .ok (.iconst 3, 1) := by decide +kernel
theorem dX9_rate_57 : decode cX9_rate 57 = .ok (.iload_n 1, 1) := by decide +kernel
theorem dX9_rate_58 : decode cX9_rate 58 = .ok (.imul, 1) := by decide +kernel
theorem dX9_rate_59 : decode cX9_rate 59 = .ok (.iconst 2, 1) := by decide +kernel
theorem dX9_rate_60 : decode cX9_rate 60 = .ok (.iadd, 1) := by decide +kernel
theorem dX9_rate_61 : decode cX9_rate 61 = .ok (.iload_n 2, 1) := by decide +kernel
theorem dX9_rate_62 : decode cX9_rate 62 = .ok (.iastore, 1) := by decide +kernel
theorem dX9_rate_63 : decode cX9_rate 63 = .ok (.iload_n 3, 1) := by decide +kernel
theorem dX9_rate_64 : decode cX9_rate 64 = .ok (.ireturn, 1) := by decide +kernel
theorem dX9_reach_0 : decode cX9_reach 0 = .ok (.aload_n 0, 1) := by decide +kernel
theorem dX9_reach_1 : decode cX9_reach 1 = .ok (.iconst 0, 1) := by decide +kernel
theorem dX9_reach_2 : decode cX9_reach 2 = .ok (.putfield 68, 3) := by decide +kernel
theorem dX9_reach_5 : decode cX9_reach 5 = .ok (.aload_n 0, 1) := by decide +kernel
theorem dX9_reach_6 : decode cX9_reach 6 = .ok (.iload_n 1, 1) := by decide +kernel
theorem dX9_reach_7 : decode cX9_reach 7 = .ok (.i2l, 1) := by decide +kernel
theorem dX9_reach_8 : decode cX9_reach 8 = .ok (.invokevirtual 289, 3) := by decide +kernel
theorem dX9_reach_11 : decode cX9_reach 11 = .ok (.ifCond .ne 6, 3) := by decide +kernel
theorem dX9_reach_14 : decode cX9_reach 14 = .ok (.bipush (-2), 2) := by decide +kernel
theorem dX9_reach_16 : decode cX9_reach 16 = .ok (.ireturn, 1) := by decide +kernel
theorem dX9_reach_17 : decode cX9_reach 17 = .ok (.aload_n 0, 1) := by decide +kernel
theorem dX9_reach_18 : decode cX9_reach 18 = .ok (.invokevirtual 286, 3) := by decide +kernel
theorem dX9_reach_21 : decode cX9_reach 21 = .ok (.aload_n 0, 1) := by decide +kernel
