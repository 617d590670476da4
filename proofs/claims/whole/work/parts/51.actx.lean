theorem i13_0 : ts_ins 13 0 = some (.iload_n 1, 1, 0) := by decide +kernel
theorem i13_1 : ts_ins 13 1 = some (.istore 5, 3, 0) := by decide +kernel
theorem i13_3 : ts_ins 13 3 = some (.iconst 0, 4, 0) := by decide +kernel
theorem i13_4 : ts_ins 13 4 = some (.istore 6, 6, 0) := by decide +kernel
theorem i13_6 : ts_ins 13 6 = some (.iload 6, 8, 0) := by decide +kernel
theorem i13_8 : ts_ins 13 8 = some (.bipush 8, 10, 0) := by decide +kernel
theorem i13_10 : ts_ins 13 10 = some (.if_icmp .ge 65, 13, 75) := by decide +kernel
theorem i13_13 : ts_ins 13 13 = some (.iload 5, 15, 0) := by decide +kernel
theorem i13_15 : ts_ins 13 15 = some (.ifCond .lt 60, 18, 75) := by decide +kernel
theorem i13_18 : ts_ins 13 18 = some (.iload 5, 20, 0) := by decide +kernel
theorem i13_20 : ts_ins 13 20 = some (.bipush 8, 22, 0) := by decide +kernel
theorem i13_22 : ts_ins 13 22 = some (.if_icmp .ge 53, 25, 75) := by decide +kernel
theorem i13_25 : ts_ins 13 25 = some (.getstatic 43, 28, 0) := by decide +kernel
theorem g13_25 : ts_sg (ts_mc 13) 43 = some (.ref 1003) := by decide +kernel
theorem i13_28 : ts_ins 13 28 = some (.iload_n 2, 29, 0) := by decide +kernel
theorem i13_29 : ts_ins 13 29 = some (.bipush 8, 31, 0) := by decide +kernel
theorem i13_31 : ts_ins 13 31 = some (.imul, 32, 0) := by decide +kernel
theorem i13_32 : ts_ins 13 32 = some (.iload 5, 34, 0) := by decide +kernel
theorem i13_34 : ts_ins 13 34 = some (.iadd, 35, 0) := by decide +kernel
theorem i13_35 : ts_ins 13 35 = some (.iaload, 36, 0) := by decide +kernel
theorem i13_36 : ts_ins 13 36 = some (.istore 7, 38, 0) := by decide +kernel
theorem i13_38 : ts_ins 13 38 = some (.iload 7, 40, 0) := by decide +kernel
theorem i13_40 : ts_ins 13 40 = some (.ifCond .eq 21, 43, 61) := by decide +kernel
theorem i13_43 : ts_ins 13 43 = some (.aload_n 0, 44, 0) := by decide +kernel
theorem i13_44 : ts_ins 13 44 = some (.iload 7, 46, 0) := by decide +kernel
theorem i13_46 : ts_ins 13 46 = some (.getstatic 28, 49, 0) := by decide +kernel
theorem g13_46 : ts_sg (ts_mc 13) 28 = some (.ref 1002) := by decide +kernel
theorem i13_49 : ts_ins 13 49 = some (.iload 5, 51, 0) := by decide +kernel
theorem i13_51 : ts_ins 13 51 = some (.iaload, 52, 0) := by decide +kernel
theorem i13_52 : ts_ins 13 52 = some (.iload_n 3, 53, 0) := by decide +kernel
theorem i13_53 : ts_ins 13 53 = some (.iload 4, 55, 0) := by decide +kernel
theorem i13_55 : ts_ins 13 55 = some (.iconst 1, 56, 0) := by decide +kernel
theorem i13_56 : ts_ins 13 56 = some (.iadd, 57, 0) := by decide +kernel
theorem i13_57 : ts_ins 13 57 = some (.invokevirtual 46, 60, 0) := by decide +kernel
theorem g13_57 : ts_cal (ts_mc 13) 46 = some (0, 14, 4) := by decide +kernel
theorem i13_60 : ts_ins 13 60 = some (.ireturn, 61, 0) := by decide +kernel
theorem i13_61 : ts_ins 13 61 = some (.getstatic 28, 64, 0) := by decide +kernel
theorem g13_61 : ts_sg (ts_mc 13) 28 = some (.ref 1002) := by decide +kernel
theorem i13_64 : ts_ins 13 64 = some (.iload 5, 66, 0) := by decide +kernel
theorem i13_66 : ts_ins 13 66 = some (.iaload, 67, 0) := by decide +kernel
theorem i13_67 : ts_ins 13 67 = some (.istore 5, 69, 0) := by decide +kernel
theorem i13_69 : ts_ins 13 69 = some (.iinc 6 1, 72, 0) := by decide +kernel
theorem i13_72 : ts_ins 13 72 = some (.goto (-66), 75, 6) := by decide +kernel
theorem i13_75 : ts_ins 13 75 = some (.iconst 0, 76, 0) := by decide +kernel
theorem i13_76 : ts_ins 13 76 = some (.ireturn, 77, 0) := by decide +kernel
theorem r13 : ts_rt 13 = ((some .int), 0, 0) := by decide +kernel
theorem l13 : ts_ml 13 = 8 := by decide +kernel
theorem i14_0 : ts_ins 14 0 = some (.iload 4, 2, 0) := by decide +kernel
theorem i14_2 : ts_ins 14 2 = some (.bipush 40, 4, 0) := by decide +kernel
theorem i14_4 : ts_ins 14 4 = some (.if_icmp .le 5, 7, 9) := by decide +kernel
theorem i14_7 : ts_ins 14 7 = some (.iconst 0, 8, 0) := by decide +kernel
theorem i14_8 : ts_ins 14 8 = some (.ireturn, 9, 0) := by decide +kernel
theorem i14_9 : ts_ins 14 9 = some (.aload_n 0, 10, 0) := by decide +kernel
theorem i14_10 : ts_ins 14 10 = some (.iload_n 1, 11, 0) := by decide +kernel
theorem i14_11 : ts_ins 14 11 = some (.invokevirtual 49, 14, 0) := by decide +kernel
theorem g14_11 : ts_cal (ts_mc 14) 49 = some (0, 15, 1) := by decide +kernel
theorem i14_14 : ts_ins 14 14 = some (.iload_n 1, 15, 0) := by decide +kernel
theorem i14_15 : ts_ins 14 15 = some (.lookupswitch 277 #[(1, 113), (2, 120), (10, 138), (11, 149), (20, 156), (30, 168), (40, 179), (41, 191), (50, 203), (60, 222), (70, 234), (80, 246), (81, 265)], 128, 0) := by decide +kernel
theorem i14_128 : ts_ins 14 128 = some (.iload_n 3, 129, 0) := by decide +kernel
theorem i14_129 : ts_ins 14 129 = some (.aload_n 0, 130, 0) := by decide +kernel
theorem i14_130 : ts_ins 14 130 = some (.getfield 25, 133, 0) := by decide +kernel
theorem g14_130 : ts_fm 14 25 = some (2, 4, 0) := by decide +kernel
theorem i14_133 : ts_ins 14 133 = some (.iadd, 134, 0) := by decide +kernel
theorem i14_134 : ts_ins 14 134 = some (.ireturn, 135, 0) := by decide +kernel
theorem i14_135 : ts_ins 14 135 = some (.aload_n 0, 136, 0) := by decide +kernel
theorem i14_136 : ts_ins 14 136 = some (.iconst 1, 137, 0) := by decide +kernel
theorem i14_137 : ts_ins 14 137 = some (.iload_n 3, 138, 0) := by decide +kernel
theorem i14_138 : ts_ins 14 138 = some (.iload 4, 140, 0) := by decide +kernel
theorem i14_140 : ts_ins 14 140 = some (.invokevirtual 31, 143, 0) := by decide +kernel
theorem g14_140 : ts_cal (ts_mc 14) 31 = some (0, 12, 3) := by decide +kernel
theorem i14_143 : ts_ins 14 143 = some (.aload_n 0, 144, 0) := by decide +kernel
theorem i14_144 : ts_ins 14 144 = some (.iconst 2, 145, 0) := by decide +kernel
theorem i14_145 : ts_ins 14 145 = some (.iconst 1, 146, 0) := by decide +kernel
theorem i14_146 : ts_ins 14 146 = some (.iload 4, 148, 0) := by decide +kernel
theorem i14_148 : ts_ins 14 148 = some (.invokevirtual 31, 151, 0) := by decide +kernel
theorem g14_148 : ts_cal (ts_mc 14) 31 = some (0, 12, 3) := by decide +kernel
theorem i14_151 : ts_ins 14 151 = some (.isub, 152, 0) := by decide +kernel
theorem i14_152 : ts_ins 14 152 = some (.ireturn, 153, 0) := by decide +kernel
theorem i14_153 : ts_ins 14 153 = some (.aload_n 0, 154, 0) := by decide +kernel
theorem i14_154 : ts_ins 14 154 = some (.iconst 0, 155, 0) := by decide +kernel
theorem i14_155 : ts_ins 14 155 = some (.iload_n 3, 156, 0) := by decide +kernel
theorem i14_156 : ts_ins 14 156 = some (.iload 4, 158, 0) := by decide +kernel
theorem i14_158 : ts_ins 14 158 = some (.invokevirtual 31, 161, 0) := by decide +kernel
theorem g14_158 : ts_cal (ts_mc 14) 31 = some (0, 12, 3) := by decide +kernel
theorem i14_161 : ts_ins 14 161 = some (.iconst 2, 162, 0) := by decide +kernel
theorem i14_162 : ts_ins 14 162 = some (.imul, 163, 0) := by decide +kernel
theorem i14_163 : ts_ins 14 163 = some (.ireturn, 164, 0) := by decide +kernel
theorem i14_164 : ts_ins 14 164 = some (.iload_n 3, 165, 0) := by decide +kernel
theorem i14_165 : ts_ins 14 165 = some (.aload_n 0, 166, 0) := by decide +kernel
theorem i14_166 : ts_ins 14 166 = some (.getfield 25, 169, 0) := by decide +kernel
theorem g14_166 : ts_fm 14 25 = some (2, 4, 0) := by decide +kernel
theorem i14_169 : ts_ins 14 169 = some (.ixor, 170, 0) := by decide +kernel
theorem i14_170 : ts_ins 14 170 = some (.ireturn, 171, 0) := by decide +kernel
theorem i14_171 : ts_ins 14 171 = some (.aload_n 0, 172, 0) := by decide +kernel
theorem i14_172 : ts_ins 14 172 = some (.iload_n 2, 173, 0) := by decide +kernel
theorem i14_173 : ts_ins 14 173 = some (.iconst 0, 174, 0) := by decide +kernel
theorem i14_174 : ts_ins 14 174 = some (.iload_n 3, 175, 0) := by decide +kernel
theorem i14_175 : ts_ins 14 175 = some (.iload 4, 177, 0) := by decide +kernel
theorem i14_177 : ts_ins 14 177 = some (.invokevirtual 39, 180, 0) := by decide +kernel
theorem g14_177 : ts_cal (ts_mc 14) 39 = some (0, 13, 4) := by decide +kernel
theorem i14_180 : ts_ins 14 180 = some (.iconst 3, 181, 0) := by decide +kernel
theorem i14_181 : ts_ins 14 181 = some (.iadd, 182, 0) := by decide +kernel
theorem i14_182 : ts_ins 14 182 = some (.ireturn, 183, 0) := by decide +kernel
theorem i14_183 : ts_ins 14 183 = some (.aload_n 0, 184, 0) := by decide +kernel
theorem i14_184 : ts_ins 14 184 = some (.iload_n 2, 185, 0) := by decide +kernel
theorem i14_185 : ts_ins 14 185 = some (.iconst 1, 186, 0) := by decide +kernel
theorem i14_186 : ts_ins 14 186 = some (.iload_n 3, 187, 0) := by decide +kernel
theorem i14_187 : ts_ins 14 187 = some (.iload 4, 189, 0) := by decide +kernel
theorem i14_189 : ts_ins 14 189 = some (.invokevirtual 39, 192, 0) := by decide +kernel
theorem g14_189 : ts_cal (ts_mc 14) 39 = some (0, 13, 4) := by decide +kernel
theorem i14_192 : ts_ins 14 192 = some (.ineg, 193, 0) := by decide +kernel
theorem i14_193 : ts_ins 14 193 = some (.ireturn, 194, 0) := by decide +kernel
theorem i14_194 : ts_ins 14 194 = some (.aload_n 0, 195, 0) := by decide +kernel
theorem i14_195 : ts_ins 14 195 = some (.iload_n 2, 196, 0) := by decide +kernel
theorem i14_196 : ts_ins 14 196 = some (.iconst 2, 197, 0) := by decide +kernel
theorem i14_197 : ts_ins 14 197 = some (.iload_n 3, 198, 0) := by decide +kernel
theorem i14_198 : ts_ins 14 198 = some (.iload 4, 200, 0) := by decide +kernel
theorem i14_200 : ts_ins 14 200 = some (.invokevirtual 39, 203, 0) := by decide +kernel
theorem g14_200 : ts_cal (ts_mc 14) 39 = some (0, 13, 4) := by decide +kernel
theorem i14_203 : ts_ins 14 203 = some (.iconst 3, 204, 0) := by decide +kernel
theorem i14_204 : ts_ins 14 204 = some (.imul, 205, 0) := by decide +kernel
theorem i14_205 : ts_ins 14 205 = some (.ireturn, 206, 0) := by decide +kernel
theorem i14_206 : ts_ins 14 206 = some (.aload_n 0, 207, 0) := by decide +kernel
theorem i14_207 : ts_ins 14 207 = some (.iload_n 2, 208, 0) := by decide +kernel
theorem i14_208 : ts_ins 14 208 = some (.iconst 1, 209, 0) := by decide +kernel
theorem i14_209 : ts_ins 14 209 = some (.iload_n 3, 210, 0) := by decide +kernel
theorem i14_210 : ts_ins 14 210 = some (.iconst 1, 211, 0) := by decide +kernel
theorem i14_211 : ts_ins 14 211 = some (.iadd, 212, 0) := by decide +kernel
theorem i14_212 : ts_ins 14 212 = some (.iload 4, 214, 0) := by decide +kernel
theorem i14_214 : ts_ins 14 214 = some (.invokevirtual 39, 217, 0) := by decide +kernel
theorem g14_214 : ts_cal (ts_mc 14) 39 = some (0, 13, 4) := by decide +kernel
theorem i14_217 : ts_ins 14 217 = some (.ireturn, 218, 0) := by decide +kernel
theorem i14_218 : ts_ins 14 218 = some (.aload_n 0, 219, 0) := by decide +kernel
theorem i14_219 : ts_ins 14 219 = some (.iload_n 2, 220, 0) := by decide +kernel
theorem i14_220 : ts_ins 14 220 = some (.iconst 2, 221, 0) := by decide +kernel
theorem i14_221 : ts_ins 14 221 = some (.iload_n 3, 222, 0) := by decide +kernel
theorem i14_222 : ts_ins 14 222 = some (.iload 4, 224, 0) := by decide +kernel
theorem i14_224 : ts_ins 14 224 = some (.invokevirtual 39, 227, 0) := by decide +kernel
theorem g14_224 : ts_cal (ts_mc 14) 39 = some (0, 13, 4) := by decide +kernel
theorem i14_227 : ts_ins 14 227 = some (.aload_n 0, 228, 0) := by decide +kernel
theorem i14_228 : ts_ins 14 228 = some (.iconst 0, 229, 0) := by decide +kernel
theorem i14_229 : ts_ins 14 229 = some (.iconst 2, 230, 0) := by decide +kernel
theorem i14_230 : ts_ins 14 230 = some (.iload 4, 232, 0) := by decide +kernel
theorem i14_232 : ts_ins 14 232 = some (.invokevirtual 31, 235, 0) := by decide +kernel
theorem g14_232 : ts_cal (ts_mc 14) 31 = some (0, 12, 3) := by decide +kernel
theorem i14_235 : ts_ins 14 235 = some (.isub, 236, 0) := by decide +kernel
theorem i14_236 : ts_ins 14 236 = some (.ireturn, 237, 0) := by decide +kernel
theorem i14_237 : ts_ins 14 237 = some (.aload_n 0, 238, 0) := by decide +kernel
theorem i14_238 : ts_ins 14 238 = some (.iload_n 2, 239, 0) := by decide +kernel
theorem i14_239 : ts_ins 14 239 = some (.iconst 3, 240, 0) := by decide +kernel
theorem i14_240 : ts_ins 14 240 = some (.iload_n 3, 241, 0) := by decide +kernel
theorem i14_241 : ts_ins 14 241 = some (.iload 4, 243, 0) := by decide +kernel
theorem i14_243 : ts_ins 14 243 = some (.invokevirtual 39, 246, 0) := by decide +kernel
theorem g14_243 : ts_cal (ts_mc 14) 39 = some (0, 13, 4) := by decide +kernel
theorem i14_246 : ts_ins 14 246 = some (.iconst 5, 247, 0) := by decide +kernel
theorem i14_247 : ts_ins 14 247 = some (.ixor, 248, 0) := by decide +kernel
theorem i14_248 : ts_ins 14 248 = some (.ireturn, 249, 0) := by decide +kernel
theorem i14_249 : ts_ins 14 249 = some (.aload_n 0, 250, 0) := by decide +kernel
theorem i14_250 : ts_ins 14 250 = some (.iload_n 2, 251, 0) := by decide +kernel
theorem i14_251 : ts_ins 14 251 = some (.iconst 0, 252, 0) := by decide +kernel
theorem i14_252 : ts_ins 14 252 = some (.iload_n 3, 253, 0) := by decide +kernel
theorem i14_253 : ts_ins 14 253 = some (.iload 4, 255, 0) := by decide +kernel
theorem i14_255 : ts_ins 14 255 = some (.invokevirtual 39, 258, 0) := by decide +kernel
theorem g14_255 : ts_cal (ts_mc 14) 39 = some (0, 13, 4) := by decide +kernel
theorem i14_258 : ts_ins 14 258 = some (.iconst 2, 259, 0) := by decide +kernel
theorem i14_259 : ts_ins 14 259 = some (.imul, 260, 0) := by decide +kernel
theorem i14_260 : ts_ins 14 260 = some (.ireturn, 261, 0) := by decide +kernel
theorem i14_261 : ts_ins 14 261 = some (.aload_n 0, 262, 0) := by decide +kernel
theorem i14_262 : ts_ins 14 262 = some (.iload_n 2, 263, 0) := by decide +kernel
theorem i14_263 : ts_ins 14 263 = some (.iconst 1, 264, 0) := by decide +kernel
theorem i14_264 : ts_ins 14 264 = some (.iload_n 3, 265, 0) := by decide +kernel
theorem i14_265 : ts_ins 14 265 = some (.iload 4, 267, 0) := by decide +kernel
theorem i14_267 : ts_ins 14 267 = some (.invokevirtual 39, 270, 0) := by decide +kernel
theorem g14_267 : ts_cal (ts_mc 14) 39 = some (0, 13, 4) := by decide +kernel
theorem i14_270 : ts_ins 14 270 = some (.aload_n 0, 271, 0) := by decide +kernel
theorem i14_271 : ts_ins 14 271 = some (.iconst 2, 272, 0) := by decide +kernel
theorem i14_272 : ts_ins 14 272 = some (.iconst 2, 273, 0) := by decide +kernel
theorem i14_273 : ts_ins 14 273 = some (.iload 4, 275, 0) := by decide +kernel
theorem i14_275 : ts_ins 14 275 = some (.invokevirtual 31, 278, 0) := by decide +kernel
theorem g14_275 : ts_cal (ts_mc 14) 31 = some (0, 12, 3) := by decide +kernel
theorem i14_278 : ts_ins 14 278 = some (.iadd, 279, 0) := by decide +kernel
theorem i14_279 : ts_ins 14 279 = some (.ireturn, 280, 0) := by decide +kernel
theorem i14_280 : ts_ins 14 280 = some (.aload_n 0, 281, 0) := by decide +kernel
theorem i14_281 : ts_ins 14 281 = some (.iload_n 2, 282, 0) := by decide +kernel
theorem i14_282 : ts_ins 14 282 = some (.iconst 3, 283, 0) := by decide +kernel
theorem i14_283 : ts_ins 14 283 = some (.iload_n 3, 284, 0) := by decide +kernel
theorem i14_284 : ts_ins 14 284 = some (.iload 4, 286, 0) := by decide +kernel
theorem i14_286 : ts_ins 14 286 = some (.invokevirtual 39, 289, 0) := by decide +kernel
theorem g14_286 : ts_cal (ts_mc 14) 39 = some (0, 13, 4) := by decide +kernel
theorem i14_289 : ts_ins 14 289 = some (.iconst 1, 290, 0) := by decide +kernel
theorem i14_290 : ts_ins 14 290 = some (.isub, 291, 0) := by decide +kernel
theorem i14_291 : ts_ins 14 291 = some (.ireturn, 292, 0) := by decide +kernel
theorem i14_292 : ts_ins 14 292 = some (.iconst 0, 293, 0) := by decide +kernel
theorem i14_293 : ts_ins 14 293 = some (.ireturn, 294, 0) := by decide +kernel
theorem r14 : ts_rt 14 = ((some .int), 0, 0) := by decide +kernel
theorem l14 : ts_ml 14 = 5 := by decide +kernel
theorem i12_0 : ts_ins 12 0 = some (.aload_n 0, 1, 0) := by decide +kernel
theorem i12_1 : ts_ins 12 1 = some (.aload_n 0, 2, 0) := by decide +kernel
theorem i12_2 : ts_ins 12 2 = some (.aload_n 0, 3, 0) := by decide +kernel
theorem i12_3 : ts_ins 12 3 = some (.getfield 25, 6, 0) := by decide +kernel
theorem g12_3 : ts_fm 12 25 = some (2, 4, 0) := by decide +kernel
theorem i12_6 : ts_ins 12 6 = some (.invokevirtual 35, 9, 0) := by decide +kernel
theorem g12_6 : ts_cal (ts_mc 12) 35 = some (0, 9, 1) := by decide +kernel
theorem i12_9 : ts_ins 12 9 = some (.iload_n 1, 10, 0) := by decide +kernel
theorem i12_10 : ts_ins 12 10 = some (.iload_n 2, 11, 0) := by decide +kernel
theorem i12_11 : ts_ins 12 11 = some (.iload_n 3, 12, 0) := by decide +kernel
theorem i12_12 : ts_ins 12 12 = some (.invokevirtual 39, 15, 0) := by decide +kernel
theorem g12_12 : ts_cal (ts_mc 12) 39 = some (0, 13, 4) := by decide +kernel
theorem i12_15 : ts_ins 12 15 = some (.ireturn, 16, 0) := by decide +kernel
theorem r12 : ts_rt 12 = ((some .int), 0, 0) := by decide +kernel
theorem l12 : ts_ml 12 = 4 := by decide +kernel
theorem i11_0 : ts_ins 11 0 = some (.aload_n 0, 1, 0) := by decide +kernel
theorem i11_1 : ts_ins 11 1 = some (.iconst 0, 2, 0) := by decide +kernel
theorem i11_2 : ts_ins 11 2 = some (.putfield 22, 5, 0) := by decide +kernel
theorem g11_2 : ts_fmm 11 22 = some (2, 3, 0, false) := by decide +kernel
theorem i11_5 : ts_ins 11 5 = some (.iload_n 1, 6, 0) := by decide +kernel
theorem i11_6 : ts_ins 11 6 = some (.ifCond .lt 20, 9, 26) := by decide +kernel
theorem i11_9 : ts_ins 11 9 = some (.iload_n 1, 10, 0) := by decide +kernel
theorem i11_10 : ts_ins 11 10 = some (.aload_n 0, 11, 0) := by decide +kernel
theorem i11_11 : ts_ins 11 11 = some (.getfield 18, 14, 0) := by decide +kernel
theorem g11_11 : ts_fm 11 18 = some (2, 2, 0) := by decide +kernel
theorem i11_14 : ts_ins 11 14 = some (.if_icmp .ge 12, 17, 26) := by decide +kernel
theorem i11_17 : ts_ins 11 17 = some (.iload_n 2, 18, 0) := by decide +kernel
theorem i11_18 : ts_ins 11 18 = some (.ifCond .lt 8, 21, 26) := by decide +kernel
theorem i11_21 : ts_ins 11 21 = some (.iload_n 2, 22, 0) := by decide +kernel
theorem i11_22 : ts_ins 11 22 = some (.iconst 4, 23, 0) := by decide +kernel
theorem i11_23 : ts_ins 11 23 = some (.if_icmp .lt 5, 26, 28) := by decide +kernel
theorem i11_26 : ts_ins 11 26 = some (.iconst 0, 27, 0) := by decide +kernel
theorem i11_27 : ts_ins 11 27 = some (.ireturn, 28, 0) := by decide +kernel
theorem i11_28 : ts_ins 11 28 = some (.aload_n 0, 29, 0) := by decide +kernel
theorem i11_29 : ts_ins 11 29 = some (.iload_n 1, 30, 0) := by decide +kernel
theorem i11_30 : ts_ins 11 30 = some (.putfield 25, 33, 0) := by decide +kernel
theorem g11_30 : ts_fmm 11 25 = some (2, 4, 0, false) := by decide +kernel
theorem i11_33 : ts_ins 11 33 = some (.aload_n 0, 34, 0) := by decide +kernel
theorem i11_34 : ts_ins 11 34 = some (.iload_n 2, 35, 0) := by decide +kernel
theorem i11_35 : ts_ins 11 35 = some (.iload_n 3, 36, 0) := by decide +kernel
theorem i11_36 : ts_ins 11 36 = some (.iconst 0, 37, 0) := by decide +kernel
theorem i11_37 : ts_ins 11 37 = some (.invokevirtual 31, 40, 0) := by decide +kernel
theorem g11_37 : ts_cal (ts_mc 11) 31 = some (0, 12, 3) := by decide +kernel
theorem i11_40 : ts_ins 11 40 = some (.ireturn, 41, 0) := by decide +kernel
theorem r11 : ts_rt 11 = ((some .int), 0, 0) := by decide +kernel
theorem l11 : ts_ml 11 = 4 := by decide +kernel
theorem i128_0 : ts_ins 128 0 = some (.aload_n 0, 1, 0) := by decide +kernel
theorem i128_1 : ts_ins 128 1 = some (.getfield 81, 4, 0) := by decide +kernel
theorem g128_1 : ts_fm 128 81 = some (11, 11, 2) := by decide +kernel
theorem i128_4 : ts_ins 128 4 = some (.iload_n 1, 5, 0) := by decide +kernel
theorem i128_5 : ts_ins 128 5 = some (.iload_n 2, 6, 0) := by decide +kernel
theorem i128_6 : ts_ins 128 6 = some (.iload_n 3, 7, 0) := by decide +kernel
theorem i128_7 : ts_ins 128 7 = some (.invokevirtual 348, 10, 0) := by decide +kernel
theorem g128_7 : ts_cal (ts_mc 128) 348 = some (0, 11, 3) := by decide +kernel
theorem i128_10 : ts_ins 128 10 = some (.ireturn, 11, 0) := by decide +kernel
theorem r128 : ts_rt 128 = ((some .int), 0, 0) := by decide +kernel
theorem l128 : ts_ml 128 = 4 := by decide +kernel
theorem i226_0 : ts_ins 226 0 = some (.aload_n 0, 1, 0) := by decide +kernel
theorem i226_1 : ts_ins 226 1 = some (.iconst 0, 2, 0) := by decide +kernel
theorem i226_2 : ts_ins 226 2 = some (.putfield 297, 5, 0) := by decide +kernel
theorem g226_2 : ts_fmm 226 297 = some (12, 35, 0, false) := by decide +kernel
theorem i226_5 : ts_ins 226 5 = some (.aload_n 0, 6, 0) := by decide +kernel
theorem i226_6 : ts_ins 226 6 = some (.iload_n 1, 7, 0) := by decide +kernel
theorem i226_7 : ts_ins 226 7 = some (.invokevirtual 321, 10, 0) := by decide +kernel
theorem g226_7 : ts_cal (ts_mc 226) 321 = some (0, 217, 1) := by decide +kernel
theorem i226_10 : ts_ins 226 10 = some (.ifCond .ne 5, 13, 15) := by decide +kernel
theorem i226_13 : ts_ins 226 13 = some (.iconst 0, 14, 0) := by decide +kernel
theorem i226_14 : ts_ins 226 14 = some (.ireturn, 15, 0) := by decide +kernel
theorem i226_15 : ts_ins 226 15 = some (.aload_n 0, 16, 0) := by decide +kernel
theorem i226_16 : ts_ins 226 16 = some (.aload_n 0, 17, 0) := by decide +kernel
theorem i226_17 : ts_ins 226 17 = some (.getfield 64, 20, 0) := by decide +kernel
theorem g226_17 : ts_fm 226 64 = some (12, 33, 2) := by decide +kernel
theorem i226_20 : ts_ins 226 20 = some (.iload_n 1, 21, 0) := by decide +kernel
theorem i226_21 : ts_ins 226 21 = some (.iaload, 22, 0) := by decide +kernel
theorem i226_22 : ts_ins 226 22 = some (.putfield 312, 25, 0) := by decide +kernel
theorem g226_22 : ts_fmm 226 312 = some (12, 36, 0, false) := by decide +kernel
theorem i226_25 : ts_ins 226 25 = some (.aload_n 0, 26, 0) := by decide +kernel
theorem i226_26 : ts_ins 226 26 = some (.iload_n 1, 27, 0) := by decide +kernel
theorem i226_27 : ts_ins 226 27 = some (.putfield 306, 30, 0) := by decide +kernel
theorem g226_27 : ts_fmm 226 306 = some (12, 37, 0, false) := by decide +kernel
theorem i226_30 : ts_ins 226 30 = some (.iload_n 2, 31, 0) := by decide +kernel
theorem i226_31 : ts_ins 226 31 = some (.tableswitch 69 0 3 #[29, 39, 49, 59], 60, 0) := by decide +kernel
theorem i226_60 : ts_ins 226 60 = some (.aload_n 0, 61, 0) := by decide +kernel
theorem i226_61 : ts_ins 226 61 = some (.aload_n 0, 62, 0) := by decide +kernel
theorem i226_62 : ts_ins 226 62 = some (.getfield 312, 65, 0) := by decide +kernel
theorem g226_62 : ts_fm 226 312 = some (12, 36, 0) := by decide +kernel
theorem i226_65 : ts_ins 226 65 = some (.iload_n 3, 66, 0) := by decide +kernel
theorem i226_66 : ts_ins 226 66 = some (.invokevirtual 303, 69, 0) := by decide +kernel
theorem g226_66 : ts_cal (ts_mc 226) 303 = some (0, 222, 2) := by decide +kernel
theorem i226_69 : ts_ins 226 69 = some (.ireturn, 70, 0) := by decide +kernel
theorem i226_70 : ts_ins 226 70 = some (.aload_n 0, 71, 0) := by decide +kernel
theorem i226_71 : ts_ins 226 71 = some (.aload_n 0, 72, 0) := by decide +kernel
theorem i226_72 : ts_ins 226 72 = some (.getfield 312, 75, 0) := by decide +kernel
theorem g226_72 : ts_fm 226 312 = some (12, 36, 0) := by decide +kernel
theorem i226_75 : ts_ins 226 75 = some (.iload_n 3, 76, 0) := by decide +kernel
theorem i226_76 : ts_ins 226 76 = some (.invokevirtual 309, 79, 0) := by decide +kernel
theorem g226_76 : ts_cal (ts_mc 226) 309 = some (0, 223, 2) := by decide +kernel
theorem i226_79 : ts_ins 226 79 = some (.ireturn, 80, 0) := by decide +kernel
theorem i226_80 : ts_ins 226 80 = some (.aload_n 0, 81, 0) := by decide +kernel
theorem i226_81 : ts_ins 226 81 = some (.aload_n 0, 82, 0) := by decide +kernel
theorem i226_82 : ts_ins 226 82 = some (.getfield 312, 85, 0) := by decide +kernel
theorem g226_82 : ts_fm 226 312 = some (12, 36, 0) := by decide +kernel
theorem i226_85 : ts_ins 226 85 = some (.iload_n 3, 86, 0) := by decide +kernel
theorem i226_86 : ts_ins 226 86 = some (.invokevirtual 315, 89, 0) := by decide +kernel
theorem g226_86 : ts_cal (ts_mc 226) 315 = some (0, 224, 2) := by decide +kernel
theorem i226_89 : ts_ins 226 89 = some (.ireturn, 90, 0) := by decide +kernel
theorem i226_90 : ts_ins 226 90 = some (.aload_n 0, 91, 0) := by decide +kernel
theorem i226_91 : ts_ins 226 91 = some (.aload_n 0, 92, 0) := by decide +kernel
theorem i226_92 : ts_ins 226 92 = some (.getfield 312, 95, 0) := by decide +kernel
theorem g226_92 : ts_fm 226 312 = some (12, 36, 0) := by decide +kernel
theorem i226_95 : ts_ins 226 95 = some (.iload_n 3, 96, 0) := by decide +kernel
theorem i226_96 : ts_ins 226 96 = some (.invokevirtual 318, 99, 0) := by decide +kernel
theorem g226_96 : ts_cal (ts_mc 226) 318 = some (0, 225, 2) := by decide +kernel
theorem i226_99 : ts_ins 226 99 = some (.ireturn, 100, 0) := by decide +kernel
theorem i226_100 : ts_ins 226 100 = some (.iconst 0, 101, 0) := by decide +kernel
theorem i226_101 : ts_ins 226 101 = some (.ireturn, 102, 0) := by decide +kernel
theorem r226 : ts_rt 226 = ((some .int), 0, 0) := by decide +kernel
theorem l226 : ts_ml 226 = 4 := by decide +kernel
/-! ACTS of the class -/
section AX
variable {X : ts_X} {I J : Nat → Nat → Int32} {L : Nat → Nat → Int64} {sw : Bool} {K : Option Value → ts_H → Prop} {d : Nat} {s : ts_Tr} {n k0 : Int}
theorem x_fromAt {k act x dp a i fnd ab : Int} {o : Value} (ha : 0 ≤ act ∧ act ≤ 3) (hk : 0 ≤ a ∧ a < 8) (hi : 0 ≤ i ∧ i < 8) (hf : bod act a = fnd ∧ ¬ fnd = 0 ∧ k_above a = ab) (hR : ∀ K' : Option Value → ts_H → Prop, (∀ v M, K (some (.int v)) (M, L, ts_P0 sw, ts_S0) → K' (some (.int v)) (M, L, ts_P0 sw, ts_S0)) → ts_Cal X d 14 [.ref 56, .int (zI (fnd)), .int (zI (ab)), .int (zI (x)), .int (zI (dp + 1))] (I, L, ts_P0 sw, ts_S0) K') (hend : ∀ v M, K (some (.int v)) (M, L, ts_P0 sw, ts_S0) → ts_Ev X (ts_Cal X d) 13 ts_S0 K 60 [.ref 56, .int (zI (k)), .int (zI (act)), .int (zI (x)), .int (zI (dp)), .int (zI (a)), .int (zI (i)), .int (zI (fnd))] [.int v] (M, L, ts_P0 sw, ts_S0)) : ts_Ev X (ts_Cal X (d + 0)) 13 ts_S0 K 6 [.ref 56, .int (zI (k)), .int (zI (act)), .int (zI (x)), .int (zI (dp)), .int (zI (a)), .int (zI (i)), o] [] (I, L, ts_P0 sw, ts_S0) := by
  obtain ⟨f1, f2, rfl⟩ := hf
  refine ev_iload_6 i13_6 ?_
  refine ew_bipush i13_8 (by decide) ?_
  refine ew_icmpge i13_10 (by omega) (fun c10 => ?_) (fun c10 => ?_)
  · exfalso; omega
  · refine ev_iload_5 i13_13 ?_
    refine ew_iflt i13_15 (by omega) (fun c15 => ?_) (fun c15 => ?_)
    · exfalso; omega
    · refine ev_iload_5 i13_18 ?_
      refine ew_bipush i13_20 (by decide) ?_
      refine ew_icmpge i13_22 (by omega) (fun c22 => ?_) (fun c22 => ?_)
      · exfalso; omega
      · refine ev_gets i13_25 g13_25 ?_
        refine ev_iloadn_2 i13_28 ?_
        refine ew_bipush i13_29 (by decide) ?_
        refine ew_imul i13_31 ?_
        refine ev_iload_5 i13_32 ?_
        refine ew_iadd i13_34 ?_
        refine ew_iaload i13_35 rfl (by omega) (by show _ < (32 : Int); omega) (by omega) ((bod_rd ha hk)) (fun b35 => ?_)
        rw [f1]
        refine ev_istore_7 i13_36 rfl ?_
        refine ev_iload_7 i13_38 ?_
        first
        | refine ew_ifeqB i13_40 (fun c40 => ?_) (fun c40 => ?_)
        | refine ew_ifeq i13_40 (by omega) (fun c40 => ?_) (fun c40 => ?_)
        · exact absurd c40 f2
        · refine ev_aloadn_0 i13_43 ?_
          refine ev_iload_7 i13_44 ?_
          refine ev_gets i13_46 g13_46 ?_
          refine ev_iload_5 i13_49 ?_
          refine ew_iaload i13_51 rfl (by omega) (by show _ < (8 : Int); omega) (by omega) ((above_rd (by omega) (by omega))) (fun b51 => ?_)
          refine ev_iloadn_3 i13_52 ?_
          refine ev_iload_4 i13_53 ?_
          refine ew_iconst i13_55 ?_
          refine ew_iadd i13_56 ?_
          refine ev_virt4 i13_57 g13_57 rfl (by decide +kernel) (Nat.le_of_ble_eq_true rfl) (hR _ (fun v M q => ?_))
          exact hend v M q
theorem x_fromEnd {k act x dp a i fnd : Int} {v : Int32} {M : Nat → Nat → Int32} (q : K (some (.int v)) (M, L, ts_P0 sw, ts_S0)) : ts_Ev X (ts_Cal X d) 13 ts_S0 K 60 [.ref 56, .int (zI (k)), .int (zI (act)), .int (zI (x)), .int (zI (dp)), .int (zI (a)), .int (zI (i)), .int (zI (fnd))] [.int v] (M, L, ts_P0 sw, ts_S0) := by
  refine ev_ireturn i13_60 r13 ?_
  exact q
theorem x_fromUp {k act x dp a i ab : Int} {o : Value} (ha : 0 ≤ act ∧ act ≤ 3) (hk : 0 ≤ a ∧ a < 8) (hi : 0 ≤ i ∧ i < 8) (hf : bod act a = 0 ∧ k_above a = ab) (hn : ∀ o, ts_Ev X (ts_Cal X (d + 0)) 13 ts_S0 K 6 [.ref 56, .int (zI (k)), .int (zI (act)), .int (zI (x)), .int (zI (dp)), .int (zI (ab)), .int (zI (i + 1)), o] [] (I, L, ts_P0 sw, ts_S0)) : ts_Ev X (ts_Cal X (d + 0)) 13 ts_S0 K 6 [.ref 56, .int (zI (k)), .int (zI (act)), .int (zI (x)), .int (zI (dp)), .int (zI (a)), .int (zI (i)), o] [] (I, L, ts_P0 sw, ts_S0) := by
  obtain ⟨f1, rfl⟩ := hf
  refine ev_iload_6 i13_6 ?_
  refine ew_bipush i13_8 (by decide) ?_
  refine ew_icmpge i13_10 (by omega) (fun c10 => ?_) (fun c10 => ?_)
  · exfalso; omega
  · refine ev_iload_5 i13_13 ?_
    refine ew_iflt i13_15 (by omega) (fun c15 => ?_) (fun c15 => ?_)
    · exfalso; omega
    · refine ev_iload_5 i13_18 ?_
      refine ew_bipush i13_20 (by decide) ?_
      refine ew_icmpge i13_22 (by omega) (fun c22 => ?_) (fun c22 => ?_)
      · exfalso; omega
      · refine ev_gets i13_25 g13_25 ?_
        refine ev_iloadn_2 i13_28 ?_
        refine ew_bipush i13_29 (by decide) ?_
        refine ew_imul i13_31 ?_
        refine ev_iload_5 i13_32 ?_
        refine ew_iadd i13_34 ?_
        refine ew_iaload i13_35 rfl (by omega) (by show _ < (32 : Int); omega) (by omega) ((bod_rd ha hk)) (fun b35 => ?_)
        rw [f1]
        refine ev_istore_7 i13_36 rfl ?_
        refine ev_iload_7 i13_38 ?_
        first
        | refine ew_ifeqB i13_40 (fun c40 => ?_) (fun c40 => ?_)
        | refine ew_ifeq i13_40 (by omega) (fun c40 => ?_) (fun c40 => ?_)
        · refine ev_gets i13_61 g13_61 ?_
          refine ev_iload_5 i13_64 ?_
          refine ew_iaload i13_66 rfl (by omega) (by show _ < (8 : Int); omega) (by omega) ((above_rd (by omega) (by omega))) (fun b66 => ?_)
          refine ev_istore_5 i13_67 rfl ?_
          refine ew_iinc_6 i13_69 rfl ?_
          refine ev_goto i13_72 ?_
          exact hn _
        · exact absurd rfl c40
theorem x_fromIn {k act x dp : Int} (h : ts_Ev X (ts_Cal X (d + 0)) 13 ts_S0 K 6 [.ref 56, .int (zI (k)), .int (zI (act)), .int (zI (x)), .int (zI (dp)), .int (zI (k)), .int (zI (0)), .null] [] (I, L, ts_P0 sw, ts_S0)) : ts_Cal X (d + 1) 13 [.ref 56, .int (zI (k)), .int (zI (act)), .int (zI (x)), .int (zI (dp))] (I, L, ts_P0 sw, ts_S0) K := by
  refine ev_enter (lv := [.ref 56, .int (zI (k)), .int (zI (act)), .int (zI (x)), .int (zI (dp)), .null, .null, .null]) l13 rfl (Nat.le_of_ble_eq_true rfl) ?_
  refine ev_iloadn_1 i13_0 ?_
  refine ev_istore_5 i13_1 rfl ?_
  refine ew_iconst i13_3 ?_
  refine ev_istore_6 i13_4 rfl ?_
  exact h
theorem x_run1 (hA : RA I s) (hB : HA I n k0) (hs : s.1 ≤ 199) {x dp : Int} (hd : 0 ≤ dp ∧ dp ≤ 40) {ab : Int} (hK : ∀ J, fr fra I J → RA J (tp 1 s) → K (some (.int (zI (x + n)))) (J, L, ts_P0 sw, ts_S0)) : ts_Cal X (d + 2) 14 [.ref 56, .int (zI (1)), .int (zI (ab)), .int (zI (x)), .int (zI (dp))] (I, L, ts_P0 sw, ts_S0) K := by
  refine ev_enter (lv := [.ref 56, .int (zI (1)), .int (zI (ab)), .int (zI (x)), .int (zI (dp))]) l14 rfl (Nat.le_of_ble_eq_true rfl) ?_
  refine ev_iload_4 i14_0 ?_
  refine ew_bipush i14_2 (by decide) ?_
  refine ew_icmple i14_4 (by omega) (fun c4 => ?_) (fun c4 => ?_)
  · refine ev_aloadn_0 i14_9 ?_
    refine ev_iloadn_1 i14_10 ?_
    refine ev_virt1 i14_11 g14_11 rfl (by decide +kernel) (Nat.le_of_ble_eq_true rfl) (x_note hA (by decide) (by omega) (fun J h1 h2 => ?_))
    refine ev_iloadn_1 i14_14 ?_
    refine ew_sw (v := 1) i14_15 rfl (t := 128) (by decide) rfl ?_
    refine ev_iloadn_3 i14_128 ?_
    refine ev_aloadn_0 i14_129 ?_
    refine ew_getI i14_130 g14_130 rfl (((hB.co h1).1)) (fun b130 => ?_)
    refine ew_iadd i14_133 ?_
    refine ev_ireturn i14_134 r14 ?_
    exact hK J h1 h2
  · exfalso; omega
theorem x_from0F (hA : RA I s) (hB : HA I n k0) (hs : s.1 ≤ 199) {x dp : Int} (hd : 0 ≤ dp ∧ dp ≤ 39) (hK : ∀ J, fr fra I J → RA J (tp 1 s) → K (some (.int (zI (x + n)))) (J, L, ts_P0 sw, ts_S0)) : ts_Cal X (d + 3) 13 [.ref 56, .int (zI (0)), .int (zI (0)), .int (zI (x)), .int (zI (dp))] (I, L, ts_P0 sw, ts_S0) K :=
  x_fromIn (x_fromAt (a := 0) (fnd := 1) (ab := -1) (by decide) (by decide) (by decide) (by decide) (fun K2 hk => x_run1 hA hB hs (by omega) (fun J h1 h2 => hk _ _ (hK J h1 h2))) (fun v M q => x_fromEnd q))
theorem x_run20 (hA : RA I s) (hB : HA I n k0) (hs : s.1 ≤ 190) {x dp : Int} (hd : 0 ≤ dp ∧ dp ≤ 38) (hK : ∀ J, fr fra I J → RA J (tp 1 (tp 20 s)) → K (some (.int (zI (x + n + 3)))) (J, L, ts_P0 sw, ts_S0)) : ts_Cal X (d + 4) 14 [.ref 56, .int (zI (20)), .int (zI (0)), .int (zI (x)), .int (zI (dp))] (I, L, ts_P0 sw, ts_S0) K := by
  refine ev_enter (lv := [.ref 56, .int (zI (20)), .int (zI (0)), .int (zI (x)), .int (zI (dp))]) l14 rfl (Nat.le_of_ble_eq_true rfl) ?_
  refine ev_iload_4 i14_0 ?_
  refine ew_bipush i14_2 (by decide) ?_
  refine ew_icmple i14_4 (by omega) (fun c4 => ?_) (fun c4 => ?_)
  · refine ev_aloadn_0 i14_9 ?_
    refine ev_iloadn_1 i14_10 ?_
    refine ev_virt1 i14_11 g14_11 rfl (by decide +kernel) (Nat.le_of_ble_eq_true rfl) (x_note hA (by decide) (by omega) (fun J h1 h2 => ?_))
    refine ev_iloadn_1 i14_14 ?_
    refine ew_sw (v := 20) i14_15 rfl (t := 171) (by decide) rfl ?_
    refine ev_aloadn_0 i14_171 ?_
    refine ev_iloadn_2 i14_172 ?_
    refine ew_iconst i14_173 ?_
    refine ev_iloadn_3 i14_174 ?_
    refine ev_iload_4 i14_175 ?_
    refine ev_virt4 i14_177 g14_177 rfl (by decide +kernel) (Nat.le_of_ble_eq_true rfl) (x_from0F h2 (hB.co h1) (by simp only [tp]; omega) (by omega) (fun M h3 h4 => ?_))
    refine ew_iconst i14_180 ?_
    refine ew_iadd i14_181 ?_
    refine ev_ireturn i14_182 r14 ?_
    exact hK M (fr_tr h1 h3) h4
  · exfalso; omega
theorem x_run70 (hA : RA I s) (hB : HA I n k0) (hs : s.1 ≤ 190) {x dp : Int} (hd : 0 ≤ dp ∧ dp ≤ 38) (hK : ∀ J, fr fra I J → RA J (tp 1 (tp 70 s)) → K (some (.int (zI ((x + n) * 2)))) (J, L, ts_P0 sw, ts_S0)) : ts_Cal X (d + 4) 14 [.ref 56, .int (zI (70)), .int (zI (0)), .int (zI (x)), .int (zI (dp))] (I, L, ts_P0 sw, ts_S0) K := by
  refine ev_enter (lv := [.ref 56, .int (zI (70)), .int (zI (0)), .int (zI (x)), .int (zI (dp))]) l14 rfl (Nat.le_of_ble_eq_true rfl) ?_
  refine ev_iload_4 i14_0 ?_
  refine ew_bipush i14_2 (by decide) ?_
  refine ew_icmple i14_4 (by omega) (fun c4 => ?_) (fun c4 => ?_)
  · refine ev_aloadn_0 i14_9 ?_
    refine ev_iloadn_1 i14_10 ?_
    refine ev_virt1 i14_11 g14_11 rfl (by decide +kernel) (Nat.le_of_ble_eq_true rfl) (x_note hA (by decide) (by omega) (fun J h1 h2 => ?_))
    refine ev_iloadn_1 i14_14 ?_
    refine ew_sw (v := 70) i14_15 rfl (t := 249) (by decide) rfl ?_
    refine ev_aloadn_0 i14_249 ?_
    refine ev_iloadn_2 i14_250 ?_
    refine ew_iconst i14_251 ?_
    refine ev_iloadn_3 i14_252 ?_
    refine ev_iload_4 i14_253 ?_
    refine ev_virt4 i14_255 g14_255 rfl (by decide +kernel) (Nat.le_of_ble_eq_true rfl) (x_from0F h2 (hB.co h1) (by simp only [tp]; omega) (by omega) (fun M h3 h4 => ?_))
    refine ew_iconst i14_258 ?_
    refine ew_imul i14_259 ?_
    refine ev_ireturn i14_260 r14 ?_
    exact hK M (fr_tr h1 h3) h4
  · exfalso; omega
theorem x_fromF (hA : RA I s) (hB : HA I n k0) (hs : s.1 ≤ 190) {k x dp : Int} (hk : 0 ≤ k ∧ k ≤ 7) (hd : 0 ≤ dp ∧ dp ≤ 35) (hK : ∀ J, fr fra I J → RA J (tF k s) → K (some (.int (zI (vF n k x)))) (J, L, ts_P0 sw, ts_S0)) : ts_Cal X (d + 5) 13 [.ref 56, .int (zI (k)), .int (zI (0)), .int (zI (x)), .int (zI (dp))] (I, L, ts_P0 sw, ts_S0) K := by
  rcases (show k = 0 ∨ k = 1 ∨ k = 2 ∨ k = 3 ∨ k = 4 ∨ k = 5 ∨ k = 6 ∨ k = 7 by omega) with rfl | rfl | rfl | rfl | rfl | rfl | rfl | rfl
  · exact x_fromIn (x_fromAt (a := 0) (fnd := 1) (ab := -1) (by decide) (by decide) (by decide) (by decide) (fun K2 hk => x_run1 hA hB (by omega) (by omega) (fun J h1 h2 => hk _ _ (hK J h1 h2))) (fun v M q => x_fromEnd q))
  · exact x_fromIn (x_fromAt (a := 1) (fnd := 20) (ab := 0) (by decide) (by decide) (by decide) (by decide) (fun K2 hk => x_run20 hA hB (by omega) (by omega) (fun J h1 h2 => hk _ _ (hK J h1 h2))) (fun v M q => x_fromEnd q))
  · exact x_fromIn (x_fromUp (a := 2) (ab := 0) (by decide) (by decide) (by decide) (by decide) (fun _ => x_fromAt (a := 0) (fnd := 1) (ab := -1) (by decide) (by decide) (by decide) (by decide) (fun K2 hk => x_run1 hA hB (by omega) (by omega) (fun J h1 h2 => hk _ _ (hK J h1 h2))) (fun v M q => x_fromEnd q)))
  · exact x_fromIn (x_fromUp (a := 3) (ab := 2) (by decide) (by decide) (by decide) (by decide) (fun _ => x_fromUp (a := 2) (ab := 0) (by decide) (by decide) (by decide) (by decide) (fun _ => x_fromAt (a := 0) (fnd := 1) (ab := -1) (by decide) (by decide) (by decide) (by decide) (fun K2 hk => x_run1 hA hB (by omega) (by omega) (fun J h1 h2 => hk _ _ (hK J h1 h2))) (fun v M q => x_fromEnd q))))
  · exact x_fromIn (x_fromUp (a := 4) (ab := 1) (by decide) (by decide) (by decide) (by decide) (fun _ => x_fromAt (a := 1) (fnd := 20) (ab := 0) (by decide) (by decide) (by decide) (by decide) (fun K2 hk => x_run20 hA hB (by omega) (by omega) (fun J h1 h2 => hk _ _ (hK J h1 h2))) (fun v M q => x_fromEnd q)))
  · exact x_fromIn (x_fromUp (a := 5) (ab := 3) (by decide) (by decide) (by decide) (by decide) (fun _ => x_fromUp (a := 3) (ab := 2) (by decide) (by decide) (by decide) (by decide) (fun _ => x_fromUp (a := 2) (ab := 0) (by decide) (by decide) (by decide) (by decide) (fun _ => x_fromAt (a := 0) (fnd := 1) (ab := -1) (by decide) (by decide) (by decide) (by decide) (fun K2 hk => x_run1 hA hB (by omega) (by omega) (fun J h1 h2 => hk _ _ (hK J h1 h2))) (fun v M q => x_fromEnd q)))))
  · exact x_fromIn (x_fromAt (a := 6) (fnd := 70) (ab := 0) (by decide) (by decide) (by decide) (by decide) (fun K2 hk => x_run70 hA hB (by omega) (by omega) (fun J h1 h2 => hk _ _ (hK J h1 h2))) (fun v M q => x_fromEnd q))
  · exact x_fromIn (x_fromUp (a := 7) (ab := 4) (by decide) (by decide) (by decide) (by decide) (fun _ => x_fromUp (a := 4) (ab := 1) (by decide) (by decide) (by decide) (by decide) (fun _ => x_fromAt (a := 1) (fnd := 20) (ab := 0) (by decide) (by decide) (by decide) (by decide) (fun K2 hk => x_run20 hA hB (by omega) (by omega) (fun J h1 h2 => hk _ _ (hK J h1 h2))) (fun v M q => x_fromEnd q))))
theorem x_kindOf' {nb : Int} {g : Int → Int} (h2 : rd (I 56 2) 0 50 nb) (h3 : ar I 57 50 0 7 g) {n : Int} (hn : 0 ≤ n ∧ n < nb) (hK : K (some (.int (zI (g n)))) (I, L, ts_P0 sw, ts_S0)) : ts_Cal X (d + 1) 9 [.ref 56, .int (zI (n))] (I, L, ts_P0 sw, ts_S0) K := by
  have b1 := h2.2
  refine ev_enter (lv := [.ref 56, .int (zI (n))]) l9 rfl (Nat.le_of_ble_eq_true rfl) ?_
  refine ev_iloadn_1 i9_0 ?_
  refine ew_iflt i9_1 (by omega) (fun c1 => ?_) (fun c1 => ?_)
  · refine ew_iconst i9_21 ?_
    refine ev_ireturn i9_22 r9 ?_
    first | exact hK | exact zK hK (by omega)
  · refine ev_iloadn_1 i9_4 ?_
    refine ev_aloadn_0 i9_5 ?_
    refine ew_getI i9_6 g9_6 rfl (by first | exact h2 | exact h3 _ (by omega) (by omega) | exact hX.men | exact hX.told | exact hX.road | exact hX.tone _ (by omega) (by omega) | exact hX.corn _ (by omega) (by omega) | exact hX.stand _ (by omega) (by omega) | exact hX.reach _ (by omega) (by omega) | exact hX.arm _ (by omega) (by omega) | exact hX.late _ (by omega) (by omega) | exact hX.len _ (by omega) (by omega) | exact hX.say (by omega) (by omega) _ (by omega) (by omega)) (fun b6 => ?_)
    refine ew_icmpge i9_9 (by omega) (fun c9 => ?_) (fun c9 => ?_)
    · refine ew_iconst i9_21 ?_
      refine ev_ireturn i9_22 r9 ?_
      first | exact hK | exact zK hK (by omega)
    · refine ev_aloadn_0 i9_12 ?_
      refine ev_getA i9_13 g9_13 rfl rfl (by decide) ?_
      refine ev_iloadn_1 i9_16 ?_
      refine ew_iaload i9_17 rfl (by omega) (by omega) (by omega) (by first | exact h2 | exact h3 _ (by omega) (by omega) | exact hX.men | exact hX.told | exact hX.road | exact hX.tone _ (by omega) (by omega) | exact hX.corn _ (by omega) (by omega) | exact hX.stand _ (by omega) (by omega) | exact hX.reach _ (by omega) (by omega) | exact hX.arm _ (by omega) (by omega) | exact hX.late _ (by omega) (by omega) | exact hX.len _ (by omega) (by omega) | exact hX.say (by omega) (by omega) _ (by omega) (by omega)) (fun b17 => ?_)
      refine ev_goto i9_18 ?_
      refine ev_ireturn i9_22 r9 ?_
      first | exact hK | exact zK hK (by omega)
theorem x_ownF (hA : RA I s) (hB : HA I n k0) (hs : s.1 ≤ 190) {x dp : Int} (hd : 0 ≤ dp ∧ dp ≤ 35) (h0 : 0 ≤ k0 ∧ k0 ≤ 7) (hK : ∀ J, fr fra I J → RA J (tF k0 s) → K (some (.int (zI (vF n k0 x)))) (J, L, ts_P0 sw, ts_S0)) : ts_Cal X (d + 6) 12 [.ref 56, .int (zI (0)), .int (zI (x)), .int (zI (dp))] (I, L, ts_P0 sw, ts_S0) K := by
  obtain ⟨q1, nb, g, q2, q3, q4, rfl⟩ := id hB
  have q5 := q1.2
  refine ev_enter (lv := [.ref 56, .int (zI (0)), .int (zI (x)), .int (zI (dp))]) l12 rfl (Nat.le_of_ble_eq_true rfl) ?_
  refine ev_aloadn_0 i12_0 ?_
  refine ev_aloadn_0 i12_1 ?_
  refine ev_aloadn_0 i12_2 ?_
  refine ew_getI i12_3 g12_3 rfl (by first | exact q1 | exact hX.men | exact hX.told | exact hX.road | exact hX.tone _ (by omega) (by omega) | exact hX.corn _ (by omega) (by omega) | exact hX.stand _ (by omega) (by omega) | exact hX.reach _ (by omega) (by omega) | exact hX.arm _ (by omega) (by omega) | exact hX.late _ (by omega) (by omega) | exact hX.len _ (by omega) (by omega) | exact hX.say (by omega) (by omega) _ (by omega) (by omega)) (fun b3 => ?_)
  refine ev_virt1 i12_6 g12_6 rfl (by decide +kernel) (Nat.le_of_ble_eq_true rfl) (x_kindOf' q2 q3 (by omega) ?_)
  refine ev_iloadn_1 i12_9 ?_
  refine ev_iloadn_2 i12_10 ?_
  refine ev_iloadn_3 i12_11 ?_
  refine ev_virt4 i12_12 g12_12 rfl (by decide +kernel) (Nat.le_of_ble_eq_true rfl) (x_fromF hA hB (by omega) (by omega) (by omega) (fun J h1 h2 => ?_))
  refine ev_ireturn i12_15 r12 ?_
  exact hK J h1 h2
theorem x_run11 (hA : RA I s) (hB : HA I n k0) (hs : s.1 ≤ 199) {x dp : Int} (hd : 0 ≤ dp ∧ dp ≤ 40) {ab : Int} (hK : ∀ J, fr fra I J → RA J (tp 11 s) → K (some (.int (zI (zxor x n)))) (J, L, ts_P0 sw, ts_S0)) : ts_Cal X (d + 2) 14 [.ref 56, .int (zI (11)), .int (zI (ab)), .int (zI (x)), .int (zI (dp))] (I, L, ts_P0 sw, ts_S0) K := by
  refine ev_enter (lv := [.ref 56, .int (zI (11)), .int (zI (ab)), .int (zI (x)), .int (zI (dp))]) l14 rfl (Nat.le_of_ble_eq_true rfl) ?_
  refine ev_iload_4 i14_0 ?_
  refine ew_bipush i14_2 (by decide) ?_
  refine ew_icmple i14_4 (by omega) (fun c4 => ?_) (fun c4 => ?_)
  · refine ev_aloadn_0 i14_9 ?_
    refine ev_iloadn_1 i14_10 ?_
    refine ev_virt1 i14_11 g14_11 rfl (by decide +kernel) (Nat.le_of_ble_eq_true rfl) (x_note hA (by decide) (by omega) (fun J h1 h2 => ?_))
    refine ev_iloadn_1 i14_14 ?_
    refine ew_sw (v := 11) i14_15 rfl (t := 164) (by decide) rfl ?_
    refine ev_iloadn_3 i14_164 ?_
    refine ev_aloadn_0 i14_165 ?_
    refine ew_getI i14_166 g14_166 rfl (((hB.co h1).1)) (fun b166 => ?_)
    refine ew_ixor i14_169 ?_
    refine ev_ireturn i14_170 r14 ?_
    exact hK J h1 h2
  · exfalso; omega
theorem x_fromW0 (hA : RA I s) (hB : HA I n k0) (hs : s.1 ≤ 199) {k x dp : Int} (hk : k = 1 ∨ k = 2) (hd : 0 ≤ dp ∧ dp ≤ 39) (hK : ∀ J, fr fra I J → RA J (tp 11 s) → K (some (.int (zI (zxor x n)))) (J, L, ts_P0 sw, ts_S0)) : ts_Cal X (d + 3) 13 [.ref 56, .int (zI (k)), .int (zI (2)), .int (zI (x)), .int (zI (dp))] (I, L, ts_P0 sw, ts_S0) K := by
  rcases hk with rfl | rfl
  · exact x_fromIn (x_fromUp (a := 1) (ab := 0) (by decide) (by decide) (by decide) (by decide) (fun _ => x_fromAt (a := 0) (fnd := 11) (ab := -1) (by decide) (by decide) (by decide) (by decide) (fun K2 hk => x_run11 hA hB (by omega) (by omega) (fun J h1 h2 => hk _ _ (hK J h1 h2))) (fun v M q => x_fromEnd q)))
  · exact x_fromIn (x_fromUp (a := 2) (ab := 0) (by decide) (by decide) (by decide) (by decide) (fun _ => x_fromAt (a := 0) (fnd := 11) (ab := -1) (by decide) (by decide) (by decide) (by decide) (fun K2 hk => x_run11 hA hB (by omega) (by omega) (fun J h1 h2 => hk _ _ (hK J h1 h2))) (fun v M q => x_fromEnd q)))
theorem x_run40 (hA : RA I s) (hB : HA I n k0) (hs : s.1 ≤ 190) {x dp : Int} (hd : 0 ≤ dp ∧ dp ≤ 38) (hK : ∀ J, fr fra I J → RA J (tp 11 (tp 40 s)) → K (some (.int (zI (zxor x n * 3)))) (J, L, ts_P0 sw, ts_S0)) : ts_Cal X (d + 4) 14 [.ref 56, .int (zI (40)), .int (zI (2)), .int (zI (x)), .int (zI (dp))] (I, L, ts_P0 sw, ts_S0) K := by
  refine ev_enter (lv := [.ref 56, .int (zI (40)), .int (zI (2)), .int (zI (x)), .int (zI (dp))]) l14 rfl (Nat.le_of_ble_eq_true rfl) ?_
  refine ev_iload_4 i14_0 ?_
  refine ew_bipush i14_2 (by decide) ?_
  refine ew_icmple i14_4 (by omega) (fun c4 => ?_) (fun c4 => ?_)
  · refine ev_aloadn_0 i14_9 ?_
    refine ev_iloadn_1 i14_10 ?_
    refine ev_virt1 i14_11 g14_11 rfl (by decide +kernel) (Nat.le_of_ble_eq_true rfl) (x_note hA (by decide) (by omega) (fun J h1 h2 => ?_))
    refine ev_iloadn_1 i14_14 ?_
    refine ew_sw (v := 40) i14_15 rfl (t := 194) (by decide) rfl ?_
    refine ev_aloadn_0 i14_194 ?_
    refine ev_iloadn_2 i14_195 ?_
    refine ew_iconst i14_196 ?_
    refine ev_iloadn_3 i14_197 ?_
    refine ev_iload_4 i14_198 ?_
    refine ev_virt4 i14_200 g14_200 rfl (by decide +kernel) (Nat.le_of_ble_eq_true rfl) (x_fromW0 h2 (hB.co h1) (by simp only [tp]; omega) (Or.inr rfl) (by omega) (fun M h3 h4 => ?_))
    refine ew_iconst i14_203 ?_
    refine ew_imul i14_204 ?_
    refine ev_ireturn i14_205 r14 ?_
    exact hK M (fr_tr h1 h3) h4
  · exfalso; omega
theorem x_run50 (hA : RA I s) (hB : HA I n k0) (hs : s.1 ≤ 185) {x dp : Int} (hd : 0 ≤ dp ∧ dp ≤ 34) (h0 : 0 ≤ k0 ∧ k0 ≤ 7) (hK : ∀ J, fr fra I J → RA J (tF k0 (tp 11 (tp 50 s))) → K (some (.int (zI (zxor x n - vF n k0 2)))) (J, L, ts_P0 sw, ts_S0)) : ts_Cal X (d + 7) 14 [.ref 56, .int (zI (50)), .int (zI (1)), .int (zI (x)), .int (zI (dp))] (I, L, ts_P0 sw, ts_S0) K := by
  refine ev_enter (lv := [.ref 56, .int (zI (50)), .int (zI (1)), .int (zI (x)), .int (zI (dp))]) l14 rfl (Nat.le_of_ble_eq_true rfl) ?_
  refine ev_iload_4 i14_0 ?_
  refine ew_bipush i14_2 (by decide) ?_
  refine ew_icmple i14_4 (by omega) (fun c4 => ?_) (fun c4 => ?_)
  · refine ev_aloadn_0 i14_9 ?_
    refine ev_iloadn_1 i14_10 ?_
    refine ev_virt1 i14_11 g14_11 rfl (by decide +kernel) (Nat.le_of_ble_eq_true rfl) (x_note hA (by decide) (by omega) (fun J h1 h2 => ?_))
    refine ev_iloadn_1 i14_14 ?_
    refine ew_sw (v := 50) i14_15 rfl (t := 218) (by decide) rfl ?_
    refine ev_aloadn_0 i14_218 ?_
    refine ev_iloadn_2 i14_219 ?_
    refine ew_iconst i14_220 ?_
    refine ev_iloadn_3 i14_221 ?_
    refine ev_iload_4 i14_222 ?_
    refine ev_virt4 i14_224 g14_224 rfl (by decide +kernel) (Nat.le_of_ble_eq_true rfl) (x_fromW0 h2 (hB.co h1) (by simp only [tp]; omega) (Or.inl rfl) (by omega) (fun M h3 h4 => ?_))
    refine ev_aloadn_0 i14_227 ?_
    refine ew_iconst i14_228 ?_
    refine ew_iconst i14_229 ?_
    refine ev_iload_4 i14_230 ?_
    refine ev_virt3 i14_232 g14_232 rfl (by decide +kernel) (Nat.le_of_ble_eq_true rfl) (x_ownF h4 ((hB.co h1).co h3) (by simp only [tp]; omega) (by omega) h0 (fun N h5 h6 => ?_))
    refine ew_isub i14_235 ?_
    refine ev_ireturn i14_236 r14 ?_
    exact hK N (fr_tr (fr_tr h1 h3) h5) h6
  · exfalso; omega
theorem x_fromW (hA : RA I s) (hB : HA I n k0) (hs : s.1 ≤ 180) {k x dp : Int} (hk : 0 ≤ k ∧ k ≤ 7) (hd : 0 ≤ dp ∧ dp ≤ 30) (h0 : 0 ≤ k0 ∧ k0 ≤ 7) (hK : ∀ J, fr fra I J → RA J (tW k0 k s) → K (some (.int (zI (vW n k0 k x)))) (J, L, ts_P0 sw, ts_S0)) : ts_Cal X (d + 8) 13 [.ref 56, .int (zI (k)), .int (zI (2)), .int (zI (x)), .int (zI (dp))] (I, L, ts_P0 sw, ts_S0) K := by
  rcases (show k = 0 ∨ k = 1 ∨ k = 2 ∨ k = 3 ∨ k = 4 ∨ k = 5 ∨ k = 6 ∨ k = 7 by omega) with rfl | rfl | rfl | rfl | rfl | rfl | rfl | rfl
  · exact x_fromIn (x_fromAt (a := 0) (fnd := 11) (ab := -1) (by decide) (by decide) (by decide) (by decide) (fun K2 hk => x_run11 hA hB (by omega) (by omega) (fun J h1 h2 => hk _ _ (hK J h1 h2))) (fun v M q => x_fromEnd q))
  · exact x_fromIn (x_fromUp (a := 1) (ab := 0) (by decide) (by decide) (by decide) (by decide) (fun _ => x_fromAt (a := 0) (fnd := 11) (ab := -1) (by decide) (by decide) (by decide) (by decide) (fun K2 hk => x_run11 hA hB (by omega) (by omega) (fun J h1 h2 => hk _ _ (hK J h1 h2))) (fun v M q => x_fromEnd q)))
  · exact x_fromIn (x_fromUp (a := 2) (ab := 0) (by decide) (by decide) (by decide) (by decide) (fun _ => x_fromAt (a := 0) (fnd := 11) (ab := -1) (by decide) (by decide) (by decide) (by decide) (fun K2 hk => x_run11 hA hB (by omega) (by omega) (fun J h1 h2 => hk _ _ (hK J h1 h2))) (fun v M q => x_fromEnd q)))
  · exact x_fromIn (x_fromAt (a := 3) (fnd := 40) (ab := 2) (by decide) (by decide) (by decide) (by decide) (fun K2 hk => x_run40 hA hB (by omega) (by omega) (fun J h1 h2 => hk _ _ (hK J h1 h2))) (fun v M q => x_fromEnd q))
  · exact x_fromIn (x_fromAt (a := 4) (fnd := 50) (ab := 1) (by decide) (by decide) (by decide) (by decide) (fun K2 hk => x_run50 hA hB (by omega) (by omega) h0 (fun J h1 h2 => hk _ _ (hK J h1 h2))) (fun v M q => x_fromEnd q))
  · exact x_fromIn (x_fromUp (a := 5) (ab := 3) (by decide) (by decide) (by decide) (by decide) (fun _ => x_fromAt (a := 3) (fnd := 40) (ab := 2) (by decide) (by decide) (by decide) (by decide) (fun K2 hk => x_run40 hA hB (by omega) (by omega) (fun J h1 h2 => hk _ _ (hK J h1 h2))) (fun v M q => x_fromEnd q)))
  · exact x_fromIn (x_fromUp (a := 6) (ab := 0) (by decide) (by decide) (by decide) (by decide) (fun _ => x_fromAt (a := 0) (fnd := 11) (ab := -1) (by decide) (by decide) (by decide) (by decide) (fun K2 hk => x_run11 hA hB (by omega) (by omega) (fun J h1 h2 => hk _ _ (hK J h1 h2))) (fun v M q => x_fromEnd q)))
  · exact x_fromIn (x_fromUp (a := 7) (ab := 4) (by decide) (by decide) (by decide) (by decide) (fun _ => x_fromAt (a := 4) (fnd := 50) (ab := 1) (by decide) (by decide) (by decide) (by decide) (fun K2 hk => x_run50 hA hB (by omega) (by omega) h0 (fun J h1 h2 => hk _ _ (hK J h1 h2))) (fun v M q => x_fromEnd q)))
theorem x_ownW (hA : RA I s) (hB : HA I n k0) (hs : s.1 ≤ 180) {x dp : Int} (hd : 0 ≤ dp ∧ dp ≤ 30) (h0 : 0 ≤ k0 ∧ k0 ≤ 7) (hK : ∀ J, fr fra I J → RA J (tW k0 k0 s) → K (some (.int (zI (vW n k0 k0 x)))) (J, L, ts_P0 sw, ts_S0)) : ts_Cal X (d + 9) 12 [.ref 56, .int (zI (2)), .int (zI (x)), .int (zI (dp))] (I, L, ts_P0 sw, ts_S0) K := by
  obtain ⟨q1, nb, g, q2, q3, q4, rfl⟩ := id hB
  have q5 := q1.2
  refine ev_enter (lv := [.ref 56, .int (zI (2)), .int (zI (x)), .int (zI (dp))]) l12 rfl (Nat.le_of_ble_eq_true rfl) ?_
  refine ev_aloadn_0 i12_0 ?_
  refine ev_aloadn_0 i12_1 ?_
  refine ev_aloadn_0 i12_2 ?_
  refine ew_getI i12_3 g12_3 rfl (by first | exact q1 | exact hX.men | exact hX.told | exact hX.road | exact hX.tone _ (by omega) (by omega) | exact hX.corn _ (by omega) (by omega) | exact hX.stand _ (by omega) (by omega) | exact hX.reach _ (by omega) (by omega) | exact hX.arm _ (by omega) (by omega) | exact hX.late _ (by omega) (by omega) | exact hX.len _ (by omega) (by omega) | exact hX.say (by omega) (by omega) _ (by omega) (by omega)) (fun b3 => ?_)
  refine ev_virt1 i12_6 g12_6 rfl (by decide +kernel) (Nat.le_of_ble_eq_true rfl) (x_kindOf' q2 q3 (by omega) ?_)
  refine ev_iloadn_1 i12_9 ?_
  refine ev_iloadn_2 i12_10 ?_
  refine ev_iloadn_3 i12_11 ?_
  refine ev_virt4 i12_12 g12_12 rfl (by decide +kernel) (Nat.le_of_ble_eq_true rfl) (x_fromW hA hB (by omega) (by omega) (by omega) h0 (fun J h1 h2 => ?_))
  refine ev_ireturn i12_15 r12 ?_
  exact hK J h1 h2
theorem x_run10 (hA : RA I s) (hB : HA I n k0) (hs : s.1 ≤ 180) {x dp : Int} (hd : 0 ≤ dp ∧ dp ≤ 34) {ab : Int} (h0 : 0 ≤ k0 ∧ k0 ≤ 7) (hK : ∀ J, fr fra I J → RA J (tF k0 (tp 10 s)) → K (some (.int (zI (vF n k0 x * 2)))) (J, L, ts_P0 sw, ts_S0)) : ts_Cal X (d + 7) 14 [.ref 56, .int (zI (10)), .int (zI (ab)), .int (zI (x)), .int (zI (dp))] (I, L, ts_P0 sw, ts_S0) K := by
  refine ev_enter (lv := [.ref 56, .int (zI (10)), .int (zI (ab)), .int (zI (x)), .int (zI (dp))]) l14 rfl (Nat.le_of_ble_eq_true rfl) ?_
  refine ev_iload_4 i14_0 ?_
  refine ew_bipush i14_2 (by decide) ?_
  refine ew_icmple i14_4 (by omega) (fun c4 => ?_) (fun c4 => ?_)
  · refine ev_aloadn_0 i14_9 ?_
    refine ev_iloadn_1 i14_10 ?_
    refine ev_virt1 i14_11 g14_11 rfl (by decide +kernel) (Nat.le_of_ble_eq_true rfl) (x_note hA (by decide) (by omega) (fun J h1 h2 => ?_))
    refine ev_iloadn_1 i14_14 ?_
    refine ew_sw (v := 10) i14_15 rfl (t := 153) (by decide) rfl ?_
    refine ev_aloadn_0 i14_153 ?_
    refine ew_iconst i14_154 ?_
    refine ev_iloadn_3 i14_155 ?_
    refine ev_iload_4 i14_156 ?_
    refine ev_virt3 i14_158 g14_158 rfl (by decide +kernel) (Nat.le_of_ble_eq_true rfl) (x_ownF h2 (hB.co h1) (by simp only [tp]; omega) (by omega) h0 (fun M h3 h4 => ?_))
    refine ew_iconst i14_161 ?_
    refine ew_imul i14_162 ?_
    refine ev_ireturn i14_163 r14 ?_
    exact hK M (fr_tr h1 h3) h4
  · exfalso; omega
theorem x_fromS0 (hA : RA I s) (hB : HA I n k0) (hs : s.1 ≤ 180) {k x dp : Int} (hk : k = 0 ∨ k = 4) (hd : 0 ≤ dp ∧ dp ≤ 33) (h0 : 0 ≤ k0 ∧ k0 ≤ 7) (hK : ∀ J, fr fra I J → RA J (tF k0 (tp 10 s)) → K (some (.int (zI (vF n k0 x * 2)))) (J, L, ts_P0 sw, ts_S0)) : ts_Cal X (d + 8) 13 [.ref 56, .int (zI (k)), .int (zI (1)), .int (zI (x)), .int (zI (dp))] (I, L, ts_P0 sw, ts_S0) K := by
  rcases hk with rfl | rfl
  · exact x_fromIn (x_fromAt (a := 0) (fnd := 10) (ab := -1) (by decide) (by decide) (by decide) (by decide) (fun K2 hk => x_run10 hA hB (by omega) (by omega) h0 (fun J h1 h2 => hk _ _ (hK J h1 h2))) (fun v M q => x_fromEnd q))
  · exact x_fromIn (x_fromUp (a := 4) (ab := 1) (by decide) (by decide) (by decide) (by decide) (fun _ => x_fromUp (a := 1) (ab := 0) (by decide) (by decide) (by decide) (by decide) (fun _ => x_fromAt (a := 0) (fnd := 10) (ab := -1) (by decide) (by decide) (by decide) (by decide) (fun K2 hk => x_run10 hA hB (by omega) (by omega) h0 (fun J h1 h2 => hk _ _ (hK J h1 h2))) (fun v M q => x_fromEnd q))))
theorem x_run30 (hA : RA I s) (hB : HA I n k0) (hs : s.1 ≤ 170) {x dp : Int} (hd : 0 ≤ dp ∧ dp ≤ 32) (h0 : 0 ≤ k0 ∧ k0 ≤ 7) (hK : ∀ J, fr fra I J → RA J (tF k0 (tp 10 (tp 30 s))) → K (some (.int (zI (-(vF n k0 x * 2))))) (J, L, ts_P0 sw, ts_S0)) : ts_Cal X (d + 9) 14 [.ref 56, .int (zI (30)), .int (zI (0)), .int (zI (x)), .int (zI (dp))] (I, L, ts_P0 sw, ts_S0) K := by
  refine ev_enter (lv := [.ref 56, .int (zI (30)), .int (zI (0)), .int (zI (x)), .int (zI (dp))]) l14 rfl (Nat.le_of_ble_eq_true rfl) ?_
  refine ev_iload_4 i14_0 ?_
  refine ew_bipush i14_2 (by decide) ?_
  refine ew_icmple i14_4 (by omega) (fun c4 => ?_) (fun c4 => ?_)
  · refine ev_aloadn_0 i14_9 ?_
    refine ev_iloadn_1 i14_10 ?_
    refine ev_virt1 i14_11 g14_11 rfl (by decide +kernel) (Nat.le_of_ble_eq_true rfl) (x_note hA (by decide) (by omega) (fun J h1 h2 => ?_))
    refine ev_iloadn_1 i14_14 ?_
    refine ew_sw (v := 30) i14_15 rfl (t := 183) (by decide) rfl ?_
    refine ev_aloadn_0 i14_183 ?_
    refine ev_iloadn_2 i14_184 ?_
    refine ew_iconst i14_185 ?_
    refine ev_iloadn_3 i14_186 ?_
    refine ev_iload_4 i14_187 ?_
    refine ev_virt4 i14_189 g14_189 rfl (by decide +kernel) (Nat.le_of_ble_eq_true rfl) (x_fromS0 h2 (hB.co h1) (by simp only [tp]; omega) (Or.inl rfl) (by omega) h0 (fun M h3 h4 => ?_))
    refine ew_ineg i14_192 ?_
    refine ev_ireturn i14_193 r14 ?_
    exact hK M (fr_tr h1 h3) h4
  · exfalso; omega
theorem x_fromS2 (hA : RA I s) (hB : HA I n k0) (hs : s.1 ≤ 170) {x dp : Int} (hd : 0 ≤ dp ∧ dp ≤ 31) (h0 : 0 ≤ k0 ∧ k0 ≤ 7) (hK : ∀ J, fr fra I J → RA J (tF k0 (tp 10 (tp 30 s))) → K (some (.int (zI (-(vF n k0 x * 2))))) (J, L, ts_P0 sw, ts_S0)) : ts_Cal X (d + 10) 13 [.ref 56, .int (zI (2)), .int (zI (1)), .int (zI (x)), .int (zI (dp))] (I, L, ts_P0 sw, ts_S0) K :=
  x_fromIn (x_fromAt (a := 2) (fnd := 30) (ab := 0) (by decide) (by decide) (by decide) (by decide) (fun K2 hk => x_run30 hA hB (by omega) (by omega) h0 (fun J h1 h2 => hk _ _ (hK J h1 h2))) (fun v M q => x_fromEnd q))
theorem x_run41 (hA : RA I s) (hB : HA I n k0) (hs : s.1 ≤ 165) {x dp : Int} (hd : 0 ≤ dp ∧ dp ≤ 30) (h0 : 0 ≤ k0 ∧ k0 ≤ 7) (hK : ∀ J, fr fra I J → RA J (tF k0 (tp 10 (tp 30 (tp 41 s)))) → K (some (.int (zI (-(vF n k0 (x + 1) * 2))))) (J, L, ts_P0 sw, ts_S0)) : ts_Cal X (d + 11) 14 [.ref 56, .int (zI (41)), .int (zI (2)), .int (zI (x)), .int (zI (dp))] (I, L, ts_P0 sw, ts_S0) K := by
  refine ev_enter (lv := [.ref 56, .int (zI (41)), .int (zI (2)), .int (zI (x)), .int (zI (dp))]) l14 rfl (Nat.le_of_ble_eq_true rfl) ?_
  refine ev_iload_4 i14_0 ?_
  refine ew_bipush i14_2 (by decide) ?_
  refine ew_icmple i14_4 (by omega) (fun c4 => ?_) (fun c4 => ?_)
  · refine ev_aloadn_0 i14_9 ?_
    refine ev_iloadn_1 i14_10 ?_
    refine ev_virt1 i14_11 g14_11 rfl (by decide +kernel) (Nat.le_of_ble_eq_true rfl) (x_note hA (by decide) (by omega) (fun J h1 h2 => ?_))
    refine ev_iloadn_1 i14_14 ?_
    refine ew_sw (v := 41) i14_15 rfl (t := 206) (by decide) rfl ?_
    refine ev_aloadn_0 i14_206 ?_
    refine ev_iloadn_2 i14_207 ?_
    refine ew_iconst i14_208 ?_
    refine ev_iloadn_3 i14_209 ?_
    refine ew_iconst i14_210 ?_
    refine ew_iadd i14_211 ?_
    refine ev_iload_4 i14_212 ?_
    refine ev_virt4 i14_214 g14_214 rfl (by decide +kernel) (Nat.le_of_ble_eq_true rfl) (x_fromS2 h2 (hB.co h1) (by simp only [tp]; omega) (by omega) h0 (fun M h3 h4 => ?_))
    refine ev_ireturn i14_217 r14 ?_
    exact hK M (fr_tr h1 h3) h4
  · exfalso; omega
theorem x_run80 (hA : RA I s) (hB : HA I n k0) (hs : s.1 ≤ 165) {x dp : Int} (hd : 0 ≤ dp ∧ dp ≤ 29) (h0 : 0 ≤ k0 ∧ k0 ≤ 7) (hK : ∀ J, fr fra I J → RA J (tW k0 k0 (tF k0 (tp 10 (tp 80 s)))) → K (some (.int (zI (vF n k0 x * 2 + vW n k0 k0 2)))) (J, L, ts_P0 sw, ts_S0)) : ts_Cal X (d + 10) 14 [.ref 56, .int (zI (80)), .int (zI (4)), .int (zI (x)), .int (zI (dp))] (I, L, ts_P0 sw, ts_S0) K := by
  refine ev_enter (lv := [.ref 56, .int (zI (80)), .int (zI (4)), .int (zI (x)), .int (zI (dp))]) l14 rfl (Nat.le_of_ble_eq_true rfl) ?_
  refine ev_iload_4 i14_0 ?_
  refine ew_bipush i14_2 (by decide) ?_
  refine ew_icmple i14_4 (by omega) (fun c4 => ?_) (fun c4 => ?_)
  · refine ev_aloadn_0 i14_9 ?_
    refine ev_iloadn_1 i14_10 ?_
    refine ev_virt1 i14_11 g14_11 rfl (by decide +kernel) (Nat.le_of_ble_eq_true rfl) (x_note hA (by decide) (by omega) (fun J h1 h2 => ?_))
    refine ev_iloadn_1 i14_14 ?_
    refine ew_sw (v := 80) i14_15 rfl (t := 261) (by decide) rfl ?_
    refine ev_aloadn_0 i14_261 ?_
    refine ev_iloadn_2 i14_262 ?_
    refine ew_iconst i14_263 ?_
    refine ev_iloadn_3 i14_264 ?_
    refine ev_iload_4 i14_265 ?_
    refine ev_virt4 i14_267 g14_267 rfl (by decide +kernel) (Nat.le_of_ble_eq_true rfl) (x_fromS0 h2 (hB.co h1) (by simp only [tp]; omega) (Or.inr rfl) (by omega) h0 (fun M h3 h4 => ?_))
    refine ev_aloadn_0 i14_270 ?_
    refine ew_iconst i14_271 ?_
    refine ew_iconst i14_272 ?_
    refine ev_iload_4 i14_273 ?_
    refine ev_virt3 i14_275 g14_275 rfl (by decide +kernel) (Nat.le_of_ble_eq_true rfl) (x_ownW h4 ((hB.co h1).co h3) (by have := tF_r k0 (tp 10 (tp 80 s)); simp only [tp] at *; omega) (by omega) h0 (fun N h5 h6 => ?_))
    refine ew_iadd i14_278 ?_
    refine ev_ireturn i14_279 r14 ?_
    exact hK N (fr_tr (fr_tr h1 h3) h5) h6
  · exfalso; omega
theorem x_fromS (hA : RA I s) (hB : HA I n k0) (hs : s.1 ≤ 160) {k x dp : Int} (hk : 0 ≤ k ∧ k ≤ 7) (hd : 0 ≤ dp ∧ dp ≤ 25) (h0 : 0 ≤ k0 ∧ k0 ≤ 7) (hK : ∀ J, fr fra I J → RA J (tS k0 k s) → K (some (.int (zI (vS n k0 k x)))) (J, L, ts_P0 sw, ts_S0)) : ts_Cal X (d + 12) 13 [.ref 56, .int (zI (k)), .int (zI (1)), .int (zI (x)), .int (zI (dp))] (I, L, ts_P0 sw, ts_S0) K := by
  rcases (show k = 0 ∨ k = 1 ∨ k = 2 ∨ k = 3 ∨ k = 4 ∨ k = 5 ∨ k = 6 ∨ k = 7 by omega) with rfl | rfl | rfl | rfl | rfl | rfl | rfl | rfl
  · exact x_fromIn (x_fromAt (a := 0) (fnd := 10) (ab := -1) (by decide) (by decide) (by decide) (by decide) (fun K2 hk => x_run10 hA hB (by omega) (by omega) h0 (fun J h1 h2 => hk _ _ (hK J h1 h2))) (fun v M q => x_fromEnd q))
  · exact x_fromIn (x_fromUp (a := 1) (ab := 0) (by decide) (by decide) (by decide) (by decide) (fun _ => x_fromAt (a := 0) (fnd := 10) (ab := -1) (by decide) (by decide) (by decide) (by decide) (fun K2 hk => x_run10 hA hB (by omega) (by omega) h0 (fun J h1 h2 => hk _ _ (hK J h1 h2))) (fun v M q => x_fromEnd q)))
  · exact x_fromIn (x_fromAt (a := 2) (fnd := 30) (ab := 0) (by decide) (by decide) (by decide) (by decide) (fun K2 hk => x_run30 hA hB (by omega) (by omega) h0 (fun J h1 h2 => hk _ _ (hK J h1 h2))) (fun v M q => x_fromEnd q))
  · exact x_fromIn (x_fromAt (a := 3) (fnd := 41) (ab := 2) (by decide) (by decide) (by decide) (by decide) (fun K2 hk => x_run41 hA hB (by omega) (by omega) h0 (fun J h1 h2 => hk _ _ (hK J h1 h2))) (fun v M q => x_fromEnd q))
  · exact x_fromIn (x_fromUp (a := 4) (ab := 1) (by decide) (by decide) (by decide) (by decide) (fun _ => x_fromUp (a := 1) (ab := 0) (by decide) (by decide) (by decide) (by decide) (fun _ => x_fromAt (a := 0) (fnd := 10) (ab := -1) (by decide) (by decide) (by decide) (by decide) (fun K2 hk => x_run10 hA hB (by omega) (by omega) h0 (fun J h1 h2 => hk _ _ (hK J h1 h2))) (fun v M q => x_fromEnd q))))
  · exact x_fromIn (x_fromUp (a := 5) (ab := 3) (by decide) (by decide) (by decide) (by decide) (fun _ => x_fromAt (a := 3) (fnd := 41) (ab := 2) (by decide) (by decide) (by decide) (by decide) (fun K2 hk => x_run41 hA hB (by omega) (by omega) h0 (fun J h1 h2 => hk _ _ (hK J h1 h2))) (fun v M q => x_fromEnd q)))
  · exact x_fromIn (x_fromUp (a := 6) (ab := 0) (by decide) (by decide) (by decide) (by decide) (fun _ => x_fromAt (a := 0) (fnd := 10) (ab := -1) (by decide) (by decide) (by decide) (by decide) (fun K2 hk => x_run10 hA hB (by omega) (by omega) h0 (fun J h1 h2 => hk _ _ (hK J h1 h2))) (fun v M q => x_fromEnd q)))
  · exact x_fromIn (x_fromAt (a := 7) (fnd := 80) (ab := 4) (by decide) (by decide) (by decide) (by decide) (fun K2 hk => x_run80 hA hB (by omega) (by omega) h0 (fun J h1 h2 => hk _ _ (hK J h1 h2))) (fun v M q => x_fromEnd q))
theorem x_ownS (hA : RA I s) (hB : HA I n k0) (hs : s.1 ≤ 160) {x dp : Int} (hd : 0 ≤ dp ∧ dp ≤ 25) (h0 : 0 ≤ k0 ∧ k0 ≤ 7) (hK : ∀ J, fr fra I J → RA J (tS k0 k0 s) → K (some (.int (zI (vS n k0 k0 x)))) (J, L, ts_P0 sw, ts_S0)) : ts_Cal X (d + 13) 12 [.ref 56, .int (zI (1)), .int (zI (x)), .int (zI (dp))] (I, L, ts_P0 sw, ts_S0) K := by
  obtain ⟨q1, nb, g, q2, q3, q4, rfl⟩ := id hB
  have q5 := q1.2
  refine ev_enter (lv := [.ref 56, .int (zI (1)), .int (zI (x)), .int (zI (dp))]) l12 rfl (Nat.le_of_ble_eq_true rfl) ?_
  refine ev_aloadn_0 i12_0 ?_
  refine ev_aloadn_0 i12_1 ?_
  refine ev_aloadn_0 i12_2 ?_
  refine ew_getI i12_3 g12_3 rfl (by first | exact q1 | exact hX.men | exact hX.told | exact hX.road | exact hX.tone _ (by omega) (by omega) | exact hX.corn _ (by omega) (by omega) | exact hX.stand _ (by omega) (by omega) | exact hX.reach _ (by omega) (by omega) | exact hX.arm _ (by omega) (by omega) | exact hX.late _ (by omega) (by omega) | exact hX.len _ (by omega) (by omega) | exact hX.say (by omega) (by omega) _ (by omega) (by omega)) (fun b3 => ?_)
  refine ev_virt1 i12_6 g12_6 rfl (by decide +kernel) (Nat.le_of_ble_eq_true rfl) (x_kindOf' q2 q3 (by omega) ?_)
  refine ev_iloadn_1 i12_9 ?_
  refine ev_iloadn_2 i12_10 ?_
  refine ev_iloadn_3 i12_11 ?_
  refine ev_virt4 i12_12 g12_12 rfl (by decide +kernel) (Nat.le_of_ble_eq_true rfl) (x_fromS hA hB (by omega) (by omega) (by omega) h0 (fun J h1 h2 => ?_))
  refine ev_ireturn i12_15 r12 ?_
  exact hK J h1 h2
theorem x_run2 (hA : RA I s) (hB : HA I n k0) (hs : s.1 ≤ 150) {x dp : Int} (hd : 0 ≤ dp ∧ dp ≤ 24) {ab : Int} (h0 : 0 ≤ k0 ∧ k0 ≤ 7) (hK : ∀ J, fr fra I J → RA J (tW k0 k0 (tS k0 k0 (tp 2 s))) → K (some (.int (zI (vS n k0 k0 x - vW n k0 k0 1)))) (J, L, ts_P0 sw, ts_S0)) : ts_Cal X (d + 14) 14 [.ref 56, .int (zI (2)), .int (zI (ab)), .int (zI (x)), .int (zI (dp))] (I, L, ts_P0 sw, ts_S0) K := by
  refine ev_enter (lv := [.ref 56, .int (zI (2)), .int (zI (ab)), .int (zI (x)), .int (zI (dp))]) l14 rfl (Nat.le_of_ble_eq_true rfl) ?_
  refine ev_iload_4 i14_0 ?_
  refine ew_bipush i14_2 (by decide) ?_
  refine ew_icmple i14_4 (by omega) (fun c4 => ?_) (fun c4 => ?_)
  · refine ev_aloadn_0 i14_9 ?_
    refine ev_iloadn_1 i14_10 ?_
    refine ev_virt1 i14_11 g14_11 rfl (by decide +kernel) (Nat.le_of_ble_eq_true rfl) (x_note hA (by decide) (by omega) (fun J h1 h2 => ?_))
    refine ev_iloadn_1 i14_14 ?_
    refine ew_sw (v := 2) i14_15 rfl (t := 135) (by decide) rfl ?_
    refine ev_aloadn_0 i14_135 ?_
    refine ew_iconst i14_136 ?_
    refine ev_iloadn_3 i14_137 ?_
    refine ev_iload_4 i14_138 ?_
    refine ev_virt3 i14_140 g14_140 rfl (by decide +kernel) (Nat.le_of_ble_eq_true rfl) (x_ownS h2 (hB.co h1) (by simp only [tp]; omega) (by omega) h0 (fun M h3 h4 => ?_))
    refine ev_aloadn_0 i14_143 ?_
    refine ew_iconst i14_144 ?_
    refine ew_iconst i14_145 ?_
    refine ev_iload_4 i14_146 ?_
    refine ev_virt3 i14_148 g14_148 rfl (by decide +kernel) (Nat.le_of_ble_eq_true rfl) (x_ownW h4 ((hB.co h1).co h3) (by have := tS_r k0 k0 (tp 2 s); simp only [tp] at *; omega) (by omega) h0 (fun N h5 h6 => ?_))
    refine ew_isub i14_151 ?_
    refine ev_ireturn i14_152 r14 ?_
    exact hK N (fr_tr (fr_tr h1 h3) h5) h6
  · exfalso; omega
theorem x_fromT0 (hA : RA I s) (hB : HA I n k0) (hs : s.1 ≤ 150) {k x dp : Int} (hk : k = 3 ∨ k = 4) (hd : 0 ≤ dp ∧ dp ≤ 22) (h0 : 0 ≤ k0 ∧ k0 ≤ 7) (hK : ∀ J, fr fra I J → RA J (tW k0 k0 (tS k0 k0 (tp 2 s))) → K (some (.int (zI (vS n k0 k0 x - vW n k0 k0 1)))) (J, L, ts_P0 sw, ts_S0)) : ts_Cal X (d + 15) 13 [.ref 56, .int (zI (k)), .int (zI (3)), .int (zI (x)), .int (zI (dp))] (I, L, ts_P0 sw, ts_S0) K := by
  rcases hk with rfl | rfl
  · exact x_fromIn (x_fromUp (a := 3) (ab := 2) (by decide) (by decide) (by decide) (by decide) (fun _ => x_fromUp (a := 2) (ab := 0) (by decide) (by decide) (by decide) (by decide) (fun _ => x_fromAt (a := 0) (fnd := 2) (ab := -1) (by decide) (by decide) (by decide) (by decide) (fun K2 hk => x_run2 hA hB (by omega) (by omega) h0 (fun J h1 h2 => hk _ _ (hK J h1 h2))) (fun v M q => x_fromEnd q))))
  · exact x_fromIn (x_fromUp (a := 4) (ab := 1) (by decide) (by decide) (by decide) (by decide) (fun _ => x_fromUp (a := 1) (ab := 0) (by decide) (by decide) (by decide) (by decide) (fun _ => x_fromAt (a := 0) (fnd := 2) (ab := -1) (by decide) (by decide) (by decide) (by decide) (fun K2 hk => x_run2 hA hB (by omega) (by omega) h0 (fun J h1 h2 => hk _ _ (hK J h1 h2))) (fun v M q => x_fromEnd q))))
theorem x_run60 (hA : RA I s) (hB : HA I n k0) (hs : s.1 ≤ 145) {x dp : Int} (hd : 0 ≤ dp ∧ dp ≤ 20) (h0 : 0 ≤ k0 ∧ k0 ≤ 7) (hK : ∀ J, fr fra I J → RA J (tW k0 k0 (tS k0 k0 (tp 2 (tp 60 s)))) → K (some (.int (zI (zxor (vS n k0 k0 x - vW n k0 k0 1) 5)))) (J, L, ts_P0 sw, ts_S0)) : ts_Cal X (d + 16) 14 [.ref 56, .int (zI (60)), .int (zI (3)), .int (zI (x)), .int (zI (dp))] (I, L, ts_P0 sw, ts_S0) K := by
  refine ev_enter (lv := [.ref 56, .int (zI (60)), .int (zI (3)), .int (zI (x)), .int (zI (dp))]) l14 rfl (Nat.le_of_ble_eq_true rfl) ?_
  refine ev_iload_4 i14_0 ?_
  refine ew_bipush i14_2 (by decide) ?_
  refine ew_icmple i14_4 (by omega) (fun c4 => ?_) (fun c4 => ?_)
  · refine ev_aloadn_0 i14_9 ?_
    refine ev_iloadn_1 i14_10 ?_
    refine ev_virt1 i14_11 g14_11 rfl (by decide +kernel) (Nat.le_of_ble_eq_true rfl) (x_note hA (by decide) (by omega) (fun J h1 h2 => ?_))
    refine ev_iloadn_1 i14_14 ?_
    refine ew_sw (v := 60) i14_15 rfl (t := 237) (by decide) rfl ?_
    refine ev_aloadn_0 i14_237 ?_
    refine ev_iloadn_2 i14_238 ?_
    refine ew_iconst i14_239 ?_
    refine ev_iloadn_3 i14_240 ?_
    refine ev_iload_4 i14_241 ?_
    refine ev_virt4 i14_243 g14_243 rfl (by decide +kernel) (Nat.le_of_ble_eq_true rfl) (x_fromT0 h2 (hB.co h1) (by simp only [tp]; omega) (by decide) (by omega) h0 (fun M h3 h4 => ?_))
    refine ew_iconst i14_246 ?_
    refine ew_ixor i14_247 ?_
    refine ev_ireturn i14_248 r14 ?_
    exact hK M (fr_tr h1 h3) h4
  · exfalso; omega
theorem x_run81 (hA : RA I s) (hB : HA I n k0) (hs : s.1 ≤ 145) {x dp : Int} (hd : 0 ≤ dp ∧ dp ≤ 20) (h0 : 0 ≤ k0 ∧ k0 ≤ 7) (hK : ∀ J, fr fra I J → RA J (tW k0 k0 (tS k0 k0 (tp 2 (tp 81 s)))) → K (some (.int (zI (vS n k0 k0 x - vW n k0 k0 1 - 1)))) (J, L, ts_P0 sw, ts_S0)) : ts_Cal X (d + 16) 14 [.ref 56, .int (zI (81)), .int (zI (4)), .int (zI (x)), .int (zI (dp))] (I, L, ts_P0 sw, ts_S0) K := by
  refine ev_enter (lv := [.ref 56, .int (zI (81)), .int (zI (4)), .int (zI (x)), .int (zI (dp))]) l14 rfl (Nat.le_of_ble_eq_true rfl) ?_
  refine ev_iload_4 i14_0 ?_
  refine ew_bipush i14_2 (by decide) ?_
  refine ew_icmple i14_4 (by omega) (fun c4 => ?_) (fun c4 => ?_)
  · refine ev_aloadn_0 i14_9 ?_
    refine ev_iloadn_1 i14_10 ?_
    refine ev_virt1 i14_11 g14_11 rfl (by decide +kernel) (Nat.le_of_ble_eq_true rfl) (x_note hA (by decide) (by omega) (fun J h1 h2 => ?_))
    refine ev_iloadn_1 i14_14 ?_
    refine ew_sw (v := 81) i14_15 rfl (t := 280) (by decide) rfl ?_
    refine ev_aloadn_0 i14_280 ?_
    refine ev_iloadn_2 i14_281 ?_
    refine ew_iconst i14_282 ?_
    refine ev_iloadn_3 i14_283 ?_
    refine ev_iload_4 i14_284 ?_
    refine ev_virt4 i14_286 g14_286 rfl (by decide +kernel) (Nat.le_of_ble_eq_true rfl) (x_fromT0 h2 (hB.co h1) (by simp only [tp]; omega) (by decide) (by omega) h0 (fun M h3 h4 => ?_))
    refine ew_iconst i14_289 ?_
    refine ew_isub i14_290 ?_
    refine ev_ireturn i14_291 r14 ?_
    exact hK M (fr_tr h1 h3) h4
  · exfalso; omega
theorem x_fromT (hA : RA I s) (hB : HA I n k0) (hs : s.1 ≤ 140) {k x dp : Int} (hk : 0 ≤ k ∧ k ≤ 7) (hd : 0 ≤ dp ∧ dp ≤ 15) (h0 : 0 ≤ k0 ∧ k0 ≤ 7) (hK : ∀ J, fr fra I J → RA J (tT k0 k s) → K (some (.int (zI (vT n k0 k x)))) (J, L, ts_P0 sw, ts_S0)) : ts_Cal X (d + 17) 13 [.ref 56, .int (zI (k)), .int (zI (3)), .int (zI (x)), .int (zI (dp))] (I, L, ts_P0 sw, ts_S0) K := by
  rcases (show k = 0 ∨ k = 1 ∨ k = 2 ∨ k = 3 ∨ k = 4 ∨ k = 5 ∨ k = 6 ∨ k = 7 by omega) with rfl | rfl | rfl | rfl | rfl | rfl | rfl | rfl
  · exact x_fromIn (x_fromAt (a := 0) (fnd := 2) (ab := -1) (by decide) (by decide) (by decide) (by decide) (fun K2 hk => x_run2 hA hB (by omega) (by omega) h0 (fun J h1 h2 => hk _ _ (hK J h1 h2))) (fun v M q => x_fromEnd q))
  · exact x_fromIn (x_fromUp (a := 1) (ab := 0) (by decide) (by decide) (by decide) (by decide) (fun _ => x_fromAt (a := 0) (fnd := 2) (ab := -1) (by decide) (by decide) (by decide) (by decide) (fun K2 hk => x_run2 hA hB (by omega) (by omega) h0 (fun J h1 h2 => hk _ _ (hK J h1 h2))) (fun v M q => x_fromEnd q)))
  · exact x_fromIn (x_fromUp (a := 2) (ab := 0) (by decide) (by decide) (by decide) (by decide) (fun _ => x_fromAt (a := 0) (fnd := 2) (ab := -1) (by decide) (by decide) (by decide) (by decide) (fun K2 hk => x_run2 hA hB (by omega) (by omega) h0 (fun J h1 h2 => hk _ _ (hK J h1 h2))) (fun v M q => x_fromEnd q)))
  · exact x_fromIn (x_fromUp (a := 3) (ab := 2) (by decide) (by decide) (by decide) (by decide) (fun _ => x_fromUp (a := 2) (ab := 0) (by decide) (by decide) (by decide) (by decide) (fun _ => x_fromAt (a := 0) (fnd := 2) (ab := -1) (by decide) (by decide) (by decide) (by decide) (fun K2 hk => x_run2 hA hB (by omega) (by omega) h0 (fun J h1 h2 => hk _ _ (hK J h1 h2))) (fun v M q => x_fromEnd q))))
  · exact x_fromIn (x_fromUp (a := 4) (ab := 1) (by decide) (by decide) (by decide) (by decide) (fun _ => x_fromUp (a := 1) (ab := 0) (by decide) (by decide) (by decide) (by decide) (fun _ => x_fromAt (a := 0) (fnd := 2) (ab := -1) (by decide) (by decide) (by decide) (by decide) (fun K2 hk => x_run2 hA hB (by omega) (by omega) h0 (fun J h1 h2 => hk _ _ (hK J h1 h2))) (fun v M q => x_fromEnd q))))
  · exact x_fromIn (x_fromAt (a := 5) (fnd := 60) (ab := 3) (by decide) (by decide) (by decide) (by decide) (fun K2 hk => x_run60 hA hB (by omega) (by omega) h0 (fun J h1 h2 => hk _ _ (hK J h1 h2))) (fun v M q => x_fromEnd q))
  · exact x_fromIn (x_fromUp (a := 6) (ab := 0) (by decide) (by decide) (by decide) (by decide) (fun _ => x_fromAt (a := 0) (fnd := 2) (ab := -1) (by decide) (by decide) (by decide) (by decide) (fun K2 hk => x_run2 hA hB (by omega) (by omega) h0 (fun J h1 h2 => hk _ _ (hK J h1 h2))) (fun v M q => x_fromEnd q)))
  · exact x_fromIn (x_fromAt (a := 7) (fnd := 81) (ab := 4) (by decide) (by decide) (by decide) (by decide) (fun K2 hk => x_run81 hA hB (by omega) (by omega) h0 (fun J h1 h2 => hk _ _ (hK J h1 h2))) (fun v M q => x_fromEnd q))
theorem x_ownT (hA : RA I s) (hB : HA I n k0) (hs : s.1 ≤ 140) {x dp : Int} (hd : 0 ≤ dp ∧ dp ≤ 15) (h0 : 0 ≤ k0 ∧ k0 ≤ 7) (hK : ∀ J, fr fra I J → RA J (tT k0 k0 s) → K (some (.int (zI (vT n k0 k0 x)))) (J, L, ts_P0 sw, ts_S0)) : ts_Cal X (d + 18) 12 [.ref 56, .int (zI (3)), .int (zI (x)), .int (zI (dp))] (I, L, ts_P0 sw, ts_S0) K := by
  obtain ⟨q1, nb, g, q2, q3, q4, rfl⟩ := id hB
  have q5 := q1.2
  refine ev_enter (lv := [.ref 56, .int (zI (3)), .int (zI (x)), .int (zI (dp))]) l12 rfl (Nat.le_of_ble_eq_true rfl) ?_
  refine ev_aloadn_0 i12_0 ?_
  refine ev_aloadn_0 i12_1 ?_
  refine ev_aloadn_0 i12_2 ?_
  refine ew_getI i12_3 g12_3 rfl (by first | exact q1 | exact hX.men | exact hX.told | exact hX.road | exact hX.tone _ (by omega) (by omega) | exact hX.corn _ (by omega) (by omega) | exact hX.stand _ (by omega) (by omega) | exact hX.reach _ (by omega) (by omega) | exact hX.arm _ (by omega) (by omega) | exact hX.late _ (by omega) (by omega) | exact hX.len _ (by omega) (by omega) | exact hX.say (by omega) (by omega) _ (by omega) (by omega)) (fun b3 => ?_)
  refine ev_virt1 i12_6 g12_6 rfl (by decide +kernel) (Nat.le_of_ble_eq_true rfl) (x_kindOf' q2 q3 (by omega) ?_)
  refine ev_iloadn_1 i12_9 ?_
  refine ev_iloadn_2 i12_10 ?_
  refine ev_iloadn_3 i12_11 ?_
  refine ev_virt4 i12_12 g12_12 rfl (by decide +kernel) (Nat.le_of_ble_eq_true rfl) (x_fromT hA hB (by omega) (by omega) (by omega) h0 (fun J h1 h2 => ?_))
  refine ev_ireturn i12_15 r12 ?_
  exact hK J h1 h2
end AX
/-- act: what it answers, what becomes of the trace -/
def g_actA (b : ts_Bo) (n a x : Int) : Int := if (0 ≤ n ∧ n < b.1) ∧ 0 ≤ a ∧ a < 4 then (if a = 0 then vF n (b.2.2.1 n) x else if a = 1 then vS n (b.2.2.1 n) (b.2.2.1 n) x else if a = 2 then vW n (b.2.2.1 n) (b.2.2.1 n) x else vT n (b.2.2.1 n) (b.2.2.1 n) x) else 0
def g_actT (b : ts_Bo) (n a : Int) : ts_Tr := if (0 ≤ n ∧ n < b.1) ∧ 0 ≤ a ∧ a < 4 then (if a = 0 then tF (b.2.2.1 n) (0, b.2.2.2) else if a = 1 then tS (b.2.2.1 n) (b.2.2.1 n) (0, b.2.2.2) else if a = 2 then tW (b.2.2.1 n) (b.2.2.1 n) (0, b.2.2.2) else tT (b.2.2.1 n) (b.2.2.1 n) (0, b.2.2.2)) else (0, b.2.2.2)
def g_actB (b : ts_Bo) (n a : Int) : ts_Bo := (b.1, (g_actT b n a).1, b.2.2.1, (g_actT b n a).2)
section AY
variable {X : ts_X} {I J : Nat → Nat → Int32} {L : Nat → Nat → Int64} {sw : Bool} {K : Option Value → ts_H → Prop} {d : Nat} {b : ts_Bo}
theorem x_startAct (hB : RXb I b) {n a x : Int} (hn : -2147483648 ≤ n ∧ n ≤ 2147483647) (ha : -2147483648 ≤ a ∧ a ≤ 2147483647) (hK : ∀ J, fr fbx I J → RXb J (g_actB b n a) → K (some (.int (zI (g_actA b n a x)))) (J, L, ts_P0 sw, ts_S0)) : ts_Cal X (d + 19) 11 [.ref 56, .int (zI (n)), .int (zI (a)), .int (zI (x))] (I, L, ts_P0 sw, ts_S0) K := by
  have b1 := hB.1.2
  have hA0 : RA (ts_up I 56 3 (zI 0)) (0, b.2.2.2) := ⟨rd_zI (by decide), hB.2.2.2⟩
  unfold g_actB g_actT g_actA at hK
  refine ev_enter (lv := [.ref 56, .int (zI (n)), .int (zI (a)), .int (zI (x))]) l11 rfl (Nat.le_of_ble_eq_true rfl) ?_
  refine ev_aloadn_0 i11_0 ?_
  refine ew_iconst i11_1 ?_
  refine ev_putI i11_2 g11_2 rfl ?_
  refine ev_iloadn_1 i11_5 ?_
  refine ew_iflt i11_6 (by omega) (fun c6 => ?_) (fun c6 => ?_)
  · refine ew_iconst i11_26 ?_
    refine ev_ireturn i11_27 r11 ?_
    rw [if_neg (by omega), if_neg (by omega)] at hK
    exact hK _ (fr_up (fr_rfl _ _) (by omega)) ⟨hB.1, hA0.1, hB.2.2.1, hA0.2⟩
  · refine ev_iloadn_1 i11_9 ?_
    refine ev_aloadn_0 i11_10 ?_
    refine ew_getI i11_11 g11_11 rfl (by first | exact hB.1 | exact hX.men | exact hX.told | exact hX.road | exact hX.tone _ (by omega) (by omega) | exact hX.corn _ (by omega) (by omega) | exact hX.stand _ (by omega) (by omega) | exact hX.reach _ (by omega) (by omega) | exact hX.arm _ (by omega) (by omega) | exact hX.late _ (by omega) (by omega) | exact hX.len _ (by omega) (by omega) | exact hX.say (by omega) (by omega) _ (by omega) (by omega)) (fun b11 => ?_)
    refine ew_icmpge i11_14 (by omega) (fun c14 => ?_) (fun c14 => ?_)
    · refine ew_iconst i11_26 ?_
      refine ev_ireturn i11_27 r11 ?_
      rw [if_neg (by omega), if_neg (by omega)] at hK
      exact hK _ (fr_up (fr_rfl _ _) (by omega)) ⟨hB.1, hA0.1, hB.2.2.1, hA0.2⟩
    · refine ev_iloadn_2 i11_17 ?_
      refine ew_iflt i11_18 (by omega) (fun c18 => ?_) (fun c18 => ?_)
      · refine ew_iconst i11_26 ?_
        refine ev_ireturn i11_27 r11 ?_
        rw [if_neg (by omega), if_neg (by omega)] at hK
        exact hK _ (fr_up (fr_rfl _ _) (by omega)) ⟨hB.1, hA0.1, hB.2.2.1, hA0.2⟩
      · refine ev_iloadn_2 i11_21 ?_
        refine ew_iconst i11_22 ?_
        refine ew_icmplt i11_23 (by omega) (fun c23 => ?_) (fun c23 => ?_)
        · have hk := (hB.2.2.1 n (by omega) (by omega)).2
          have hA1 : RA (ts_up (ts_up I 56 3 (zI 0)) 56 4 (zI n)) (0, b.2.2.2) := ⟨hA0.1, hA0.2⟩
          have hH : HA (ts_up (ts_up I 56 3 (zI 0)) 56 4 (zI n)) n (b.2.2.1 n) := ⟨rd_zI (by omega), b.1, b.2.2.1, hB.1, hB.2.2.1, by omega, rfl⟩
          have hc : (0 ≤ n ∧ n < b.1) ∧ 0 ≤ a ∧ a < 4 := by omega
          simp only [if_pos hc] at hK
          have fin : ∀ J s, fr fra (ts_up (ts_up I 56 3 (zI 0)) 56 4 (zI n)) J → RA J s → fr fbx I J ∧ RXb J (b.1, s.1, b.2.2.1, s.2) := fun J s h1 h2 => ⟨fr_tr (fr_up (fr_up (fr_rfl _ _) (by omega)) (by omega)) (fr_mo h1 (fun a k q => by omega)), by rw [h1 56 2 (by omega)]; exact hB.1, h2.1, ar_co hB.2.2.1 (fr_row h1 (fun k => by omega)), h2.2⟩
          rcases (show a = 0 ∨ a = 1 ∨ a = 2 ∨ a = 3 by omega) with rfl | rfl | rfl | rfl
          · refine ev_aloadn_0 i11_28 ?_
            refine ev_iloadn_1 i11_29 ?_
            refine ev_putI i11_30 g11_30 rfl ?_
            refine ev_aloadn_0 i11_33 ?_
            refine ev_iloadn_2 i11_34 ?_
            refine ev_iloadn_3 i11_35 ?_
            refine ew_iconst i11_36 ?_
            refine ev_virt3 i11_37 g11_37 rfl (by decide +kernel) (Nat.le_of_ble_eq_true rfl) (x_ownF hA1 hH (by show (0 : Int) ≤ _; decide) (by decide) hk (fun J h1 h2 => ?_))
            refine ev_ireturn i11_40 r11 ?_
            exact hK J (fin J _ h1 h2).1 (fin J _ h1 h2).2
          · refine ev_aloadn_0 i11_28 ?_
            refine ev_iloadn_1 i11_29 ?_
            refine ev_putI i11_30 g11_30 rfl ?_
            refine ev_aloadn_0 i11_33 ?_
            refine ev_iloadn_2 i11_34 ?_
            refine ev_iloadn_3 i11_35 ?_
            refine ew_iconst i11_36 ?_
            refine ev_virt3 i11_37 g11_37 rfl (by decide +kernel) (Nat.le_of_ble_eq_true rfl) (x_ownS hA1 hH (by show (0 : Int) ≤ _; decide) (by decide) hk (fun J h1 h2 => ?_))
            refine ev_ireturn i11_40 r11 ?_
            exact hK J (fin J _ h1 h2).1 (fin J _ h1 h2).2
          · refine ev_aloadn_0 i11_28 ?_
            refine ev_iloadn_1 i11_29 ?_
            refine ev_putI i11_30 g11_30 rfl ?_
            refine ev_aloadn_0 i11_33 ?_
            refine ev_iloadn_2 i11_34 ?_
            refine ev_iloadn_3 i11_35 ?_
            refine ew_iconst i11_36 ?_
            refine ev_virt3 i11_37 g11_37 rfl (by decide +kernel) (Nat.le_of_ble_eq_true rfl) (x_ownW hA1 hH (by show (0 : Int) ≤ _; decide) (by decide) hk (fun J h1 h2 => ?_))
            refine ev_ireturn i11_40 r11 ?_
            exact hK J (fin J _ h1 h2).1 (fin J _ h1 h2).2
          · refine ev_aloadn_0 i11_28 ?_
            refine ev_iloadn_1 i11_29 ?_
            refine ev_putI i11_30 g11_30 rfl ?_
            refine ev_aloadn_0 i11_33 ?_
            refine ev_iloadn_2 i11_34 ?_
            refine ev_iloadn_3 i11_35 ?_
            refine ew_iconst i11_36 ?_
            refine ev_virt3 i11_37 g11_37 rfl (by decide +kernel) (Nat.le_of_ble_eq_true rfl) (x_ownT hA1 hH (by show (0 : Int) ≤ _; decide) (by decide) hk (fun J h1 h2 => ?_))
            refine ev_ireturn i11_40 r11 ?_
            exact hK J (fin J _ h1 h2).1 (fin J _ h1 h2).2
        · refine ew_iconst i11_26 ?_
          refine ev_ireturn i11_27 r11 ?_
          rw [if_neg (by omega), if_neg (by omega)] at hK
          exact hK _ (fr_up (fr_rfl _ _) (by omega)) ⟨hB.1, hA0.1, hB.2.2.1, hA0.2⟩
theorem x_act (hB : RXb I b) {n a x : Int} (hn : -2147483648 ≤ n ∧ n ≤ 2147483647) (ha : -2147483648 ≤ a ∧ a ≤ 2147483647) (hK : ∀ J, fr fbx I J → RXb J (g_actB b n a) → K (some (.int (zI (g_actA b n a x)))) (J, L, ts_P0 sw, ts_S0)) : ts_Cal X (d + 20) 128 [.ref 1, .int (zI (n)), .int (zI (a)), .int (zI (x))] (I, L, ts_P0 sw, ts_S0) K := by
  refine ev_enter (lv := [.ref 1, .int (zI (n)), .int (zI (a)), .int (zI (x))]) l128 rfl (Nat.le_of_ble_eq_true rfl) ?_
  refine ev_aloadn_0 i128_0 ?_
  refine ev_getA i128_1 g128_1 rfl rfl (by decide) ?_
  refine ev_iloadn_1 i128_4 ?_
  refine ev_iloadn_2 i128_5 ?_
  refine ev_iloadn_3 i128_6 ?_
  refine ev_virt3 i128_7 g128_7 rfl (by decide +kernel) (Nat.le_of_ble_eq_true rfl) (x_startAct hB hn ha (fun J h1 h2 => ?_))
  refine ev_ireturn i128_10 r128 ?_
  exact hK J h1 h2
theorem m_act (hB : RMb I b) {n a x : Int} (hn : -2147483648 ≤ n ∧ n ≤ 2147483647) (ha : -2147483648 ≤ a ∧ a ≤ 2147483647) (hK : ∀ J, fr fbm I J → RMb J (g_actB b n a) → K (some (.int (zI (g_actA b n a x)))) (J, L, ts_P0 sw, ts_S0)) : ts_Cal X (d + 9) 226 [.ref 72, .int (zI (n)), .int (zI (a)), .int (zI (x))] (I, L, ts_P0 sw, ts_S0) K := by
  have b1 := hB.1.2
  have hA0 : RB (ts_up I 72 35 (zI 0)) (0, b.2.2.2) := ⟨rd_zI (by decide), hB.2.2.2⟩
  have hB0 : RMb (ts_up I 72 35 (zI 0)) (b.1, 0, b.2.2.1, b.2.2.2) := ⟨hB.1, rd_zI (by decide), hB.2.2.1, hB.2.2.2⟩
  unfold g_actB g_actT g_actA at hK
  refine ev_enter (lv := [.ref 72, .int (zI (n)), .int (zI (a)), .int (zI (x))]) l226 rfl (Nat.le_of_ble_eq_true rfl) ?_
  refine ev_aloadn_0 i226_0 ?_
  refine ew_iconst i226_1 ?_
  refine ev_putI i226_2 g226_2 rfl ?_
  refine ev_aloadn_0 i226_5 ?_
  refine ev_iloadn_1 i226_6 ?_
  refine ev_virt1 i226_7 g226_7 rfl (by decide +kernel) (Nat.le_of_ble_eq_true rfl) (m_isBody hB0 hn ?_)
  first
  | refine ew_ifneB i226_10 (fun c10 => ?_) (fun c10 => ?_)
  | refine ew_ifne i226_10 (by omega) (fun c10 => ?_) (fun c10 => ?_)
  · have hk := (hB.2.2.1 n (by omega) (by have q : n < b.1 := c10.2; omega)).2
    have q1 : 0 ≤ n ∧ n < b.1 := c10
    have hA1 : RB (ts_up (ts_up (ts_up I 72 35 (zI 0)) 72 36 (zI (b.2.2.1 n))) 72 37 (zI n)) (0, b.2.2.2) := ⟨hA0.1, hA0.2⟩
    have hH : HB (ts_up (ts_up (ts_up I 72 35 (zI 0)) 72 36 (zI (b.2.2.1 n))) 72 37 (zI n)) n (b.2.2.1 n) := ⟨rd_zI (by omega), rd_zI hk⟩
    have fin : ∀ J s, fr frm (ts_up (ts_up (ts_up I 72 35 (zI 0)) 72 36 (zI (b.2.2.1 n))) 72 37 (zI n)) J → RB J s → fr fbm I J ∧ RMb J (b.1, s.1, b.2.2.1, s.2) := fun J s h1 h2 => ⟨fr_tr (fr_up (fr_up (fr_up (fr_rfl _ _) (by omega)) (by omega)) (by omega)) (fr_mo h1 (fun a k q => by omega)), by rw [h1 72 32 (by omega)]; exact hB.1, h2.1, ar_co hB.2.2.1 (fr_row h1 (fun k => by omega)), h2.2⟩
    refine ev_aloadn_0 i226_15 ?_
    refine ev_aloadn_0 i226_16 ?_
    refine ev_getA i226_17 g226_17 rfl rfl (by decide) ?_
    refine ev_iloadn_1 i226_20 ?_
    refine ew_iaload i226_21 rfl (by omega) (by omega) (by omega) (by first | exact hB.2.2.1 _ (by omega) (by omega) | exact hH.2 | exact hM.men | exact hM.told | exact hM.road | exact hM.stand _ (by omega) (by omega) | exact hM.reach _ (by omega) (by omega) | exact hM.arm _ (by omega) (by omega) | exact hM.late _ (by omega) (by omega) | exact hM.len _ (by omega) (by omega) | exact hM.corn _ (by omega) (by omega) | exact hM.say (by omega) (by omega) _ (by omega) (by omega) | exact hM.tone _ (by omega) (by omega)) (fun b21 => ?_)
    refine ev_putI i226_22 g226_22 rfl ?_
    refine ev_aloadn_0 i226_25 ?_
    refine ev_iloadn_1 i226_26 ?_
    refine ev_putI i226_27 g226_27 rfl ?_
    refine ev_iloadn_2 i226_30 ?_
    rcases (show a = 0 ∨ a = 1 ∨ a = 2 ∨ a = 3 ∨ (a < 0 ∨ 3 < a) by omega) with c31 | c31 | c31 | c31 | c31
    · refine ew_sw (v := 0) i226_31 c31 (t := 60) (by decide) rfl ?_
      refine ev_aloadn_0 i226_60 ?_
      refine ev_aloadn_0 i226_61 ?_
      refine ew_getI i226_62 g226_62 rfl (by first | exact hB.2.2.1 _ (by omega) (by omega) | exact hH.2 | exact hM.men | exact hM.told | exact hM.road | exact hM.stand _ (by omega) (by omega) | exact hM.reach _ (by omega) (by omega) | exact hM.arm _ (by omega) (by omega) | exact hM.late _ (by omega) (by omega) | exact hM.len _ (by omega) (by omega) | exact hM.corn _ (by omega) (by omega) | exact hM.say (by omega) (by omega) _ (by omega) (by omega) | exact hM.tone _ (by omega) (by omega)) (fun b62 => ?_)
      refine ev_iloadn_3 i226_65 ?_
      refine ev_virt2 i226_66 g226_66 rfl (by decide +kernel) (Nat.le_of_ble_eq_true rfl) (m_falls hA1 hH (by show (0 : Int) ≤ _; decide) hk (fun J h1 h2 => ?_))
      refine ev_ireturn i226_69 r226 ?_
      have hc : (0 ≤ n ∧ n < b.1) ∧ 0 ≤ a ∧ a < 4 := by omega
      simp only [if_pos hc] at hK
      subst c31
      exact hK J (fin J _ h1 h2).1 (fin J _ h1 h2).2
    · refine ew_sw (v := 1) i226_31 c31 (t := 70) (by decide) rfl ?_
      refine ev_aloadn_0 i226_70 ?_
      refine ev_aloadn_0 i226_71 ?_
      refine ew_getI i226_72 g226_72 rfl (by first | exact hB.2.2.1 _ (by omega) (by omega) | exact hH.2 | exact hM.men | exact hM.told | exact hM.road | exact hM.stand _ (by omega) (by omega) | exact hM.reach _ (by omega) (by omega) | exact hM.arm _ (by omega) (by omega) | exact hM.late _ (by omega) (by omega) | exact hM.len _ (by omega) (by omega) | exact hM.corn _ (by omega) (by omega) | exact hM.say (by omega) (by omega) _ (by omega) (by omega) | exact hM.tone _ (by omega) (by omega)) (fun b72 => ?_)
      refine ev_iloadn_3 i226_75 ?_
      refine ev_virt2 i226_76 g226_76 rfl (by decide +kernel) (Nat.le_of_ble_eq_true rfl) (m_sounds hA1 hH (by show (0 : Int) ≤ _; decide) hk (fun J h1 h2 => ?_))
      refine ev_ireturn i226_79 r226 ?_
      have hc : (0 ≤ n ∧ n < b.1) ∧ 0 ≤ a ∧ a < 4 := by omega
      simp only [if_pos hc] at hK
      subst c31
      exact hK J (fin J _ h1 h2).1 (fin J _ h1 h2).2
    · refine ew_sw (v := 2) i226_31 c31 (t := 80) (by decide) rfl ?_
      refine ev_aloadn_0 i226_80 ?_
      refine ev_aloadn_0 i226_81 ?_
      refine ew_getI i226_82 g226_82 rfl (by first | exact hB.2.2.1 _ (by omega) (by omega) | exact hH.2 | exact hM.men | exact hM.told | exact hM.road | exact hM.stand _ (by omega) (by omega) | exact hM.reach _ (by omega) (by omega) | exact hM.arm _ (by omega) (by omega) | exact hM.late _ (by omega) (by omega) | exact hM.len _ (by omega) (by omega) | exact hM.corn _ (by omega) (by omega) | exact hM.say (by omega) (by omega) _ (by omega) (by omega) | exact hM.tone _ (by omega) (by omega)) (fun b82 => ?_)
      refine ev_iloadn_3 i226_85 ?_
      refine ev_virt2 i226_86 g226_86 rfl (by decide +kernel) (Nat.le_of_ble_eq_true rfl) (m_waits hA1 hH (by show (0 : Int) ≤ _; decide) hk (fun J h1 h2 => ?_))
      refine ev_ireturn i226_89 r226 ?_
      have hc : (0 ≤ n ∧ n < b.1) ∧ 0 ≤ a ∧ a < 4 := by omega
      simp only [if_pos hc] at hK
      subst c31
      exact hK J (fin J _ h1 h2).1 (fin J _ h1 h2).2
    · refine ew_sw (v := 3) i226_31 c31 (t := 90) (by decide) rfl ?_
      refine ev_aloadn_0 i226_90 ?_
      refine ev_aloadn_0 i226_91 ?_
      refine ew_getI i226_92 g226_92 rfl (by first | exact hB.2.2.1 _ (by omega) (by omega) | exact hH.2 | exact hM.men | exact hM.told | exact hM.road | exact hM.stand _ (by omega) (by omega) | exact hM.reach _ (by omega) (by omega) | exact hM.arm _ (by omega) (by omega) | exact hM.late _ (by omega) (by omega) | exact hM.len _ (by omega) (by omega) | exact hM.corn _ (by omega) (by omega) | exact hM.say (by omega) (by omega) _ (by omega) (by omega) | exact hM.tone _ (by omega) (by omega)) (fun b92 => ?_)
      refine ev_iloadn_3 i226_95 ?_
      refine ev_virt2 i226_96 g226_96 rfl (by decide +kernel) (Nat.le_of_ble_eq_true rfl) (m_tells hA1 hH (by show (0 : Int) ≤ _; decide) hk (fun J h1 h2 => ?_))
      refine ev_ireturn i226_99 r226 ?_
      have hc : (0 ≤ n ∧ n < b.1) ∧ 0 ≤ a ∧ a < 4 := by omega
      simp only [if_pos hc] at hK
      subst c31
      exact hK J (fin J _ h1 h2).1 (fin J _ h1 h2).2
    · refine ew_tswD (t := 100) i226_31 (by omega) c31 (by decide) ?_
      refine ew_iconst i226_100 ?_
      refine ev_ireturn i226_101 r226 ?_
      rw [if_neg (by omega), if_neg (by omega)] at hK
      exact hK _ (fr_up (fr_up (fr_up (fr_rfl _ _) (by omega)) (by omega)) (by omega)) ⟨hB.1, hA1.1, hB.2.2.1, hA1.2⟩
  · refine ew_iconst i226_13 ?_
    refine ev_ireturn i226_14 r226 ?_
    rw [if_neg (by omega), if_neg (by omega)] at hK
    exact hK _ (fr_up (fr_rfl _ _) (by omega)) hB0
end AY
