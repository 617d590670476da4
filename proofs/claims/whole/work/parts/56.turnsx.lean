theorem i91_0 : ts_ins 91 0 = some (.iconst 0, 1, 0) := by decide +kernel
theorem i91_1 : ts_ins 91 1 = some (.istore 4, 3, 0) := by decide +kernel
theorem i91_3 : ts_ins 91 3 = some (.iconst 0, 4, 0) := by decide +kernel
theorem i91_4 : ts_ins 91 4 = some (.istore 5, 6, 0) := by decide +kernel
theorem i91_6 : ts_ins 91 6 = some (.iconst 0, 7, 0) := by decide +kernel
theorem i91_7 : ts_ins 91 7 = some (.istore 6, 9, 0) := by decide +kernel
theorem i91_9 : ts_ins 91 9 = some (.iconst 0, 10, 0) := by decide +kernel
theorem i91_10 : ts_ins 91 10 = some (.istore 7, 12, 0) := by decide +kernel
theorem i91_12 : ts_ins 91 12 = some (.iload 7, 14, 0) := by decide +kernel
theorem i91_14 : ts_ins 91 14 = some (.bipush 16, 16, 0) := by decide +kernel
theorem i91_16 : ts_ins 91 16 = some (.if_icmp .ge 120, 19, 136) := by decide +kernel
theorem i91_19 : ts_ins 91 19 = some (.aload_n 0, 20, 0) := by decide +kernel
theorem i91_20 : ts_ins 91 20 = some (.getfield 22, 23, 0) := by decide +kernel
theorem g91_20 : ts_fm 91 22 = some (10, 0, 2) := by decide +kernel
theorem i91_23 : ts_ins 91 23 = some (.iload_n 1, 24, 0) := by decide +kernel
theorem i91_24 : ts_ins 91 24 = some (.iload 7, 26, 0) := by decide +kernel
theorem i91_26 : ts_ins 91 26 = some (.invokevirtual 53, 29, 0) := by decide +kernel
theorem g91_26 : ts_cal (ts_mc 91) 53 = some (0, 26, 2) := by decide +kernel
theorem i91_29 : ts_ins 91 29 = some (.istore 8, 31, 0) := by decide +kernel
theorem i91_31 : ts_ins 91 31 = some (.aload_n 0, 32, 0) := by decide +kernel
theorem i91_32 : ts_ins 91 32 = some (.getfield 22, 35, 0) := by decide +kernel
theorem g91_32 : ts_fm 91 22 = some (10, 0, 2) := by decide +kernel
theorem i91_35 : ts_ins 91 35 = some (.iload_n 2, 36, 0) := by decide +kernel
theorem i91_36 : ts_ins 91 36 = some (.iload 7, 38, 0) := by decide +kernel
theorem i91_38 : ts_ins 91 38 = some (.invokevirtual 53, 41, 0) := by decide +kernel
theorem g91_38 : ts_cal (ts_mc 91) 53 = some (0, 26, 2) := by decide +kernel
theorem i91_41 : ts_ins 91 41 = some (.istore 9, 43, 0) := by decide +kernel
theorem i91_43 : ts_ins 91 43 = some (.iload 4, 45, 0) := by decide +kernel
theorem i91_45 : ts_ins 91 45 = some (.iload 8, 47, 0) := by decide +kernel
theorem i91_47 : ts_ins 91 47 = some (.ifCond .eq 21, 50, 68) := by decide +kernel
theorem i91_50 : ts_ins 91 50 = some (.iload 9, 52, 0) := by decide +kernel
theorem i91_52 : ts_ins 91 52 = some (.ifCond .ne 16, 55, 68) := by decide +kernel
theorem i91_55 : ts_ins 91 55 = some (.aload_n 0, 56, 0) := by decide +kernel
theorem i91_56 : ts_ins 91 56 = some (.getfield 22, 59, 0) := by decide +kernel
theorem g91_56 : ts_fm 91 22 = some (10, 0, 2) := by decide +kernel
theorem i91_59 : ts_ins 91 59 = some (.getfield 50, 62, 0) := by decide +kernel
theorem g91_59 : ts_fm 91 50 = some (3, 1, 2) := by decide +kernel
theorem i91_62 : ts_ins 91 62 = some (.iload 7, 64, 0) := by decide +kernel
theorem i91_64 : ts_ins 91 64 = some (.iaload, 65, 0) := by decide +kernel
theorem i91_65 : ts_ins 91 65 = some (.goto 4, 68, 69) := by decide +kernel
theorem i91_68 : ts_ins 91 68 = some (.iconst 0, 69, 0) := by decide +kernel
theorem i91_69 : ts_ins 91 69 = some (.iadd, 70, 0) := by decide +kernel
theorem i91_70 : ts_ins 91 70 = some (.istore 4, 72, 0) := by decide +kernel
theorem i91_72 : ts_ins 91 72 = some (.iload 5, 74, 0) := by decide +kernel
theorem i91_74 : ts_ins 91 74 = some (.iload 9, 76, 0) := by decide +kernel
theorem i91_76 : ts_ins 91 76 = some (.ifCond .eq 21, 79, 97) := by decide +kernel
theorem i91_79 : ts_ins 91 79 = some (.iload 8, 81, 0) := by decide +kernel
theorem i91_81 : ts_ins 91 81 = some (.ifCond .ne 16, 84, 97) := by decide +kernel
theorem i91_84 : ts_ins 91 84 = some (.aload_n 0, 85, 0) := by decide +kernel
theorem i91_85 : ts_ins 91 85 = some (.getfield 22, 88, 0) := by decide +kernel
theorem g91_85 : ts_fm 91 22 = some (10, 0, 2) := by decide +kernel
theorem i91_88 : ts_ins 91 88 = some (.getfield 50, 91, 0) := by decide +kernel
theorem g91_88 : ts_fm 91 50 = some (3, 1, 2) := by decide +kernel
theorem i91_91 : ts_ins 91 91 = some (.iload 7, 93, 0) := by decide +kernel
theorem i91_93 : ts_ins 91 93 = some (.iaload, 94, 0) := by decide +kernel
theorem i91_94 : ts_ins 91 94 = some (.goto 4, 97, 98) := by decide +kernel
theorem i91_97 : ts_ins 91 97 = some (.iconst 0, 98, 0) := by decide +kernel
theorem i91_98 : ts_ins 91 98 = some (.iadd, 99, 0) := by decide +kernel
theorem i91_99 : ts_ins 91 99 = some (.istore 5, 101, 0) := by decide +kernel
theorem i91_101 : ts_ins 91 101 = some (.iload 6, 103, 0) := by decide +kernel
theorem i91_103 : ts_ins 91 103 = some (.iload 8, 105, 0) := by decide +kernel
theorem i91_105 : ts_ins 91 105 = some (.ifCond .eq 21, 108, 126) := by decide +kernel
theorem i91_108 : ts_ins 91 108 = some (.iload 9, 110, 0) := by decide +kernel
theorem i91_110 : ts_ins 91 110 = some (.ifCond .eq 16, 113, 126) := by decide +kernel
theorem i91_113 : ts_ins 91 113 = some (.aload_n 0, 114, 0) := by decide +kernel
theorem i91_114 : ts_ins 91 114 = some (.getfield 22, 117, 0) := by decide +kernel
theorem g91_114 : ts_fm 91 22 = some (10, 0, 2) := by decide +kernel
theorem i91_117 : ts_ins 91 117 = some (.getfield 50, 120, 0) := by decide +kernel
theorem g91_117 : ts_fm 91 50 = some (3, 1, 2) := by decide +kernel
theorem i91_120 : ts_ins 91 120 = some (.iload 7, 122, 0) := by decide +kernel
theorem i91_122 : ts_ins 91 122 = some (.iaload, 123, 0) := by decide +kernel
theorem i91_123 : ts_ins 91 123 = some (.goto 4, 126, 127) := by decide +kernel
theorem i91_126 : ts_ins 91 126 = some (.iconst 0, 127, 0) := by decide +kernel
theorem i91_127 : ts_ins 91 127 = some (.iadd, 128, 0) := by decide +kernel
theorem i91_128 : ts_ins 91 128 = some (.istore 6, 130, 0) := by decide +kernel
theorem i91_130 : ts_ins 91 130 = some (.iinc 7 1, 133, 0) := by decide +kernel
theorem i91_133 : ts_ins 91 133 = some (.goto (-121), 136, 12) := by decide +kernel
theorem i91_136 : ts_ins 91 136 = some (.aload_n 0, 137, 0) := by decide +kernel
theorem i91_137 : ts_ins 91 137 = some (.bipush 16, 139, 0) := by decide +kernel
theorem i91_139 : ts_ins 91 139 = some (.putfield 19, 142, 0) := by decide +kernel
theorem g91_139 : ts_fmm 91 19 = some (10, 3, 0, false) := by decide +kernel
theorem i91_142 : ts_ins 91 142 = some (.aload_n 0, 143, 0) := by decide +kernel
theorem i91_143 : ts_ins 91 143 = some (.iload 5, 145, 0) := by decide +kernel
theorem i91_145 : ts_ins 91 145 = some (.iload 4, 147, 0) := by decide +kernel
theorem i91_147 : ts_ins 91 147 = some (.iload 6, 149, 0) := by decide +kernel
theorem i91_149 : ts_ins 91 149 = some (.iload_n 3, 150, 0) := by decide +kernel
theorem i91_150 : ts_ins 91 150 = some (.iconst 1, 151, 0) := by decide +kernel
theorem i91_151 : ts_ins 91 151 = some (.isub, 152, 0) := by decide +kernel
theorem i91_152 : ts_ins 91 152 = some (.invokestatic 60, 155, 0) := by decide +kernel
theorem g91_152 : ts_cal (ts_mc 91) 60 = some (1, 92, 4) := by decide +kernel
theorem i91_155 : ts_ins 91 155 = some (.ineg, 156, 0) := by decide +kernel
theorem i91_156 : ts_ins 91 156 = some (.putfield 15, 159, 0) := by decide +kernel
theorem g91_156 : ts_fmm 91 15 = some (10, 2, 0, false) := by decide +kernel
theorem i91_159 : ts_ins 91 159 = some (.iconst 0, 160, 0) := by decide +kernel
theorem i91_160 : ts_ins 91 160 = some (.istore 7, 162, 0) := by decide +kernel
theorem i91_162 : ts_ins 91 162 = some (.iload 7, 164, 0) := by decide +kernel
theorem i91_164 : ts_ins 91 164 = some (.bipush 16, 166, 0) := by decide +kernel
theorem i91_166 : ts_ins 91 166 = some (.if_icmp .ge 108, 169, 274) := by decide +kernel
theorem i91_169 : ts_ins 91 169 = some (.aload_n 0, 170, 0) := by decide +kernel
theorem i91_170 : ts_ins 91 170 = some (.getfield 22, 173, 0) := by decide +kernel
theorem g91_170 : ts_fm 91 22 = some (10, 0, 2) := by decide +kernel
theorem i91_173 : ts_ins 91 173 = some (.getfield 50, 176, 0) := by decide +kernel
theorem g91_173 : ts_fm 91 50 = some (3, 1, 2) := by decide +kernel
theorem i91_176 : ts_ins 91 176 = some (.iload 7, 178, 0) := by decide +kernel
theorem i91_178 : ts_ins 91 178 = some (.iaload, 179, 0) := by decide +kernel
theorem i91_179 : ts_ins 91 179 = some (.ifCond .le 89, 182, 268) := by decide +kernel
theorem i91_182 : ts_ins 91 182 = some (.aload_n 0, 183, 0) := by decide +kernel
theorem i91_183 : ts_ins 91 183 = some (.getfield 22, 186, 0) := by decide +kernel
theorem g91_183 : ts_fm 91 22 = some (10, 0, 2) := by decide +kernel
theorem i91_186 : ts_ins 91 186 = some (.iload_n 1, 187, 0) := by decide +kernel
theorem i91_187 : ts_ins 91 187 = some (.iload 7, 189, 0) := by decide +kernel
theorem i91_189 : ts_ins 91 189 = some (.invokevirtual 53, 192, 0) := by decide +kernel
theorem g91_189 : ts_cal (ts_mc 91) 53 = some (0, 26, 2) := by decide +kernel
theorem i91_192 : ts_ins 91 192 = some (.ifCond .eq 76, 195, 268) := by decide +kernel
theorem i91_195 : ts_ins 91 195 = some (.aload_n 0, 196, 0) := by decide +kernel
theorem i91_196 : ts_ins 91 196 = some (.getfield 22, 199, 0) := by decide +kernel
theorem g91_196 : ts_fm 91 22 = some (10, 0, 2) := by decide +kernel
theorem i91_199 : ts_ins 91 199 = some (.iload_n 2, 200, 0) := by decide +kernel
theorem i91_200 : ts_ins 91 200 = some (.iload 7, 202, 0) := by decide +kernel
theorem i91_202 : ts_ins 91 202 = some (.invokevirtual 53, 205, 0) := by decide +kernel
theorem g91_202 : ts_cal (ts_mc 91) 53 = some (0, 26, 2) := by decide +kernel
theorem i91_205 : ts_ins 91 205 = some (.istore 8, 207, 0) := by decide +kernel
theorem i91_207 : ts_ins 91 207 = some (.iconst 1, 208, 0) := by decide +kernel
theorem i91_208 : ts_ins 91 208 = some (.iload 8, 210, 0) := by decide +kernel
theorem i91_210 : ts_ins 91 210 = some (.ifCond .eq 20, 213, 230) := by decide +kernel
theorem i91_213 : ts_ins 91 213 = some (.iload 5, 215, 0) := by decide +kernel
theorem i91_215 : ts_ins 91 215 = some (.iload 4, 217, 0) := by decide +kernel
theorem i91_217 : ts_ins 91 217 = some (.iload 6, 219, 0) := by decide +kernel
theorem i91_219 : ts_ins 91 219 = some (.iconst 1, 220, 0) := by decide +kernel
theorem i91_220 : ts_ins 91 220 = some (.isub, 221, 0) := by decide +kernel
theorem i91_221 : ts_ins 91 221 = some (.iload_n 3, 222, 0) := by decide +kernel
theorem i91_222 : ts_ins 91 222 = some (.iconst 1, 223, 0) := by decide +kernel
theorem i91_223 : ts_ins 91 223 = some (.isub, 224, 0) := by decide +kernel
theorem i91_224 : ts_ins 91 224 = some (.invokestatic 60, 227, 0) := by decide +kernel
theorem g91_224 : ts_cal (ts_mc 91) 60 = some (1, 92, 4) := by decide +kernel
theorem i91_227 : ts_ins 91 227 = some (.goto 17, 230, 244) := by decide +kernel
theorem i91_230 : ts_ins 91 230 = some (.iload 5, 232, 0) := by decide +kernel
theorem i91_232 : ts_ins 91 232 = some (.iload 4, 234, 0) := by decide +kernel
theorem i91_234 : ts_ins 91 234 = some (.iconst 1, 235, 0) := by decide +kernel
theorem i91_235 : ts_ins 91 235 = some (.isub, 236, 0) := by decide +kernel
theorem i91_236 : ts_ins 91 236 = some (.iload 6, 238, 0) := by decide +kernel
theorem i91_238 : ts_ins 91 238 = some (.iload_n 3, 239, 0) := by decide +kernel
theorem i91_239 : ts_ins 91 239 = some (.iconst 1, 240, 0) := by decide +kernel
theorem i91_240 : ts_ins 91 240 = some (.isub, 241, 0) := by decide +kernel
theorem i91_241 : ts_ins 91 241 = some (.invokestatic 60, 244, 0) := by decide +kernel
theorem g91_241 : ts_cal (ts_mc 91) 60 = some (1, 92, 4) := by decide +kernel
theorem i91_244 : ts_ins 91 244 = some (.isub, 245, 0) := by decide +kernel
theorem i91_245 : ts_ins 91 245 = some (.istore 9, 247, 0) := by decide +kernel
theorem i91_247 : ts_ins 91 247 = some (.iload 9, 249, 0) := by decide +kernel
theorem i91_249 : ts_ins 91 249 = some (.aload_n 0, 250, 0) := by decide +kernel
theorem i91_250 : ts_ins 91 250 = some (.getfield 15, 253, 0) := by decide +kernel
theorem g91_250 : ts_fm 91 15 = some (10, 2, 0) := by decide +kernel
theorem i91_253 : ts_ins 91 253 = some (.if_icmp .le 15, 256, 268) := by decide +kernel
theorem i91_256 : ts_ins 91 256 = some (.aload_n 0, 257, 0) := by decide +kernel
theorem i91_257 : ts_ins 91 257 = some (.iload 9, 259, 0) := by decide +kernel
theorem i91_259 : ts_ins 91 259 = some (.putfield 15, 262, 0) := by decide +kernel
theorem g91_259 : ts_fmm 91 15 = some (10, 2, 0, false) := by decide +kernel
theorem i91_262 : ts_ins 91 262 = some (.aload_n 0, 263, 0) := by decide +kernel
theorem i91_263 : ts_ins 91 263 = some (.iload 7, 265, 0) := by decide +kernel
theorem i91_265 : ts_ins 91 265 = some (.putfield 19, 268, 0) := by decide +kernel
theorem g91_265 : ts_fmm 91 19 = some (10, 3, 0, false) := by decide +kernel
theorem i91_268 : ts_ins 91 268 = some (.iinc 7 1, 271, 0) := by decide +kernel
theorem i91_271 : ts_ins 91 271 = some (.goto (-109), 274, 162) := by decide +kernel
theorem i91_274 : ts_ins 91 274 = some (.return_, 275, 0) := by decide +kernel
theorem r91 : ts_rt 91 = (none, 0, 0) := by decide +kernel
theorem l91 : ts_ml 91 = 10 := by decide +kernel
theorem i118_0 : ts_ins 118 0 = some (.iload_n 1, 1, 0) := by decide +kernel
theorem i118_1 : ts_ins 118 1 = some (.ifCond .lt 20, 4, 21) := by decide +kernel
theorem i118_4 : ts_ins 118 4 = some (.iload_n 2, 5, 0) := by decide +kernel
theorem i118_5 : ts_ins 118 5 = some (.iconst 1, 6, 0) := by decide +kernel
theorem i118_6 : ts_ins 118 6 = some (.if_icmp .lt 15, 9, 21) := by decide +kernel
theorem i118_9 : ts_ins 118 9 = some (.iload_n 2, 10, 0) := by decide +kernel
theorem i118_10 : ts_ins 118 10 = some (.iconst 4, 11, 0) := by decide +kernel
theorem i118_11 : ts_ins 118 11 = some (.if_icmp .gt 10, 14, 21) := by decide +kernel
theorem i118_14 : ts_ins 118 14 = some (.iload_n 3, 15, 0) := by decide +kernel
theorem i118_15 : ts_ins 118 15 = some (.invokestatic 217, 18, 0) := by decide +kernel
theorem g118_15 : ts_cal (ts_mc 118) 217 = some (1, 140, 1) := by decide +kernel
theorem i118_18 : ts_ins 118 18 = some (.ifCond .ne 7, 21, 25) := by decide +kernel
theorem i118_21 : ts_ins 118 21 = some (.ldc_w 273, 24, 0) := by decide +kernel
theorem g118_21 : ts_lc (ts_mc 118) 273 = some (.int (-2000000000)) := by decide +kernel
theorem i118_24 : ts_ins 118 24 = some (.ireturn, 25, 0) := by decide +kernel
theorem i118_25 : ts_ins 118 25 = some (.iload_n 1, 26, 0) := by decide +kernel
theorem i118_26 : ts_ins 118 26 = some (.bipush 10, 28, 0) := by decide +kernel
theorem i118_28 : ts_ins 118 28 = some (.idiv, 29, 0) := by decide +kernel
theorem i118_29 : ts_ins 118 29 = some (.istore 4, 31, 0) := by decide +kernel
theorem i118_31 : ts_ins 118 31 = some (.iload_n 1, 32, 0) := by decide +kernel
theorem i118_32 : ts_ins 118 32 = some (.bipush 10, 34, 0) := by decide +kernel
theorem i118_34 : ts_ins 118 34 = some (.irem, 35, 0) := by decide +kernel
theorem i118_35 : ts_ins 118 35 = some (.istore 5, 37, 0) := by decide +kernel
theorem i118_37 : ts_ins 118 37 = some (.iload 4, 39, 0) := by decide +kernel
theorem i118_39 : ts_ins 118 39 = some (.iload 5, 41, 0) := by decide +kernel
theorem i118_41 : ts_ins 118 41 = some (.if_icmp .eq 27, 44, 68) := by decide +kernel
theorem i118_44 : ts_ins 118 44 = some (.aload_n 0, 45, 0) := by decide +kernel
theorem i118_45 : ts_ins 118 45 = some (.getfield 10, 48, 0) := by decide +kernel
theorem g118_45 : ts_fm 118 10 = some (11, 0, 2) := by decide +kernel
theorem i118_48 : ts_ins 118 48 = some (.iload 4, 50, 0) := by decide +kernel
theorem i118_50 : ts_ins 118 50 = some (.invokevirtual 157, 53, 0) := by decide +kernel
theorem g118_50 : ts_cal (ts_mc 118) 157 = some (0, 19, 1) := by decide +kernel
theorem i118_53 : ts_ins 118 53 = some (.ifCond .eq 15, 56, 68) := by decide +kernel
theorem i118_56 : ts_ins 118 56 = some (.aload_n 0, 57, 0) := by decide +kernel
theorem i118_57 : ts_ins 118 57 = some (.getfield 10, 60, 0) := by decide +kernel
theorem g118_57 : ts_fm 118 10 = some (11, 0, 2) := by decide +kernel
theorem i118_60 : ts_ins 118 60 = some (.iload 5, 62, 0) := by decide +kernel
theorem i118_62 : ts_ins 118 62 = some (.invokevirtual 157, 65, 0) := by decide +kernel
theorem g118_62 : ts_cal (ts_mc 118) 157 = some (0, 19, 1) := by decide +kernel
theorem i118_65 : ts_ins 118 65 = some (.ifCond .ne 7, 68, 72) := by decide +kernel
theorem i118_68 : ts_ins 118 68 = some (.ldc_w 273, 71, 0) := by decide +kernel
theorem g118_68 : ts_lc (ts_mc 118) 273 = some (.int (-2000000000)) := by decide +kernel
theorem i118_71 : ts_ins 118 71 = some (.ireturn, 72, 0) := by decide +kernel
theorem i118_72 : ts_ins 118 72 = some (.aload_n 0, 73, 0) := by decide +kernel
theorem i118_73 : ts_ins 118 73 = some (.getfield 49, 76, 0) := by decide +kernel
theorem g118_73 : ts_fm 118 49 = some (11, 5, 2) := by decide +kernel
theorem i118_76 : ts_ins 118 76 = some (.iload 4, 78, 0) := by decide +kernel
theorem i118_78 : ts_ins 118 78 = some (.iload 5, 80, 0) := by decide +kernel
theorem i118_80 : ts_ins 118 80 = some (.iload_n 2, 81, 0) := by decide +kernel
theorem i118_81 : ts_ins 118 81 = some (.invokevirtual 274, 84, 0) := by decide +kernel
theorem g118_81 : ts_cal (ts_mc 118) 274 = some (0, 91, 3) := by decide +kernel
theorem i118_84 : ts_ins 118 84 = some (.iload_n 3, 85, 0) := by decide +kernel
theorem i118_85 : ts_ins 118 85 = some (.ifCond .ne 13, 88, 98) := by decide +kernel
theorem i118_88 : ts_ins 118 88 = some (.aload_n 0, 89, 0) := by decide +kernel
theorem i118_89 : ts_ins 118 89 = some (.getfield 49, 92, 0) := by decide +kernel
theorem g118_89 : ts_fm 118 49 = some (11, 5, 2) := by decide +kernel
theorem i118_92 : ts_ins 118 92 = some (.getfield 277, 95, 0) := by decide +kernel
theorem g118_92 : ts_fm 118 277 = some (10, 2, 0) := by decide +kernel
theorem i118_95 : ts_ins 118 95 = some (.goto 10, 98, 105) := by decide +kernel
theorem i118_98 : ts_ins 118 98 = some (.aload_n 0, 99, 0) := by decide +kernel
theorem i118_99 : ts_ins 118 99 = some (.getfield 49, 102, 0) := by decide +kernel
theorem g118_99 : ts_fm 118 49 = some (11, 5, 2) := by decide +kernel
theorem i118_102 : ts_ins 118 102 = some (.getfield 280, 105, 0) := by decide +kernel
theorem g118_102 : ts_fm 118 280 = some (10, 3, 0) := by decide +kernel
theorem i118_105 : ts_ins 118 105 = some (.ireturn, 106, 0) := by decide +kernel
theorem r118 : ts_rt 118 = ((some .int), 0, 0) := by decide +kernel
theorem l118 : ts_ml 118 = 6 := by decide +kernel
/-! BY TURNS: the class -/
theorem zfd_at {n e : Int} {g : Int → Prop} [DecidablePred g] {q : Int} (hq : q < n) (hg : g q) : ∀ i : Int, i ≤ q → (∀ p, i ≤ p → p < q → ¬ g p) → zfd n g e i = q := by
  refine ts_ind n (fun i ih h0 h1 => ?_)
  rw [zfd_1 (by omega)]
  by_cases c : i = q
  · subst c; rw [if_pos hg]
  · rw [if_neg (h1 i (Int.le_refl _) (by omega))]
    exact ih (by omega) (by omega) (fun p p0 p1 => h1 p (by omega) p1)
section BX
variable {X : ts_X} {I J : Nat → Nat → Int32} {L : Nat → Nat → Int64} {sw : Bool} {K : Option Value → ts_H → Prop} {d : Nat} {f : ts_Fl}
/-- what holds of the best so far, of the first p planks -/
def BI (f : ts_Fl) (a b n p best pl : Int) : Prop := (pl = 16 ∧ best = g_rest f a b n ∧ ∀ q, 0 ≤ q → q < p → 0 < f_corn f q → f_can f a q → g_pl f a b n q ≤ best) ∨ (0 ≤ pl ∧ pl < p ∧ (0 < f_corn f pl ∧ f_can f a pl) ∧ g_pl f a b n pl = best ∧ g_rest f a b n < best ∧ (∀ q, 0 ≤ q → q < pl → 0 < f_corn f q → f_can f a q → g_pl f a b n q < best) ∧ ∀ q, 0 ≤ q → q < p → 0 < f_corn f q → f_can f a q → g_pl f a b n q ≤ best)
theorem BI_end {a b n best pl : Int} (hn : 1 ≤ n) (hc : ∀ p, 0 ≤ p → p < 16 → 0 ≤ f_corn f p) (h : BI f a b n 16 best pl) : best = g_byO f a b n 0 ∧ pl = g_byO f a b n 1 := by
  have e : pv f a b n.toNat 0 (f_corn f) = zwh 16 (fun p best => if f_can f a p then (if best < g_pl f a b n p then g_pl f a b n p else best) else best) 0 (g_rest f a b n) := by
    rw [show n.toNat = (n - 1).toNat + 1 from by omega]
    rfl
  obtain ⟨m1, m2, m3⟩ := zmxq (n := 16) (Q := fun p => f_can f a p) (v := fun p => g_pl f a b n p) 0 (g_rest f a b n)
  rw [← e] at m1 m2 m3
  have z : ∀ p, ¬ 0 < f_corn f p → g_pl f a b n p = g_rest f a b n := by
    intro p hp
    unfold g_pl g_rest
    rw [cm_0 hp, show tk (f_corn f) p = 0 from if_neg hp, Int.add_zero]
  have up : pv f a b n.toNat 0 (f_corn f) ≤ best := by
    rcases m3 with q | ⟨p, p0, p1, pq, q⟩
    · rw [q]; rcases h with h | h
      · omega
      · omega
    · rw [q]
      by_cases cp : 0 < f_corn f p
      · rcases h with h | h
        · exact h.2.2 p p0 p1 cp pq
        · exact h.2.2.2.2.2.2 p p0 p1 cp pq
      · have := z p cp
        rcases h with h | h
        · omega
        · omega
  have dn : best ≤ pv f a b n.toNat 0 (f_corn f) := by
    rcases h with h | h
    · omega
    · have := m2 pl h.1 h.2.1 h.2.2.1.2
      omega
  have eq : best = pv f a b n.toNat 0 (f_corn f) := by omega
  unfold g_byO
  refine ⟨by rw [if_pos rfl]; exact eq, ?_⟩
  rw [if_neg (by decide)]
  rcases h with h | h
  · rw [if_pos (by omega)]
    exact h.1
  · rw [if_neg (by omega)]
    refine (zfd_at h.2.1 ⟨h.2.2.1.2, by omega⟩ 0 h.1 (fun p p0 p1 r => ?_)).symm
    by_cases cp : 0 < f_corn f p
    · have := h.2.2.2.2.2.1 p p0 p1 cp r.1
      omega
    · have := z p cp
      have r2 := r.2
      omega
theorem x_gain4 {m y o t : Int} (ht : 0 ≤ t ∧ t ≤ 4) (hm : -5 ≤ m ∧ m ≤ 200) (hy : -5 ≤ y ∧ y ≤ 200) (ho : -5 ≤ o ∧ o ≤ 200) (hK : K (some (.int (zI (zgn t.toNat m y o)))) (I, L, ts_P0 sw, ts_S0)) : ts_Cal X (d + 5) 92 [.int (zI (m)), .int (zI (y)), .int (zI (o)), .int (zI (t))] (I, L, ts_P0 sw, ts_S0) K := by
  have h := x_gain (X := X) (I := I) (L := L) (sw := sw) (d := d + (4 - t.toNat)) t.toNat (by omega) m y o K hm hy ho hK
  rw [show d + (4 - t.toNat) + t.toNat + 1 = d + 5 from by omega, show ((t.toNat : Nat) : Int) = t from by omega] at h
  exact h
theorem zsq_r {Q : Int → Prop} [DecidablePred Q] {c : Int → Int} (hc : ∀ p, 0 ≤ p → p < 16 → 0 ≤ c p ∧ c p ≤ 9) : ∀ n : Nat, n ≤ 16 → 0 ≤ zsum (fun p => if Q p then c p else 0) n ∧ zsum (fun p => if Q p then c p else 0) n ≤ 144 := by
  intro n hn
  have := zsum_b (g := fun p => if Q p then c p else 0) (lo := 0) (hi := 9) (N := 16) (fun p p0 p1 => by have := hc p p0 p1; split <;> omega) n (by omega)
  omega
theorem x_playBest (hX : RX I f) {a b n : Int} (ha : 0 ≤ a ∧ a < f_men f) (hb : 0 ≤ b ∧ b < f_men f) (hn : 1 ≤ n ∧ n ≤ 4) (hK : ∀ J, fr ftu I J → rd (J 42 2) (-10) 10 (g_byO f a b n 0) → rd (J 42 3) 0 16 (g_byO f a b n 1) → K none (J, L, ts_P0 sw, ts_S0)) : ts_Cal X (d + 6) 91 [.ref 42, .int (zI (a)), .int (zI (b)), .int (zI (n))] (I, L, ts_P0 sw, ts_S0) K := by
  have b1 := hX.men.2
  have hc : ∀ p, 0 ≤ p → p < 16 → 0 ≤ f_corn f p ∧ f_corn f p ≤ 9 := fun p p0 p1 => (hX.corn p p0 p1).2
  have c0 : ∀ p, 0 ≤ p → p < 16 → 0 ≤ f_corn f p := fun p p0 p1 => (hc p p0 p1).1
  have rA := zsq_r (Q := qA f a b) hc 16 (by decide)
  have rB := zsq_r (Q := qA f b a) hc 16 (by decide)
  have rO := zsq_r (Q := qO f a b) hc 16 (by decide)
  have sA := zsq_pos (Q := qA f a b) c0
  have sO := zsq_pos (Q := qO f a b) c0
  have hrest : g_rest f a b n = -zgn (n - 1).toNat (zsq (qA f b a) (f_corn f)) (zsq (qA f a b) (f_corn f)) (zsq (qO f a b) (f_corn f)) := by
    unfold g_rest
    rw [pv_zgn _ _ _ (by decide) c0, if_neg (by decide)]
  have hpl : ∀ p, 0 ≤ p → p < 16 → 0 < f_corn f p → f_can f a p → g_pl f a b n p = 1 - (if f_can f b p then zgn (n - 1).toNat (zsq (qA f b a) (f_corn f)) (zsq (qA f a b) (f_corn f)) (zsq (qO f a b) (f_corn f) - 1) else zgn (n - 1).toNat (zsq (qA f b a) (f_corn f)) (zsq (qA f a b) (f_corn f) - 1) (zsq (qO f a b) (f_corn f))) := by
    intro p p0 p1 cp ap
    unfold g_pl
    have tk1 : tk (f_corn f) p = 1 := if_pos cp
    rw [pv_zgn _ _ _ (by decide) (cm_nn c0), if_neg (by decide), zsq_cm p0 p1, zsq_cm p0 p1, zsq_cm p0 p1, tk1]
    by_cases bp : f_can f b p
    · rw [if_neg (fun r : qA f b a p => r.2 ap), if_neg (fun r : qA f a b p => r.2 bp), if_pos (show qO f a b p from ⟨ap, bp⟩), if_pos bp, Int.sub_zero, Int.sub_zero]; omega
    · rw [if_neg (fun r : qA f b a p => r.2 ap), if_pos (show qA f a b p from ⟨ap, bp⟩), if_neg (fun r : qO f a b p => bp r.2), if_neg bp, Int.sub_zero, Int.sub_zero]; omega
  have gr := zgn_r (n - 1).toNat
  have second : ∀ p : Int, 0 ≤ p → p ≤ 16 → ∀ best pl J o o2, -10 ≤ best → best ≤ 10 → BI f a b n p best pl → fr ftu I J → rd (J 42 2) (-10) 10 best → rd (J 42 3) 0 16 pl → ts_Ev X (ts_Cal X (d + 5)) 91 ts_S0 K 162 [.ref 42, .int (zI (a)), .int (zI (b)), .int (zI (n)), .int (zI (zsq (qA f a b) (f_corn f))), .int (zI (zsq (qA f b a) (f_corn f))), .int (zI (zsq (qO f a b) (f_corn f))), .int (zI (p)), o, o2] [] (J, L, ts_P0 sw, ts_S0) := by
    refine ts_ind 16 (fun p ih p0 p1 best pl J o o2 r0 r1 hI hJ h2 h3 => ?_)
    have hX2 := hX.ftu hJ
    have g1 := gr (zsq (qA f b a) (f_corn f)) (zsq (qA f a b) (f_corn f)) (zsq (qO f a b) (f_corn f) - 1)
    have g2 := gr (zsq (qA f b a) (f_corn f)) (zsq (qA f a b) (f_corn f) - 1) (zsq (qO f a b) (f_corn f))
    have nx : ¬ (0 < f_corn f p ∧ f_can f a p) → BI f a b n (p + 1) best pl := by
      intro hno
      have hh : ∀ q, q < p + 1 → ¬ q = p → q < p := fun q _ _ => by omega
      rcases hI with h | h
      · refine Or.inl ⟨h.1, h.2.1, fun q q0 q1 qc qa => ?_⟩
        by_cases e : q = p
        · subst e; exact absurd ⟨qc, qa⟩ hno
        · exact h.2.2 q q0 (by omega) qc qa
      · refine Or.inr ⟨h.1, by omega, h.2.2.1, h.2.2.2.1, h.2.2.2.2.1, h.2.2.2.2.2.1, fun q q0 q1 qc qa => ?_⟩
        by_cases e : q = p
        · subst e; exact absurd ⟨qc, qa⟩ hno
        · exact h.2.2.2.2.2.2 q q0 (by omega) qc qa
    have more : (0 < f_corn f p ∧ f_can f a p) → best < g_pl f a b n p → BI f a b n (p + 1) (g_pl f a b n p) p := by
      intro hq hlt
      refine Or.inr ⟨p0, by omega, hq, rfl, ?_, ?_, ?_⟩
      · rcases hI with h | h
        · omega
        · omega
      · intro q q0 q1 qc qa
        rcases hI with h | h
        · have := h.2.2 q q0 q1 qc qa; omega
        · have := h.2.2.2.2.2.2 q q0 q1 qc qa; omega
      · intro q q0 q1 qc qa
        by_cases e : q = p
        · subst e; omega
        · rcases hI with h | h
          · have := h.2.2 q q0 (by omega) qc qa; omega
          · have := h.2.2.2.2.2.2 q q0 (by omega) qc qa; omega
    have less : (0 < f_corn f p ∧ f_can f a p) → g_pl f a b n p ≤ best → BI f a b n (p + 1) best pl := by
      intro hq hle
      rcases hI with h | h
      · refine Or.inl ⟨h.1, h.2.1, fun q q0 q1 qc qa => ?_⟩
        by_cases e : q = p
        · subst e; exact hle
        · exact h.2.2 q q0 (by omega) qc qa
      · refine Or.inr ⟨h.1, by omega, h.2.2.1, h.2.2.2.1, h.2.2.2.2.1, h.2.2.2.2.2.1, fun q q0 q1 qc qa => ?_⟩
        by_cases e : q = p
        · subst e; exact hle
        · exact h.2.2.2.2.2.2 q q0 (by omega) qc qa
    have cont : p < 16 → (0 < f_corn f p ∧ f_can f a p) → ∀ o, ts_Ev X (ts_Cal X (d + 5)) 91 ts_S0 K 247 [.ref 42, .int (zI (a)), .int (zI (b)), .int (zI (n)), .int (zI (zsq (qA f a b) (f_corn f))), .int (zI (zsq (qA f b a) (f_corn f))), .int (zI (zsq (qO f a b) (f_corn f))), .int (zI (p)), o, .int (zI (g_pl f a b n p))] [] (J, L, ts_P0 sw, ts_S0) := by
      intro hp16 hq o
      have gp : -10 ≤ g_pl f a b n p ∧ g_pl f a b n p ≤ 10 := by
        rw [hpl p p0 hp16 hq.1 hq.2]
        split <;> omega
      refine ev_iload_9 i91_247 ?_
      refine ev_aloadn_0 i91_249 ?_
      refine ew_getI i91_250 g91_250 rfl (by first | exact h2 | exact hX.men | exact hX.told | exact hX.road | exact hX.tone _ (by omega) (by omega) | exact hX.corn _ (by omega) (by omega) | exact hX.stand _ (by omega) (by omega) | exact hX.reach _ (by omega) (by omega) | exact hX.arm _ (by omega) (by omega) | exact hX.late _ (by omega) (by omega) | exact hX.len _ (by omega) (by omega) | exact hX.say (by omega) (by omega) _ (by omega) (by omega)) (fun b250 => ?_)
      refine ew_icmple i91_253 (by omega) (fun c253 => ?_) (fun c253 => ?_)
      · refine ew_iinc_7 i91_268 rfl ?_
        refine ev_goto i91_271 ?_
        first
        | exact ih (by omega) (by omega) (by omega) _ _ J _ _ r0 r1 (less hq c253) hJ h2 h3
        | exact ih (by omega) (by omega) (by omega) _ _ (ts_up (ts_up J 42 2 (zI (g_pl f a b n p))) 42 3 (zI p)) _ _ gp.1 gp.2 (more hq (by omega)) (fr_up (fr_up hJ (by omega)) (by omega)) (rd_zI gp) (rd_zI (by omega))
      · refine ev_aloadn_0 i91_256 ?_
        refine ev_iload_9 i91_257 ?_
        refine ev_putI i91_259 g91_259 rfl ?_
        refine ev_aloadn_0 i91_262 ?_
        refine ev_iload_7 i91_263 ?_
        refine ev_putI i91_265 g91_265 rfl ?_
        refine ew_iinc_7 i91_268 rfl ?_
        refine ev_goto i91_271 ?_
        first
        | exact ih (by omega) (by omega) (by omega) _ _ J _ _ r0 r1 (less hq c253) hJ h2 h3
        | exact ih (by omega) (by omega) (by omega) _ _ (ts_up (ts_up J 42 2 (zI (g_pl f a b n p))) 42 3 (zI p)) _ _ gp.1 gp.2 (more hq (by omega)) (fr_up (fr_up hJ (by omega)) (by omega)) (rd_zI gp) (rd_zI (by omega))
    refine ev_iload_7 i91_162 ?_
    refine ew_bipush i91_164 (by decide) ?_
    refine ew_icmpge i91_166 (by omega) (fun c166 => ?_) (fun c166 => ?_)
    · refine ev_return i91_274 r91 ?_
      obtain rfl : p = 16 := by omega
      obtain ⟨e1, e2⟩ := BI_end hn.1 c0 hI
      subst e1
      subst e2
      exact hK J hJ h2 h3
    · refine ev_aloadn_0 i91_169 ?_
      refine ev_getA i91_170 g91_170 rfl rfl (by decide) ?_
      refine ev_getA i91_173 g91_173 rfl rfl (by decide) ?_
      refine ev_iload_7 i91_176 ?_
      refine ew_iaload i91_178 rfl (by omega) (by omega) (by omega) (by first | exact h2 | exact hX2.corn _ (by omega) (by omega) | exact hX.men | exact hX.told | exact hX.road | exact hX.tone _ (by omega) (by omega) | exact hX.corn _ (by omega) (by omega) | exact hX.stand _ (by omega) (by omega) | exact hX.reach _ (by omega) (by omega) | exact hX.arm _ (by omega) (by omega) | exact hX.late _ (by omega) (by omega) | exact hX.len _ (by omega) (by omega) | exact hX.say (by omega) (by omega) _ (by omega) (by omega)) (fun b178 => ?_)
      refine ew_ifle i91_179 (by omega) (fun c179 => ?_) (fun c179 => ?_)
      · have hno := nx (fun r => by first | exact c192 r.2 | (have r1 := r.1; omega))
        refine ew_iinc_7 i91_268 rfl ?_
        refine ev_goto i91_271 ?_
        exact ih (by omega) (by omega) (by omega) _ _ J _ _ r0 r1 hno hJ h2 h3
      · refine ev_aloadn_0 i91_182 ?_
        refine ev_getA i91_183 g91_183 rfl rfl (by decide) ?_
        refine ev_iloadn_1 i91_186 ?_
        refine ev_iload_7 i91_187 ?_
        refine ev_virt2 i91_189 g91_189 rfl (by decide +kernel) (Nat.le_of_ble_eq_true rfl) (x_canStrike hX2 ha.1 ha.2 p0 (by omega) ?_)
        first
        | refine ew_ifeqB i91_192 (fun c192 => ?_) (fun c192 => ?_)
        | refine ew_ifeq i91_192 (by omega) (fun c192 => ?_) (fun c192 => ?_)
        · have hno := nx (fun r => by first | exact c192 r.2 | (have r1 := r.1; omega))
          refine ew_iinc_7 i91_268 rfl ?_
          refine ev_goto i91_271 ?_
          exact ih (by omega) (by omega) (by omega) _ _ J _ _ r0 r1 hno hJ h2 h3
        · refine ev_aloadn_0 i91_195 ?_
          refine ev_getA i91_196 g91_196 rfl rfl (by decide) ?_
          refine ev_iloadn_2 i91_199 ?_
          refine ev_iload_7 i91_200 ?_
          refine ev_virt2 i91_202 g91_202 rfl (by decide +kernel) (Nat.le_of_ble_eq_true rfl) (x_canStrike hX2 hb.1 hb.2 p0 (by omega) ?_)
          refine ev_istore_8 i91_205 rfl ?_
          refine ew_iconst i91_207 ?_
          refine ev_iload_8 i91_208 ?_
          first
          | refine ew_ifeqB i91_210 (fun c210 => ?_) (fun c210 => ?_)
          | refine ew_ifeq i91_210 (by omega) (fun c210 => ?_) (fun c210 => ?_)
          · refine ev_iload_5 i91_230 ?_
            refine ev_iload_4 i91_232 ?_
            refine ew_iconst i91_234 ?_
            refine ew_isub i91_235 ?_
            refine ev_iload_6 i91_236 ?_
            refine ev_iloadn_3 i91_238 ?_
            refine ew_iconst i91_239 ?_
            refine ew_isub i91_240 ?_
            refine ev_stat4 i91_241 g91_241 (by decide +kernel) (Nat.le_of_ble_eq_true rfl) (x_gain4 (by omega) (by unfold zsq; omega) (by have := sA.2.mpr; unfold zsq; omega) (by unfold zsq; omega) ?_)
            refine ew_isub i91_244 ?_
            refine ev_istore_9 i91_245 rfl ?_
            have e := cont (by omega) ⟨by omega, c192⟩ (.int (zI (if f_can f b p then 1 else 0)))
            rw [hpl p p0 (by omega) (by omega) c192] at e
            first
            | (rw [if_pos c210] at e ⊢
               rw [if_pos c210] at e
               exact e)
            | (rw [if_neg c210] at e ⊢
               rw [if_neg c210] at e
               exact e)
          · refine ev_iload_5 i91_213 ?_
            refine ev_iload_4 i91_215 ?_
            refine ev_iload_6 i91_217 ?_
            refine ew_iconst i91_219 ?_
            refine ew_isub i91_220 ?_
            refine ev_iloadn_3 i91_221 ?_
            refine ew_iconst i91_222 ?_
            refine ew_isub i91_223 ?_
            refine ev_stat4 i91_224 g91_224 (by decide +kernel) (Nat.le_of_ble_eq_true rfl) (x_gain4 (by omega) (by unfold zsq; omega) (by unfold zsq; omega) (by have := sO.2.mpr; unfold zsq; omega) ?_)
            refine ev_goto i91_227 ?_
            refine ew_isub i91_244 ?_
            refine ev_istore_9 i91_245 rfl ?_
            have e := cont (by omega) ⟨by omega, c192⟩ (.int (zI (if f_can f b p then 1 else 0)))
            rw [hpl p p0 (by omega) (by omega) c192] at e
            first
            | (rw [if_pos c210] at e ⊢
               rw [if_pos c210] at e
               exact e)
            | (rw [if_neg c210] at e ⊢
               rw [if_neg c210] at e
               exact e)
  have firstl : ∀ p : Int, 0 ≤ p → p ≤ 16 → ∀ o o2, ts_Ev X (ts_Cal X (d + 5)) 91 ts_S0 K 12 [.ref 42, .int (zI (a)), .int (zI (b)), .int (zI (n)), .int (zI (zsum (fun p => if qA f a b p then f_corn f p else 0) p.toNat)), .int (zI (zsum (fun p => if qA f b a p then f_corn f p else 0) p.toNat)), .int (zI (zsum (fun p => if qO f a b p then f_corn f p else 0) p.toNat)), .int (zI (p)), o, o2] [] (I, L, ts_P0 sw, ts_S0) := by
    refine ts_ind 16 (fun p ih p0 p1 o o2 => ?_)
    by_cases hp : p < 16
    · have e := ih hp (by omega) (by omega)
      rw [zsum_s p0, zsum_s p0, zsum_s p0] at e
      by_cases ap : f_can f a p
      · by_cases bp : f_can f b p
        · rw [if_neg (fun r : qA f a b p => r.2 bp), if_neg (fun r : qA f b a p => r.2 ap), if_pos (show qO f a b p from ⟨ap, bp⟩)] at e
          refine ev_iload_7 i91_12 ?_
          refine ew_bipush i91_14 (by decide) ?_
          refine ew_icmpge i91_16 (by omega) (fun c16 => ?_) (fun c16 => ?_)
          · exfalso; omega
          · refine ev_aloadn_0 i91_19 ?_
            refine ev_getA i91_20 g91_20 rfl rfl (by decide) ?_
            refine ev_iloadn_1 i91_23 ?_
            refine ev_iload_7 i91_24 ?_
            refine ev_virt2 i91_26 g91_26 rfl (by decide +kernel) (Nat.le_of_ble_eq_true rfl) (x_canStrike hX ha.1 ha.2 p0 hp ?_)
            rw [if_pos ap]
            refine ev_istore_8 i91_29 rfl ?_
            refine ev_aloadn_0 i91_31 ?_
            refine ev_getA i91_32 g91_32 rfl rfl (by decide) ?_
            refine ev_iloadn_2 i91_35 ?_
            refine ev_iload_7 i91_36 ?_
            refine ev_virt2 i91_38 g91_38 rfl (by decide +kernel) (Nat.le_of_ble_eq_true rfl) (x_canStrike hX hb.1 hb.2 p0 hp ?_)
            rw [if_pos bp]
            refine ev_istore_9 i91_41 rfl ?_
            refine ev_iload_4 i91_43 ?_
            refine ev_iload_8 i91_45 ?_
            first
            | refine ew_ifeqB i91_47 (fun c47 => ?_) (fun c47 => ?_)
            | refine ew_ifeq i91_47 (by omega) (fun c47 => ?_) (fun c47 => ?_)
            · refine ew_iconst i91_68 ?_
              refine ew_iadd i91_69 ?_
              refine ev_istore_4 i91_70 rfl ?_
              refine ev_iload_5 i91_72 ?_
              refine ev_iload_9 i91_74 ?_
              first
              | refine ew_ifeqB i91_76 (fun c76 => ?_) (fun c76 => ?_)
              | refine ew_ifeq i91_76 (by omega) (fun c76 => ?_) (fun c76 => ?_)
              · refine ew_iconst i91_97 ?_
                refine ew_iadd i91_98 ?_
                refine ev_istore_5 i91_99 rfl ?_
                refine ev_iload_6 i91_101 ?_
                refine ev_iload_8 i91_103 ?_
                first
                | refine ew_ifeqB i91_105 (fun c105 => ?_) (fun c105 => ?_)
                | refine ew_ifeq i91_105 (by omega) (fun c105 => ?_) (fun c105 => ?_)
                · refine ew_iconst i91_126 ?_
                  refine ew_iadd i91_127 ?_
                  refine ev_istore_6 i91_128 rfl ?_
                  refine ew_iinc_7 i91_130 rfl ?_
                  refine ev_goto i91_133 ?_
                  first | exact e _ _ | (exfalso; omega)
                · refine ev_iload_9 i91_108 ?_
                  first
                  | refine ew_ifeqB i91_110 (fun c110 => ?_) (fun c110 => ?_)
                  | refine ew_ifeq i91_110 (by omega) (fun c110 => ?_) (fun c110 => ?_)
                  · refine ew_iconst i91_126 ?_
                    refine ew_iadd i91_127 ?_
                    refine ev_istore_6 i91_128 rfl ?_
                    refine ew_iinc_7 i91_130 rfl ?_
                    refine ev_goto i91_133 ?_
                    first | exact e _ _ | (exfalso; omega)
                  · refine ev_aloadn_0 i91_113 ?_
                    refine ev_getA i91_114 g91_114 rfl rfl (by decide) ?_
                    refine ev_getA i91_117 g91_117 rfl rfl (by decide) ?_
                    refine ev_iload_7 i91_120 ?_
                    refine ew_iaload i91_122 rfl (by omega) (by omega) (by omega) (by first | exact hX.men | exact hX.told | exact hX.road | exact hX.tone _ (by omega) (by omega) | exact hX.corn _ (by omega) (by omega) | exact hX.stand _ (by omega) (by omega) | exact hX.reach _ (by omega) (by omega) | exact hX.arm _ (by omega) (by omega) | exact hX.late _ (by omega) (by omega) | exact hX.len _ (by omega) (by omega) | exact hX.say (by omega) (by omega) _ (by omega) (by omega)) (fun b122 => ?_)
                    refine ev_goto i91_123 ?_
                    refine ew_iadd i91_127 ?_
                    refine ev_istore_6 i91_128 rfl ?_
                    refine ew_iinc_7 i91_130 rfl ?_
                    refine ev_goto i91_133 ?_
                    first | exact e _ _ | (exfalso; omega)
              · refine ev_iload_8 i91_79 ?_
                first
                | refine ew_ifneB i91_81 (fun c81 => ?_) (fun c81 => ?_)
                | refine ew_ifne i91_81 (by omega) (fun c81 => ?_) (fun c81 => ?_)
                · refine ew_iconst i91_97 ?_
                  refine ew_iadd i91_98 ?_
                  refine ev_istore_5 i91_99 rfl ?_
                  refine ev_iload_6 i91_101 ?_
                  refine ev_iload_8 i91_103 ?_
                  first
                  | refine ew_ifeqB i91_105 (fun c105 => ?_) (fun c105 => ?_)
                  | refine ew_ifeq i91_105 (by omega) (fun c105 => ?_) (fun c105 => ?_)
                  · refine ew_iconst i91_126 ?_
                    refine ew_iadd i91_127 ?_
                    refine ev_istore_6 i91_128 rfl ?_
                    refine ew_iinc_7 i91_130 rfl ?_
                    refine ev_goto i91_133 ?_
                    first | exact e _ _ | (exfalso; omega)
                  · refine ev_iload_9 i91_108 ?_
                    first
                    | refine ew_ifeqB i91_110 (fun c110 => ?_) (fun c110 => ?_)
                    | refine ew_ifeq i91_110 (by omega) (fun c110 => ?_) (fun c110 => ?_)
                    · refine ew_iconst i91_126 ?_
                      refine ew_iadd i91_127 ?_
                      refine ev_istore_6 i91_128 rfl ?_
                      refine ew_iinc_7 i91_130 rfl ?_
                      refine ev_goto i91_133 ?_
                      first | exact e _ _ | (exfalso; omega)
                    · refine ev_aloadn_0 i91_113 ?_
                      refine ev_getA i91_114 g91_114 rfl rfl (by decide) ?_
                      refine ev_getA i91_117 g91_117 rfl rfl (by decide) ?_
                      refine ev_iload_7 i91_120 ?_
                      refine ew_iaload i91_122 rfl (by omega) (by omega) (by omega) (by first | exact hX.men | exact hX.told | exact hX.road | exact hX.tone _ (by omega) (by omega) | exact hX.corn _ (by omega) (by omega) | exact hX.stand _ (by omega) (by omega) | exact hX.reach _ (by omega) (by omega) | exact hX.arm _ (by omega) (by omega) | exact hX.late _ (by omega) (by omega) | exact hX.len _ (by omega) (by omega) | exact hX.say (by omega) (by omega) _ (by omega) (by omega)) (fun b122 => ?_)
                      refine ev_goto i91_123 ?_
                      refine ew_iadd i91_127 ?_
                      refine ev_istore_6 i91_128 rfl ?_
                      refine ew_iinc_7 i91_130 rfl ?_
                      refine ev_goto i91_133 ?_
                      first | exact e _ _ | (exfalso; omega)
                · refine ev_aloadn_0 i91_84 ?_
                  refine ev_getA i91_85 g91_85 rfl rfl (by decide) ?_
                  refine ev_getA i91_88 g91_88 rfl rfl (by decide) ?_
                  refine ev_iload_7 i91_91 ?_
                  refine ew_iaload i91_93 rfl (by omega) (by omega) (by omega) (by first | exact hX.men | exact hX.told | exact hX.road | exact hX.tone _ (by omega) (by omega) | exact hX.corn _ (by omega) (by omega) | exact hX.stand _ (by omega) (by omega) | exact hX.reach _ (by omega) (by omega) | exact hX.arm _ (by omega) (by omega) | exact hX.late _ (by omega) (by omega) | exact hX.len _ (by omega) (by omega) | exact hX.say (by omega) (by omega) _ (by omega) (by omega)) (fun b93 => ?_)
                  refine ev_goto i91_94 ?_
                  refine ew_iadd i91_98 ?_
                  refine ev_istore_5 i91_99 rfl ?_
                  refine ev_iload_6 i91_101 ?_
                  refine ev_iload_8 i91_103 ?_
                  first
                  | refine ew_ifeqB i91_105 (fun c105 => ?_) (fun c105 => ?_)
                  | refine ew_ifeq i91_105 (by omega) (fun c105 => ?_) (fun c105 => ?_)
                  · refine ew_iconst i91_126 ?_
                    refine ew_iadd i91_127 ?_
                    refine ev_istore_6 i91_128 rfl ?_
                    refine ew_iinc_7 i91_130 rfl ?_
                    refine ev_goto i91_133 ?_
                    first | exact e _ _ | (exfalso; omega)
                  · refine ev_iload_9 i91_108 ?_
                    first
                    | refine ew_ifeqB i91_110 (fun c110 => ?_) (fun c110 => ?_)
                    | refine ew_ifeq i91_110 (by omega) (fun c110 => ?_) (fun c110 => ?_)
                    · refine ew_iconst i91_126 ?_
                      refine ew_iadd i91_127 ?_
                      refine ev_istore_6 i91_128 rfl ?_
                      refine ew_iinc_7 i91_130 rfl ?_
                      refine ev_goto i91_133 ?_
                      first | exact e _ _ | (exfalso; omega)
                    · refine ev_aloadn_0 i91_113 ?_
                      refine ev_getA i91_114 g91_114 rfl rfl (by decide) ?_
                      refine ev_getA i91_117 g91_117 rfl rfl (by decide) ?_
                      refine ev_iload_7 i91_120 ?_
                      refine ew_iaload i91_122 rfl (by omega) (by omega) (by omega) (by first | exact hX.men | exact hX.told | exact hX.road | exact hX.tone _ (by omega) (by omega) | exact hX.corn _ (by omega) (by omega) | exact hX.stand _ (by omega) (by omega) | exact hX.reach _ (by omega) (by omega) | exact hX.arm _ (by omega) (by omega) | exact hX.late _ (by omega) (by omega) | exact hX.len _ (by omega) (by omega) | exact hX.say (by omega) (by omega) _ (by omega) (by omega)) (fun b122 => ?_)
                      refine ev_goto i91_123 ?_
                      refine ew_iadd i91_127 ?_
                      refine ev_istore_6 i91_128 rfl ?_
                      refine ew_iinc_7 i91_130 rfl ?_
                      refine ev_goto i91_133 ?_
                      first | exact e _ _ | (exfalso; omega)
            · refine ev_iload_9 i91_50 ?_
              first
              | refine ew_ifneB i91_52 (fun c52 => ?_) (fun c52 => ?_)
              | refine ew_ifne i91_52 (by omega) (fun c52 => ?_) (fun c52 => ?_)
              · refine ew_iconst i91_68 ?_
                refine ew_iadd i91_69 ?_
                refine ev_istore_4 i91_70 rfl ?_
                refine ev_iload_5 i91_72 ?_
                refine ev_iload_9 i91_74 ?_
                first
                | refine ew_ifeqB i91_76 (fun c76 => ?_) (fun c76 => ?_)
                | refine ew_ifeq i91_76 (by omega) (fun c76 => ?_) (fun c76 => ?_)
                · refine ew_iconst i91_97 ?_
                  refine ew_iadd i91_98 ?_
                  refine ev_istore_5 i91_99 rfl ?_
                  refine ev_iload_6 i91_101 ?_
                  refine ev_iload_8 i91_103 ?_
                  first
                  | refine ew_ifeqB i91_105 (fun c105 => ?_) (fun c105 => ?_)
                  | refine ew_ifeq i91_105 (by omega) (fun c105 => ?_) (fun c105 => ?_)
                  · refine ew_iconst i91_126 ?_
                    refine ew_iadd i91_127 ?_
                    refine ev_istore_6 i91_128 rfl ?_
                    refine ew_iinc_7 i91_130 rfl ?_
                    refine ev_goto i91_133 ?_
                    first | exact e _ _ | (exfalso; omega)
                  · refine ev_iload_9 i91_108 ?_
                    first
                    | refine ew_ifeqB i91_110 (fun c110 => ?_) (fun c110 => ?_)
                    | refine ew_ifeq i91_110 (by omega) (fun c110 => ?_) (fun c110 => ?_)
                    · refine ew_iconst i91_126 ?_
                      refine ew_iadd i91_127 ?_
                      refine ev_istore_6 i91_128 rfl ?_
                      refine ew_iinc_7 i91_130 rfl ?_
                      refine ev_goto i91_133 ?_
                      first | exact e _ _ | (exfalso; omega)
                    · refine ev_aloadn_0 i91_113 ?_
                      refine ev_getA i91_114 g91_114 rfl rfl (by decide) ?_
                      refine ev_getA i91_117 g91_117 rfl rfl (by decide) ?_
                      refine ev_iload_7 i91_120 ?_
                      refine ew_iaload i91_122 rfl (by omega) (by omega) (by omega) (by first | exact hX.men | exact hX.told | exact hX.road | exact hX.tone _ (by omega) (by omega) | exact hX.corn _ (by omega) (by omega) | exact hX.stand _ (by omega) (by omega) | exact hX.reach _ (by omega) (by omega) | exact hX.arm _ (by omega) (by omega) | exact hX.late _ (by omega) (by omega) | exact hX.len _ (by omega) (by omega) | exact hX.say (by omega) (by omega) _ (by omega) (by omega)) (fun b122 => ?_)
                      refine ev_goto i91_123 ?_
                      refine ew_iadd i91_127 ?_
                      refine ev_istore_6 i91_128 rfl ?_
                      refine ew_iinc_7 i91_130 rfl ?_
                      refine ev_goto i91_133 ?_
                      first | exact e _ _ | (exfalso; omega)
                · refine ev_iload_8 i91_79 ?_
                  first
                  | refine ew_ifneB i91_81 (fun c81 => ?_) (fun c81 => ?_)
                  | refine ew_ifne i91_81 (by omega) (fun c81 => ?_) (fun c81 => ?_)
                  · refine ew_iconst i91_97 ?_
                    refine ew_iadd i91_98 ?_
                    refine ev_istore_5 i91_99 rfl ?_
                    refine ev_iload_6 i91_101 ?_
                    refine ev_iload_8 i91_103 ?_
                    first
                    | refine ew_ifeqB i91_105 (fun c105 => ?_) (fun c105 => ?_)
                    | refine ew_ifeq i91_105 (by omega) (fun c105 => ?_) (fun c105 => ?_)
                    · refine ew_iconst i91_126 ?_
                      refine ew_iadd i91_127 ?_
                      refine ev_istore_6 i91_128 rfl ?_
                      refine ew_iinc_7 i91_130 rfl ?_
                      refine ev_goto i91_133 ?_
                      first | exact e _ _ | (exfalso; omega)
                    · refine ev_iload_9 i91_108 ?_
                      first
                      | refine ew_ifeqB i91_110 (fun c110 => ?_) (fun c110 => ?_)
                      | refine ew_ifeq i91_110 (by omega) (fun c110 => ?_) (fun c110 => ?_)
                      · refine ew_iconst i91_126 ?_
                        refine ew_iadd i91_127 ?_
                        refine ev_istore_6 i91_128 rfl ?_
                        refine ew_iinc_7 i91_130 rfl ?_
                        refine ev_goto i91_133 ?_
                        first | exact e _ _ | (exfalso; omega)
                      · refine ev_aloadn_0 i91_113 ?_
                        refine ev_getA i91_114 g91_114 rfl rfl (by decide) ?_
                        refine ev_getA i91_117 g91_117 rfl rfl (by decide) ?_
                        refine ev_iload_7 i91_120 ?_
                        refine ew_iaload i91_122 rfl (by omega) (by omega) (by omega) (by first | exact hX.men | exact hX.told | exact hX.road | exact hX.tone _ (by omega) (by omega) | exact hX.corn _ (by omega) (by omega) | exact hX.stand _ (by omega) (by omega) | exact hX.reach _ (by omega) (by omega) | exact hX.arm _ (by omega) (by omega) | exact hX.late _ (by omega) (by omega) | exact hX.len _ (by omega) (by omega) | exact hX.say (by omega) (by omega) _ (by omega) (by omega)) (fun b122 => ?_)
                        refine ev_goto i91_123 ?_
                        refine ew_iadd i91_127 ?_
                        refine ev_istore_6 i91_128 rfl ?_
                        refine ew_iinc_7 i91_130 rfl ?_
                        refine ev_goto i91_133 ?_
                        first | exact e _ _ | (exfalso; omega)
                  · refine ev_aloadn_0 i91_84 ?_
                    refine ev_getA i91_85 g91_85 rfl rfl (by decide) ?_
                    refine ev_getA i91_88 g91_88 rfl rfl (by decide) ?_
                    refine ev_iload_7 i91_91 ?_
                    refine ew_iaload i91_93 rfl (by omega) (by omega) (by omega) (by first | exact hX.men | exact hX.told | exact hX.road | exact hX.tone _ (by omega) (by omega) | exact hX.corn _ (by omega) (by omega) | exact hX.stand _ (by omega) (by omega) | exact hX.reach _ (by omega) (by omega) | exact hX.arm _ (by omega) (by omega) | exact hX.late _ (by omega) (by omega) | exact hX.len _ (by omega) (by omega) | exact hX.say (by omega) (by omega) _ (by omega) (by omega)) (fun b93 => ?_)
                    refine ev_goto i91_94 ?_
                    refine ew_iadd i91_98 ?_
                    refine ev_istore_5 i91_99 rfl ?_
                    refine ev_iload_6 i91_101 ?_
                    refine ev_iload_8 i91_103 ?_
                    first
                    | refine ew_ifeqB i91_105 (fun c105 => ?_) (fun c105 => ?_)
                    | refine ew_ifeq i91_105 (by omega) (fun c105 => ?_) (fun c105 => ?_)
                    · refine ew_iconst i91_126 ?_
                      refine ew_iadd i91_127 ?_
                      refine ev_istore_6 i91_128 rfl ?_
                      refine ew_iinc_7 i91_130 rfl ?_
                      refine ev_goto i91_133 ?_
                      first | exact e _ _ | (exfalso; omega)
                    · refine ev_iload_9 i91_108 ?_
                      first
                      | refine ew_ifeqB i91_110 (fun c110 => ?_) (fun c110 => ?_)
                      | refine ew_ifeq i91_110 (by omega) (fun c110 => ?_) (fun c110 => ?_)
                      · refine ew_iconst i91_126 ?_
                        refine ew_iadd i91_127 ?_
                        refine ev_istore_6 i91_128 rfl ?_
                        refine ew_iinc_7 i91_130 rfl ?_
                        refine ev_goto i91_133 ?_
                        first | exact e _ _ | (exfalso; omega)
                      · refine ev_aloadn_0 i91_113 ?_
                        refine ev_getA i91_114 g91_114 rfl rfl (by decide) ?_
                        refine ev_getA i91_117 g91_117 rfl rfl (by decide) ?_
                        refine ev_iload_7 i91_120 ?_
                        refine ew_iaload i91_122 rfl (by omega) (by omega) (by omega) (by first | exact hX.men | exact hX.told | exact hX.road | exact hX.tone _ (by omega) (by omega) | exact hX.corn _ (by omega) (by omega) | exact hX.stand _ (by omega) (by omega) | exact hX.reach _ (by omega) (by omega) | exact hX.arm _ (by omega) (by omega) | exact hX.late _ (by omega) (by omega) | exact hX.len _ (by omega) (by omega) | exact hX.say (by omega) (by omega) _ (by omega) (by omega)) (fun b122 => ?_)
                        refine ev_goto i91_123 ?_
                        refine ew_iadd i91_127 ?_
                        refine ev_istore_6 i91_128 rfl ?_
                        refine ew_iinc_7 i91_130 rfl ?_
                        refine ev_goto i91_133 ?_
                        first | exact e _ _ | (exfalso; omega)
              · refine ev_aloadn_0 i91_55 ?_
                refine ev_getA i91_56 g91_56 rfl rfl (by decide) ?_
                refine ev_getA i91_59 g91_59 rfl rfl (by decide) ?_
                refine ev_iload_7 i91_62 ?_
                refine ew_iaload i91_64 rfl (by omega) (by omega) (by omega) (by first | exact hX.men | exact hX.told | exact hX.road | exact hX.tone _ (by omega) (by omega) | exact hX.corn _ (by omega) (by omega) | exact hX.stand _ (by omega) (by omega) | exact hX.reach _ (by omega) (by omega) | exact hX.arm _ (by omega) (by omega) | exact hX.late _ (by omega) (by omega) | exact hX.len _ (by omega) (by omega) | exact hX.say (by omega) (by omega) _ (by omega) (by omega)) (fun b64 => ?_)
                refine ev_goto i91_65 ?_
                refine ew_iadd i91_69 ?_
                refine ev_istore_4 i91_70 rfl ?_
                refine ev_iload_5 i91_72 ?_
                refine ev_iload_9 i91_74 ?_
                first
                | refine ew_ifeqB i91_76 (fun c76 => ?_) (fun c76 => ?_)
                | refine ew_ifeq i91_76 (by omega) (fun c76 => ?_) (fun c76 => ?_)
                · refine ew_iconst i91_97 ?_
                  refine ew_iadd i91_98 ?_
                  refine ev_istore_5 i91_99 rfl ?_
                  refine ev_iload_6 i91_101 ?_
                  refine ev_iload_8 i91_103 ?_
                  first
                  | refine ew_ifeqB i91_105 (fun c105 => ?_) (fun c105 => ?_)
                  | refine ew_ifeq i91_105 (by omega) (fun c105 => ?_) (fun c105 => ?_)
                  · refine ew_iconst i91_126 ?_
                    refine ew_iadd i91_127 ?_
                    refine ev_istore_6 i91_128 rfl ?_
                    refine ew_iinc_7 i91_130 rfl ?_
                    refine ev_goto i91_133 ?_
                    first | exact e _ _ | (exfalso; omega)
                  · refine ev_iload_9 i91_108 ?_
                    first
                    | refine ew_ifeqB i91_110 (fun c110 => ?_) (fun c110 => ?_)
                    | refine ew_ifeq i91_110 (by omega) (fun c110 => ?_) (fun c110 => ?_)
                    · refine ew_iconst i91_126 ?_
                      refine ew_iadd i91_127 ?_
                      refine ev_istore_6 i91_128 rfl ?_
                      refine ew_iinc_7 i91_130 rfl ?_
                      refine ev_goto i91_133 ?_
                      first | exact e _ _ | (exfalso; omega)
                    · refine ev_aloadn_0 i91_113 ?_
                      refine ev_getA i91_114 g91_114 rfl rfl (by decide) ?_
                      refine ev_getA i91_117 g91_117 rfl rfl (by decide) ?_
                      refine ev_iload_7 i91_120 ?_
                      refine ew_iaload i91_122 rfl (by omega) (by omega) (by omega) (by first | exact hX.men | exact hX.told | exact hX.road | exact hX.tone _ (by omega) (by omega) | exact hX.corn _ (by omega) (by omega) | exact hX.stand _ (by omega) (by omega) | exact hX.reach _ (by omega) (by omega) | exact hX.arm _ (by omega) (by omega) | exact hX.late _ (by omega) (by omega) | exact hX.len _ (by omega) (by omega) | exact hX.say (by omega) (by omega) _ (by omega) (by omega)) (fun b122 => ?_)
                      refine ev_goto i91_123 ?_
                      refine ew_iadd i91_127 ?_
                      refine ev_istore_6 i91_128 rfl ?_
                      refine ew_iinc_7 i91_130 rfl ?_
                      refine ev_goto i91_133 ?_
                      first | exact e _ _ | (exfalso; omega)
                · refine ev_iload_8 i91_79 ?_
                  first
                  | refine ew_ifneB i91_81 (fun c81 => ?_) (fun c81 => ?_)
                  | refine ew_ifne i91_81 (by omega) (fun c81 => ?_) (fun c81 => ?_)
                  · refine ew_iconst i91_97 ?_
                    refine ew_iadd i91_98 ?_
                    refine ev_istore_5 i91_99 rfl ?_
                    refine ev_iload_6 i91_101 ?_
                    refine ev_iload_8 i91_103 ?_
                    first
                    | refine ew_ifeqB i91_105 (fun c105 => ?_) (fun c105 => ?_)
                    | refine ew_ifeq i91_105 (by omega) (fun c105 => ?_) (fun c105 => ?_)
                    · refine ew_iconst i91_126 ?_
                      refine ew_iadd i91_127 ?_
                      refine ev_istore_6 i91_128 rfl ?_
                      refine ew_iinc_7 i91_130 rfl ?_
                      refine ev_goto i91_133 ?_
                      first | exact e _ _ | (exfalso; omega)
                    · refine ev_iload_9 i91_108 ?_
                      first
                      | refine ew_ifeqB i91_110 (fun c110 => ?_) (fun c110 => ?_)
                      | refine ew_ifeq i91_110 (by omega) (fun c110 => ?_) (fun c110 => ?_)
                      · refine ew_iconst i91_126 ?_
                        refine ew_iadd i91_127 ?_
                        refine ev_istore_6 i91_128 rfl ?_
                        refine ew_iinc_7 i91_130 rfl ?_
                        refine ev_goto i91_133 ?_
                        first | exact e _ _ | (exfalso; omega)
                      · refine ev_aloadn_0 i91_113 ?_
                        refine ev_getA i91_114 g91_114 rfl rfl (by decide) ?_
                        refine ev_getA i91_117 g91_117 rfl rfl (by decide) ?_
                        refine ev_iload_7 i91_120 ?_
                        refine ew_iaload i91_122 rfl (by omega) (by omega) (by omega) (by first | exact hX.men | exact hX.told | exact hX.road | exact hX.tone _ (by omega) (by omega) | exact hX.corn _ (by omega) (by omega) | exact hX.stand _ (by omega) (by omega) | exact hX.reach _ (by omega) (by omega) | exact hX.arm _ (by omega) (by omega) | exact hX.late _ (by omega) (by omega) | exact hX.len _ (by omega) (by omega) | exact hX.say (by omega) (by omega) _ (by omega) (by omega)) (fun b122 => ?_)
                        refine ev_goto i91_123 ?_
                        refine ew_iadd i91_127 ?_
                        refine ev_istore_6 i91_128 rfl ?_
                        refine ew_iinc_7 i91_130 rfl ?_
                        refine ev_goto i91_133 ?_
                        first | exact e _ _ | (exfalso; omega)
                  · refine ev_aloadn_0 i91_84 ?_
                    refine ev_getA i91_85 g91_85 rfl rfl (by decide) ?_
                    refine ev_getA i91_88 g91_88 rfl rfl (by decide) ?_
                    refine ev_iload_7 i91_91 ?_
                    refine ew_iaload i91_93 rfl (by omega) (by omega) (by omega) (by first | exact hX.men | exact hX.told | exact hX.road | exact hX.tone _ (by omega) (by omega) | exact hX.corn _ (by omega) (by omega) | exact hX.stand _ (by omega) (by omega) | exact hX.reach _ (by omega) (by omega) | exact hX.arm _ (by omega) (by omega) | exact hX.late _ (by omega) (by omega) | exact hX.len _ (by omega) (by omega) | exact hX.say (by omega) (by omega) _ (by omega) (by omega)) (fun b93 => ?_)
                    refine ev_goto i91_94 ?_
                    refine ew_iadd i91_98 ?_
                    refine ev_istore_5 i91_99 rfl ?_
                    refine ev_iload_6 i91_101 ?_
                    refine ev_iload_8 i91_103 ?_
                    first
                    | refine ew_ifeqB i91_105 (fun c105 => ?_) (fun c105 => ?_)
                    | refine ew_ifeq i91_105 (by omega) (fun c105 => ?_) (fun c105 => ?_)
                    · refine ew_iconst i91_126 ?_
                      refine ew_iadd i91_127 ?_
                      refine ev_istore_6 i91_128 rfl ?_
                      refine ew_iinc_7 i91_130 rfl ?_
                      refine ev_goto i91_133 ?_
                      first | exact e _ _ | (exfalso; omega)
                    · refine ev_iload_9 i91_108 ?_
                      first
                      | refine ew_ifeqB i91_110 (fun c110 => ?_) (fun c110 => ?_)
                      | refine ew_ifeq i91_110 (by omega) (fun c110 => ?_) (fun c110 => ?_)
                      · refine ew_iconst i91_126 ?_
                        refine ew_iadd i91_127 ?_
                        refine ev_istore_6 i91_128 rfl ?_
                        refine ew_iinc_7 i91_130 rfl ?_
                        refine ev_goto i91_133 ?_
                        first | exact e _ _ | (exfalso; omega)
                      · refine ev_aloadn_0 i91_113 ?_
                        refine ev_getA i91_114 g91_114 rfl rfl (by decide) ?_
                        refine ev_getA i91_117 g91_117 rfl rfl (by decide) ?_
                        refine ev_iload_7 i91_120 ?_
                        refine ew_iaload i91_122 rfl (by omega) (by omega) (by omega) (by first | exact hX.men | exact hX.told | exact hX.road | exact hX.tone _ (by omega) (by omega) | exact hX.corn _ (by omega) (by omega) | exact hX.stand _ (by omega) (by omega) | exact hX.reach _ (by omega) (by omega) | exact hX.arm _ (by omega) (by omega) | exact hX.late _ (by omega) (by omega) | exact hX.len _ (by omega) (by omega) | exact hX.say (by omega) (by omega) _ (by omega) (by omega)) (fun b122 => ?_)
                        refine ev_goto i91_123 ?_
                        refine ew_iadd i91_127 ?_
                        refine ev_istore_6 i91_128 rfl ?_
                        refine ew_iinc_7 i91_130 rfl ?_
                        refine ev_goto i91_133 ?_
                        first | exact e _ _ | (exfalso; omega)
        · rw [if_pos (show qA f a b p from ⟨ap, bp⟩), if_neg (fun r : qA f b a p => bp r.1), if_neg (fun r : qO f a b p => bp r.2)] at e
          refine ev_iload_7 i91_12 ?_
          refine ew_bipush i91_14 (by decide) ?_
          refine ew_icmpge i91_16 (by omega) (fun c16 => ?_) (fun c16 => ?_)
          · exfalso; omega
          · refine ev_aloadn_0 i91_19 ?_
            refine ev_getA i91_20 g91_20 rfl rfl (by decide) ?_
            refine ev_iloadn_1 i91_23 ?_
            refine ev_iload_7 i91_24 ?_
            refine ev_virt2 i91_26 g91_26 rfl (by decide +kernel) (Nat.le_of_ble_eq_true rfl) (x_canStrike hX ha.1 ha.2 p0 hp ?_)
            rw [if_pos ap]
            refine ev_istore_8 i91_29 rfl ?_
            refine ev_aloadn_0 i91_31 ?_
            refine ev_getA i91_32 g91_32 rfl rfl (by decide) ?_
            refine ev_iloadn_2 i91_35 ?_
            refine ev_iload_7 i91_36 ?_
            refine ev_virt2 i91_38 g91_38 rfl (by decide +kernel) (Nat.le_of_ble_eq_true rfl) (x_canStrike hX hb.1 hb.2 p0 hp ?_)
            rw [if_neg bp]
            refine ev_istore_9 i91_41 rfl ?_
            refine ev_iload_4 i91_43 ?_
            refine ev_iload_8 i91_45 ?_
            first
            | refine ew_ifeqB i91_47 (fun c47 => ?_) (fun c47 => ?_)
            | refine ew_ifeq i91_47 (by omega) (fun c47 => ?_) (fun c47 => ?_)
            · refine ew_iconst i91_68 ?_
              refine ew_iadd i91_69 ?_
              refine ev_istore_4 i91_70 rfl ?_
              refine ev_iload_5 i91_72 ?_
              refine ev_iload_9 i91_74 ?_
              first
              | refine ew_ifeqB i91_76 (fun c76 => ?_) (fun c76 => ?_)
              | refine ew_ifeq i91_76 (by omega) (fun c76 => ?_) (fun c76 => ?_)
              · refine ew_iconst i91_97 ?_
                refine ew_iadd i91_98 ?_
                refine ev_istore_5 i91_99 rfl ?_
                refine ev_iload_6 i91_101 ?_
                refine ev_iload_8 i91_103 ?_
                first
                | refine ew_ifeqB i91_105 (fun c105 => ?_) (fun c105 => ?_)
                | refine ew_ifeq i91_105 (by omega) (fun c105 => ?_) (fun c105 => ?_)
                · refine ew_iconst i91_126 ?_
                  refine ew_iadd i91_127 ?_
                  refine ev_istore_6 i91_128 rfl ?_
                  refine ew_iinc_7 i91_130 rfl ?_
                  refine ev_goto i91_133 ?_
                  first | exact e _ _ | (exfalso; omega)
                · refine ev_iload_9 i91_108 ?_
                  first
                  | refine ew_ifeqB i91_110 (fun c110 => ?_) (fun c110 => ?_)
                  | refine ew_ifeq i91_110 (by omega) (fun c110 => ?_) (fun c110 => ?_)
                  · refine ew_iconst i91_126 ?_
                    refine ew_iadd i91_127 ?_
                    refine ev_istore_6 i91_128 rfl ?_
                    refine ew_iinc_7 i91_130 rfl ?_
                    refine ev_goto i91_133 ?_
                    first | exact e _ _ | (exfalso; omega)
                  · refine ev_aloadn_0 i91_113 ?_
                    refine ev_getA i91_114 g91_114 rfl rfl (by decide) ?_
                    refine ev_getA i91_117 g91_117 rfl rfl (by decide) ?_
                    refine ev_iload_7 i91_120 ?_
                    refine ew_iaload i91_122 rfl (by omega) (by omega) (by omega) (by first | exact hX.men | exact hX.told | exact hX.road | exact hX.tone _ (by omega) (by omega) | exact hX.corn _ (by omega) (by omega) | exact hX.stand _ (by omega) (by omega) | exact hX.reach _ (by omega) (by omega) | exact hX.arm _ (by omega) (by omega) | exact hX.late _ (by omega) (by omega) | exact hX.len _ (by omega) (by omega) | exact hX.say (by omega) (by omega) _ (by omega) (by omega)) (fun b122 => ?_)
                    refine ev_goto i91_123 ?_
                    refine ew_iadd i91_127 ?_
                    refine ev_istore_6 i91_128 rfl ?_
                    refine ew_iinc_7 i91_130 rfl ?_
                    refine ev_goto i91_133 ?_
                    first | exact e _ _ | (exfalso; omega)
              · refine ev_iload_8 i91_79 ?_
                first
                | refine ew_ifneB i91_81 (fun c81 => ?_) (fun c81 => ?_)
                | refine ew_ifne i91_81 (by omega) (fun c81 => ?_) (fun c81 => ?_)
                · refine ew_iconst i91_97 ?_
                  refine ew_iadd i91_98 ?_
                  refine ev_istore_5 i91_99 rfl ?_
                  refine ev_iload_6 i91_101 ?_
                  refine ev_iload_8 i91_103 ?_
                  first
                  | refine ew_ifeqB i91_105 (fun c105 => ?_) (fun c105 => ?_)
                  | refine ew_ifeq i91_105 (by omega) (fun c105 => ?_) (fun c105 => ?_)
                  · refine ew_iconst i91_126 ?_
                    refine ew_iadd i91_127 ?_
                    refine ev_istore_6 i91_128 rfl ?_
                    refine ew_iinc_7 i91_130 rfl ?_
                    refine ev_goto i91_133 ?_
                    first | exact e _ _ | (exfalso; omega)
                  · refine ev_iload_9 i91_108 ?_
                    first
                    | refine ew_ifeqB i91_110 (fun c110 => ?_) (fun c110 => ?_)
                    | refine ew_ifeq i91_110 (by omega) (fun c110 => ?_) (fun c110 => ?_)
                    · refine ew_iconst i91_126 ?_
                      refine ew_iadd i91_127 ?_
                      refine ev_istore_6 i91_128 rfl ?_
                      refine ew_iinc_7 i91_130 rfl ?_
                      refine ev_goto i91_133 ?_
                      first | exact e _ _ | (exfalso; omega)
                    · refine ev_aloadn_0 i91_113 ?_
                      refine ev_getA i91_114 g91_114 rfl rfl (by decide) ?_
                      refine ev_getA i91_117 g91_117 rfl rfl (by decide) ?_
                      refine ev_iload_7 i91_120 ?_
                      refine ew_iaload i91_122 rfl (by omega) (by omega) (by omega) (by first | exact hX.men | exact hX.told | exact hX.road | exact hX.tone _ (by omega) (by omega) | exact hX.corn _ (by omega) (by omega) | exact hX.stand _ (by omega) (by omega) | exact hX.reach _ (by omega) (by omega) | exact hX.arm _ (by omega) (by omega) | exact hX.late _ (by omega) (by omega) | exact hX.len _ (by omega) (by omega) | exact hX.say (by omega) (by omega) _ (by omega) (by omega)) (fun b122 => ?_)
                      refine ev_goto i91_123 ?_
                      refine ew_iadd i91_127 ?_
                      refine ev_istore_6 i91_128 rfl ?_
                      refine ew_iinc_7 i91_130 rfl ?_
                      refine ev_goto i91_133 ?_
                      first | exact e _ _ | (exfalso; omega)
                · refine ev_aloadn_0 i91_84 ?_
                  refine ev_getA i91_85 g91_85 rfl rfl (by decide) ?_
                  refine ev_getA i91_88 g91_88 rfl rfl (by decide) ?_
                  refine ev_iload_7 i91_91 ?_
                  refine ew_iaload i91_93 rfl (by omega) (by omega) (by omega) (by first | exact hX.men | exact hX.told | exact hX.road | exact hX.tone _ (by omega) (by omega) | exact hX.corn _ (by omega) (by omega) | exact hX.stand _ (by omega) (by omega) | exact hX.reach _ (by omega) (by omega) | exact hX.arm _ (by omega) (by omega) | exact hX.late _ (by omega) (by omega) | exact hX.len _ (by omega) (by omega) | exact hX.say (by omega) (by omega) _ (by omega) (by omega)) (fun b93 => ?_)
                  refine ev_goto i91_94 ?_
                  refine ew_iadd i91_98 ?_
                  refine ev_istore_5 i91_99 rfl ?_
                  refine ev_iload_6 i91_101 ?_
                  refine ev_iload_8 i91_103 ?_
                  first
                  | refine ew_ifeqB i91_105 (fun c105 => ?_) (fun c105 => ?_)
                  | refine ew_ifeq i91_105 (by omega) (fun c105 => ?_) (fun c105 => ?_)
                  · refine ew_iconst i91_126 ?_
                    refine ew_iadd i91_127 ?_
                    refine ev_istore_6 i91_128 rfl ?_
                    refine ew_iinc_7 i91_130 rfl ?_
                    refine ev_goto i91_133 ?_
                    first | exact e _ _ | (exfalso; omega)
                  · refine ev_iload_9 i91_108 ?_
                    first
                    | refine ew_ifeqB i91_110 (fun c110 => ?_) (fun c110 => ?_)
                    | refine ew_ifeq i91_110 (by omega) (fun c110 => ?_) (fun c110 => ?_)
                    · refine ew_iconst i91_126 ?_
                      refine ew_iadd i91_127 ?_
                      refine ev_istore_6 i91_128 rfl ?_
                      refine ew_iinc_7 i91_130 rfl ?_
                      refine ev_goto i91_133 ?_
                      first | exact e _ _ | (exfalso; omega)
                    · refine ev_aloadn_0 i91_113 ?_
                      refine ev_getA i91_114 g91_114 rfl rfl (by decide) ?_
                      refine ev_getA i91_117 g91_117 rfl rfl (by decide) ?_
                      refine ev_iload_7 i91_120 ?_
                      refine ew_iaload i91_122 rfl (by omega) (by omega) (by omega) (by first | exact hX.men | exact hX.told | exact hX.road | exact hX.tone _ (by omega) (by omega) | exact hX.corn _ (by omega) (by omega) | exact hX.stand _ (by omega) (by omega) | exact hX.reach _ (by omega) (by omega) | exact hX.arm _ (by omega) (by omega) | exact hX.late _ (by omega) (by omega) | exact hX.len _ (by omega) (by omega) | exact hX.say (by omega) (by omega) _ (by omega) (by omega)) (fun b122 => ?_)
                      refine ev_goto i91_123 ?_
                      refine ew_iadd i91_127 ?_
                      refine ev_istore_6 i91_128 rfl ?_
                      refine ew_iinc_7 i91_130 rfl ?_
                      refine ev_goto i91_133 ?_
                      first | exact e _ _ | (exfalso; omega)
            · refine ev_iload_9 i91_50 ?_
              first
              | refine ew_ifneB i91_52 (fun c52 => ?_) (fun c52 => ?_)
              | refine ew_ifne i91_52 (by omega) (fun c52 => ?_) (fun c52 => ?_)
              · refine ew_iconst i91_68 ?_
                refine ew_iadd i91_69 ?_
                refine ev_istore_4 i91_70 rfl ?_
                refine ev_iload_5 i91_72 ?_
                refine ev_iload_9 i91_74 ?_
                first
                | refine ew_ifeqB i91_76 (fun c76 => ?_) (fun c76 => ?_)
                | refine ew_ifeq i91_76 (by omega) (fun c76 => ?_) (fun c76 => ?_)
                · refine ew_iconst i91_97 ?_
                  refine ew_iadd i91_98 ?_
                  refine ev_istore_5 i91_99 rfl ?_
                  refine ev_iload_6 i91_101 ?_
                  refine ev_iload_8 i91_103 ?_
                  first
                  | refine ew_ifeqB i91_105 (fun c105 => ?_) (fun c105 => ?_)
                  | refine ew_ifeq i91_105 (by omega) (fun c105 => ?_) (fun c105 => ?_)
                  · refine ew_iconst i91_126 ?_
                    refine ew_iadd i91_127 ?_
                    refine ev_istore_6 i91_128 rfl ?_
                    refine ew_iinc_7 i91_130 rfl ?_
                    refine ev_goto i91_133 ?_
                    first | exact e _ _ | (exfalso; omega)
                  · refine ev_iload_9 i91_108 ?_
                    first
                    | refine ew_ifeqB i91_110 (fun c110 => ?_) (fun c110 => ?_)
                    | refine ew_ifeq i91_110 (by omega) (fun c110 => ?_) (fun c110 => ?_)
                    · refine ew_iconst i91_126 ?_
                      refine ew_iadd i91_127 ?_
                      refine ev_istore_6 i91_128 rfl ?_
                      refine ew_iinc_7 i91_130 rfl ?_
                      refine ev_goto i91_133 ?_
                      first | exact e _ _ | (exfalso; omega)
                    · refine ev_aloadn_0 i91_113 ?_
                      refine ev_getA i91_114 g91_114 rfl rfl (by decide) ?_
                      refine ev_getA i91_117 g91_117 rfl rfl (by decide) ?_
                      refine ev_iload_7 i91_120 ?_
                      refine ew_iaload i91_122 rfl (by omega) (by omega) (by omega) (by first | exact hX.men | exact hX.told | exact hX.road | exact hX.tone _ (by omega) (by omega) | exact hX.corn _ (by omega) (by omega) | exact hX.stand _ (by omega) (by omega) | exact hX.reach _ (by omega) (by omega) | exact hX.arm _ (by omega) (by omega) | exact hX.late _ (by omega) (by omega) | exact hX.len _ (by omega) (by omega) | exact hX.say (by omega) (by omega) _ (by omega) (by omega)) (fun b122 => ?_)
                      refine ev_goto i91_123 ?_
                      refine ew_iadd i91_127 ?_
                      refine ev_istore_6 i91_128 rfl ?_
                      refine ew_iinc_7 i91_130 rfl ?_
                      refine ev_goto i91_133 ?_
                      first | exact e _ _ | (exfalso; omega)
                · refine ev_iload_8 i91_79 ?_
                  first
                  | refine ew_ifneB i91_81 (fun c81 => ?_) (fun c81 => ?_)
                  | refine ew_ifne i91_81 (by omega) (fun c81 => ?_) (fun c81 => ?_)
                  · refine ew_iconst i91_97 ?_
                    refine ew_iadd i91_98 ?_
                    refine ev_istore_5 i91_99 rfl ?_
                    refine ev_iload_6 i91_101 ?_
                    refine ev_iload_8 i91_103 ?_
                    first
                    | refine ew_ifeqB i91_105 (fun c105 => ?_) (fun c105 => ?_)
                    | refine ew_ifeq i91_105 (by omega) (fun c105 => ?_) (fun c105 => ?_)
                    · refine ew_iconst i91_126 ?_
                      refine ew_iadd i91_127 ?_
                      refine ev_istore_6 i91_128 rfl ?_
                      refine ew_iinc_7 i91_130 rfl ?_
                      refine ev_goto i91_133 ?_
                      first | exact e _ _ | (exfalso; omega)
                    · refine ev_iload_9 i91_108 ?_
                      first
                      | refine ew_ifeqB i91_110 (fun c110 => ?_) (fun c110 => ?_)
                      | refine ew_ifeq i91_110 (by omega) (fun c110 => ?_) (fun c110 => ?_)
                      · refine ew_iconst i91_126 ?_
                        refine ew_iadd i91_127 ?_
                        refine ev_istore_6 i91_128 rfl ?_
                        refine ew_iinc_7 i91_130 rfl ?_
                        refine ev_goto i91_133 ?_
                        first | exact e _ _ | (exfalso; omega)
                      · refine ev_aloadn_0 i91_113 ?_
                        refine ev_getA i91_114 g91_114 rfl rfl (by decide) ?_
                        refine ev_getA i91_117 g91_117 rfl rfl (by decide) ?_
                        refine ev_iload_7 i91_120 ?_
                        refine ew_iaload i91_122 rfl (by omega) (by omega) (by omega) (by first | exact hX.men | exact hX.told | exact hX.road | exact hX.tone _ (by omega) (by omega) | exact hX.corn _ (by omega) (by omega) | exact hX.stand _ (by omega) (by omega) | exact hX.reach _ (by omega) (by omega) | exact hX.arm _ (by omega) (by omega) | exact hX.late _ (by omega) (by omega) | exact hX.len _ (by omega) (by omega) | exact hX.say (by omega) (by omega) _ (by omega) (by omega)) (fun b122 => ?_)
                        refine ev_goto i91_123 ?_
                        refine ew_iadd i91_127 ?_
                        refine ev_istore_6 i91_128 rfl ?_
                        refine ew_iinc_7 i91_130 rfl ?_
                        refine ev_goto i91_133 ?_
                        first | exact e _ _ | (exfalso; omega)
                  · refine ev_aloadn_0 i91_84 ?_
                    refine ev_getA i91_85 g91_85 rfl rfl (by decide) ?_
                    refine ev_getA i91_88 g91_88 rfl rfl (by decide) ?_
                    refine ev_iload_7 i91_91 ?_
                    refine ew_iaload i91_93 rfl (by omega) (by omega) (by omega) (by first | exact hX.men | exact hX.told | exact hX.road | exact hX.tone _ (by omega) (by omega) | exact hX.corn _ (by omega) (by omega) | exact hX.stand _ (by omega) (by omega) | exact hX.reach _ (by omega) (by omega) | exact hX.arm _ (by omega) (by omega) | exact hX.late _ (by omega) (by omega) | exact hX.len _ (by omega) (by omega) | exact hX.say (by omega) (by omega) _ (by omega) (by omega)) (fun b93 => ?_)
                    refine ev_goto i91_94 ?_
                    refine ew_iadd i91_98 ?_
                    refine ev_istore_5 i91_99 rfl ?_
                    refine ev_iload_6 i91_101 ?_
                    refine ev_iload_8 i91_103 ?_
                    first
                    | refine ew_ifeqB i91_105 (fun c105 => ?_) (fun c105 => ?_)
                    | refine ew_ifeq i91_105 (by omega) (fun c105 => ?_) (fun c105 => ?_)
                    · refine ew_iconst i91_126 ?_
                      refine ew_iadd i91_127 ?_
                      refine ev_istore_6 i91_128 rfl ?_
                      refine ew_iinc_7 i91_130 rfl ?_
                      refine ev_goto i91_133 ?_
                      first | exact e _ _ | (exfalso; omega)
                    · refine ev_iload_9 i91_108 ?_
                      first
                      | refine ew_ifeqB i91_110 (fun c110 => ?_) (fun c110 => ?_)
                      | refine ew_ifeq i91_110 (by omega) (fun c110 => ?_) (fun c110 => ?_)
                      · refine ew_iconst i91_126 ?_
                        refine ew_iadd i91_127 ?_
                        refine ev_istore_6 i91_128 rfl ?_
                        refine ew_iinc_7 i91_130 rfl ?_
                        refine ev_goto i91_133 ?_
                        first | exact e _ _ | (exfalso; omega)
                      · refine ev_aloadn_0 i91_113 ?_
                        refine ev_getA i91_114 g91_114 rfl rfl (by decide) ?_
                        refine ev_getA i91_117 g91_117 rfl rfl (by decide) ?_
                        refine ev_iload_7 i91_120 ?_
                        refine ew_iaload i91_122 rfl (by omega) (by omega) (by omega) (by first | exact hX.men | exact hX.told | exact hX.road | exact hX.tone _ (by omega) (by omega) | exact hX.corn _ (by omega) (by omega) | exact hX.stand _ (by omega) (by omega) | exact hX.reach _ (by omega) (by omega) | exact hX.arm _ (by omega) (by omega) | exact hX.late _ (by omega) (by omega) | exact hX.len _ (by omega) (by omega) | exact hX.say (by omega) (by omega) _ (by omega) (by omega)) (fun b122 => ?_)
                        refine ev_goto i91_123 ?_
                        refine ew_iadd i91_127 ?_
                        refine ev_istore_6 i91_128 rfl ?_
                        refine ew_iinc_7 i91_130 rfl ?_
                        refine ev_goto i91_133 ?_
                        first | exact e _ _ | (exfalso; omega)
              · refine ev_aloadn_0 i91_55 ?_
                refine ev_getA i91_56 g91_56 rfl rfl (by decide) ?_
                refine ev_getA i91_59 g91_59 rfl rfl (by decide) ?_
                refine ev_iload_7 i91_62 ?_
                refine ew_iaload i91_64 rfl (by omega) (by omega) (by omega) (by first | exact hX.men | exact hX.told | exact hX.road | exact hX.tone _ (by omega) (by omega) | exact hX.corn _ (by omega) (by omega) | exact hX.stand _ (by omega) (by omega) | exact hX.reach _ (by omega) (by omega) | exact hX.arm _ (by omega) (by omega) | exact hX.late _ (by omega) (by omega) | exact hX.len _ (by omega) (by omega) | exact hX.say (by omega) (by omega) _ (by omega) (by omega)) (fun b64 => ?_)
                refine ev_goto i91_65 ?_
                refine ew_iadd i91_69 ?_
                refine ev_istore_4 i91_70 rfl ?_
                refine ev_iload_5 i91_72 ?_
                refine ev_iload_9 i91_74 ?_
                first
                | refine ew_ifeqB i91_76 (fun c76 => ?_) (fun c76 => ?_)
                | refine ew_ifeq i91_76 (by omega) (fun c76 => ?_) (fun c76 => ?_)
                · refine ew_iconst i91_97 ?_
                  refine ew_iadd i91_98 ?_
                  refine ev_istore_5 i91_99 rfl ?_
                  refine ev_iload_6 i91_101 ?_
                  refine ev_iload_8 i91_103 ?_
                  first
                  | refine ew_ifeqB i91_105 (fun c105 => ?_) (fun c105 => ?_)
                  | refine ew_ifeq i91_105 (by omega) (fun c105 => ?_) (fun c105 => ?_)
                  · refine ew_iconst i91_126 ?_
                    refine ew_iadd i91_127 ?_
                    refine ev_istore_6 i91_128 rfl ?_
                    refine ew_iinc_7 i91_130 rfl ?_
                    refine ev_goto i91_133 ?_
                    first | exact e _ _ | (exfalso; omega)
                  · refine ev_iload_9 i91_108 ?_
                    first
                    | refine ew_ifeqB i91_110 (fun c110 => ?_) (fun c110 => ?_)
                    | refine ew_ifeq i91_110 (by omega) (fun c110 => ?_) (fun c110 => ?_)
                    · refine ew_iconst i91_126 ?_
                      refine ew_iadd i91_127 ?_
                      refine ev_istore_6 i91_128 rfl ?_
                      refine ew_iinc_7 i91_130 rfl ?_
                      refine ev_goto i91_133 ?_
                      first | exact e _ _ | (exfalso; omega)
                    · refine ev_aloadn_0 i91_113 ?_
                      refine ev_getA i91_114 g91_114 rfl rfl (by decide) ?_
                      refine ev_getA i91_117 g91_117 rfl rfl (by decide) ?_
                      refine ev_iload_7 i91_120 ?_
                      refine ew_iaload i91_122 rfl (by omega) (by omega) (by omega) (by first | exact hX.men | exact hX.told | exact hX.road | exact hX.tone _ (by omega) (by omega) | exact hX.corn _ (by omega) (by omega) | exact hX.stand _ (by omega) (by omega) | exact hX.reach _ (by omega) (by omega) | exact hX.arm _ (by omega) (by omega) | exact hX.late _ (by omega) (by omega) | exact hX.len _ (by omega) (by omega) | exact hX.say (by omega) (by omega) _ (by omega) (by omega)) (fun b122 => ?_)
                      refine ev_goto i91_123 ?_
                      refine ew_iadd i91_127 ?_
                      refine ev_istore_6 i91_128 rfl ?_
                      refine ew_iinc_7 i91_130 rfl ?_
                      refine ev_goto i91_133 ?_
                      first | exact e _ _ | (exfalso; omega)
                · refine ev_iload_8 i91_79 ?_
                  first
                  | refine ew_ifneB i91_81 (fun c81 => ?_) (fun c81 => ?_)
                  | refine ew_ifne i91_81 (by omega) (fun c81 => ?_) (fun c81 => ?_)
                  · refine ew_iconst i91_97 ?_
                    refine ew_iadd i91_98 ?_
                    refine ev_istore_5 i91_99 rfl ?_
                    refine ev_iload_6 i91_101 ?_
                    refine ev_iload_8 i91_103 ?_
                    first
                    | refine ew_ifeqB i91_105 (fun c105 => ?_) (fun c105 => ?_)
                    | refine ew_ifeq i91_105 (by omega) (fun c105 => ?_) (fun c105 => ?_)
                    · refine ew_iconst i91_126 ?_
                      refine ew_iadd i91_127 ?_
                      refine ev_istore_6 i91_128 rfl ?_
                      refine ew_iinc_7 i91_130 rfl ?_
                      refine ev_goto i91_133 ?_
                      first | exact e _ _ | (exfalso; omega)
                    · refine ev_iload_9 i91_108 ?_
                      first
                      | refine ew_ifeqB i91_110 (fun c110 => ?_) (fun c110 => ?_)
                      | refine ew_ifeq i91_110 (by omega) (fun c110 => ?_) (fun c110 => ?_)
                      · refine ew_iconst i91_126 ?_
                        refine ew_iadd i91_127 ?_
                        refine ev_istore_6 i91_128 rfl ?_
                        refine ew_iinc_7 i91_130 rfl ?_
                        refine ev_goto i91_133 ?_
                        first | exact e _ _ | (exfalso; omega)
                      · refine ev_aloadn_0 i91_113 ?_
                        refine ev_getA i91_114 g91_114 rfl rfl (by decide) ?_
                        refine ev_getA i91_117 g91_117 rfl rfl (by decide) ?_
                        refine ev_iload_7 i91_120 ?_
                        refine ew_iaload i91_122 rfl (by omega) (by omega) (by omega) (by first | exact hX.men | exact hX.told | exact hX.road | exact hX.tone _ (by omega) (by omega) | exact hX.corn _ (by omega) (by omega) | exact hX.stand _ (by omega) (by omega) | exact hX.reach _ (by omega) (by omega) | exact hX.arm _ (by omega) (by omega) | exact hX.late _ (by omega) (by omega) | exact hX.len _ (by omega) (by omega) | exact hX.say (by omega) (by omega) _ (by omega) (by omega)) (fun b122 => ?_)
                        refine ev_goto i91_123 ?_
                        refine ew_iadd i91_127 ?_
                        refine ev_istore_6 i91_128 rfl ?_
                        refine ew_iinc_7 i91_130 rfl ?_
                        refine ev_goto i91_133 ?_
                        first | exact e _ _ | (exfalso; omega)
                  · refine ev_aloadn_0 i91_84 ?_
                    refine ev_getA i91_85 g91_85 rfl rfl (by decide) ?_
                    refine ev_getA i91_88 g91_88 rfl rfl (by decide) ?_
                    refine ev_iload_7 i91_91 ?_
                    refine ew_iaload i91_93 rfl (by omega) (by omega) (by omega) (by first | exact hX.men | exact hX.told | exact hX.road | exact hX.tone _ (by omega) (by omega) | exact hX.corn _ (by omega) (by omega) | exact hX.stand _ (by omega) (by omega) | exact hX.reach _ (by omega) (by omega) | exact hX.arm _ (by omega) (by omega) | exact hX.late _ (by omega) (by omega) | exact hX.len _ (by omega) (by omega) | exact hX.say (by omega) (by omega) _ (by omega) (by omega)) (fun b93 => ?_)
                    refine ev_goto i91_94 ?_
                    refine ew_iadd i91_98 ?_
                    refine ev_istore_5 i91_99 rfl ?_
                    refine ev_iload_6 i91_101 ?_
                    refine ev_iload_8 i91_103 ?_
                    first
                    | refine ew_ifeqB i91_105 (fun c105 => ?_) (fun c105 => ?_)
                    | refine ew_ifeq i91_105 (by omega) (fun c105 => ?_) (fun c105 => ?_)
                    · refine ew_iconst i91_126 ?_
                      refine ew_iadd i91_127 ?_
                      refine ev_istore_6 i91_128 rfl ?_
                      refine ew_iinc_7 i91_130 rfl ?_
                      refine ev_goto i91_133 ?_
                      first | exact e _ _ | (exfalso; omega)
                    · refine ev_iload_9 i91_108 ?_
                      first
                      | refine ew_ifeqB i91_110 (fun c110 => ?_) (fun c110 => ?_)
                      | refine ew_ifeq i91_110 (by omega) (fun c110 => ?_) (fun c110 => ?_)
                      · refine ew_iconst i91_126 ?_
                        refine ew_iadd i91_127 ?_
                        refine ev_istore_6 i91_128 rfl ?_
                        refine ew_iinc_7 i91_130 rfl ?_
                        refine ev_goto i91_133 ?_
                        first | exact e _ _ | (exfalso; omega)
                      · refine ev_aloadn_0 i91_113 ?_
                        refine ev_getA i91_114 g91_114 rfl rfl (by decide) ?_
                        refine ev_getA i91_117 g91_117 rfl rfl (by decide) ?_
                        refine ev_iload_7 i91_120 ?_
                        refine ew_iaload i91_122 rfl (by omega) (by omega) (by omega) (by first | exact hX.men | exact hX.told | exact hX.road | exact hX.tone _ (by omega) (by omega) | exact hX.corn _ (by omega) (by omega) | exact hX.stand _ (by omega) (by omega) | exact hX.reach _ (by omega) (by omega) | exact hX.arm _ (by omega) (by omega) | exact hX.late _ (by omega) (by omega) | exact hX.len _ (by omega) (by omega) | exact hX.say (by omega) (by omega) _ (by omega) (by omega)) (fun b122 => ?_)
                        refine ev_goto i91_123 ?_
                        refine ew_iadd i91_127 ?_
                        refine ev_istore_6 i91_128 rfl ?_
                        refine ew_iinc_7 i91_130 rfl ?_
                        refine ev_goto i91_133 ?_
                        first | exact e _ _ | (exfalso; omega)
      · by_cases bp : f_can f b p
        · rw [if_neg (fun r : qA f a b p => ap r.1), if_pos (show qA f b a p from ⟨bp, ap⟩), if_neg (fun r : qO f a b p => ap r.1)] at e
          refine ev_iload_7 i91_12 ?_
          refine ew_bipush i91_14 (by decide) ?_
          refine ew_icmpge i91_16 (by omega) (fun c16 => ?_) (fun c16 => ?_)
          · exfalso; omega
          · refine ev_aloadn_0 i91_19 ?_
            refine ev_getA i91_20 g91_20 rfl rfl (by decide) ?_
            refine ev_iloadn_1 i91_23 ?_
            refine ev_iload_7 i91_24 ?_
            refine ev_virt2 i91_26 g91_26 rfl (by decide +kernel) (Nat.le_of_ble_eq_true rfl) (x_canStrike hX ha.1 ha.2 p0 hp ?_)
            rw [if_neg ap]
            refine ev_istore_8 i91_29 rfl ?_
            refine ev_aloadn_0 i91_31 ?_
            refine ev_getA i91_32 g91_32 rfl rfl (by decide) ?_
            refine ev_iloadn_2 i91_35 ?_
            refine ev_iload_7 i91_36 ?_
            refine ev_virt2 i91_38 g91_38 rfl (by decide +kernel) (Nat.le_of_ble_eq_true rfl) (x_canStrike hX hb.1 hb.2 p0 hp ?_)
            rw [if_pos bp]
            refine ev_istore_9 i91_41 rfl ?_
            refine ev_iload_4 i91_43 ?_
            refine ev_iload_8 i91_45 ?_
            first
            | refine ew_ifeqB i91_47 (fun c47 => ?_) (fun c47 => ?_)
            | refine ew_ifeq i91_47 (by omega) (fun c47 => ?_) (fun c47 => ?_)
            · refine ew_iconst i91_68 ?_
              refine ew_iadd i91_69 ?_
              refine ev_istore_4 i91_70 rfl ?_
              refine ev_iload_5 i91_72 ?_
              refine ev_iload_9 i91_74 ?_
              first
              | refine ew_ifeqB i91_76 (fun c76 => ?_) (fun c76 => ?_)
              | refine ew_ifeq i91_76 (by omega) (fun c76 => ?_) (fun c76 => ?_)
              · refine ew_iconst i91_97 ?_
                refine ew_iadd i91_98 ?_
                refine ev_istore_5 i91_99 rfl ?_
                refine ev_iload_6 i91_101 ?_
                refine ev_iload_8 i91_103 ?_
                first
                | refine ew_ifeqB i91_105 (fun c105 => ?_) (fun c105 => ?_)
                | refine ew_ifeq i91_105 (by omega) (fun c105 => ?_) (fun c105 => ?_)
                · refine ew_iconst i91_126 ?_
                  refine ew_iadd i91_127 ?_
                  refine ev_istore_6 i91_128 rfl ?_
                  refine ew_iinc_7 i91_130 rfl ?_
                  refine ev_goto i91_133 ?_
                  first | exact e _ _ | (exfalso; omega)
                · refine ev_iload_9 i91_108 ?_
                  first
                  | refine ew_ifeqB i91_110 (fun c110 => ?_) (fun c110 => ?_)
                  | refine ew_ifeq i91_110 (by omega) (fun c110 => ?_) (fun c110 => ?_)
                  · refine ew_iconst i91_126 ?_
                    refine ew_iadd i91_127 ?_
                    refine ev_istore_6 i91_128 rfl ?_
                    refine ew_iinc_7 i91_130 rfl ?_
                    refine ev_goto i91_133 ?_
                    first | exact e _ _ | (exfalso; omega)
                  · refine ev_aloadn_0 i91_113 ?_
                    refine ev_getA i91_114 g91_114 rfl rfl (by decide) ?_
                    refine ev_getA i91_117 g91_117 rfl rfl (by decide) ?_
                    refine ev_iload_7 i91_120 ?_
                    refine ew_iaload i91_122 rfl (by omega) (by omega) (by omega) (by first | exact hX.men | exact hX.told | exact hX.road | exact hX.tone _ (by omega) (by omega) | exact hX.corn _ (by omega) (by omega) | exact hX.stand _ (by omega) (by omega) | exact hX.reach _ (by omega) (by omega) | exact hX.arm _ (by omega) (by omega) | exact hX.late _ (by omega) (by omega) | exact hX.len _ (by omega) (by omega) | exact hX.say (by omega) (by omega) _ (by omega) (by omega)) (fun b122 => ?_)
                    refine ev_goto i91_123 ?_
                    refine ew_iadd i91_127 ?_
                    refine ev_istore_6 i91_128 rfl ?_
                    refine ew_iinc_7 i91_130 rfl ?_
                    refine ev_goto i91_133 ?_
                    first | exact e _ _ | (exfalso; omega)
              · refine ev_iload_8 i91_79 ?_
                first
                | refine ew_ifneB i91_81 (fun c81 => ?_) (fun c81 => ?_)
                | refine ew_ifne i91_81 (by omega) (fun c81 => ?_) (fun c81 => ?_)
                · refine ew_iconst i91_97 ?_
                  refine ew_iadd i91_98 ?_
                  refine ev_istore_5 i91_99 rfl ?_
                  refine ev_iload_6 i91_101 ?_
                  refine ev_iload_8 i91_103 ?_
                  first
                  | refine ew_ifeqB i91_105 (fun c105 => ?_) (fun c105 => ?_)
                  | refine ew_ifeq i91_105 (by omega) (fun c105 => ?_) (fun c105 => ?_)
                  · refine ew_iconst i91_126 ?_
                    refine ew_iadd i91_127 ?_
                    refine ev_istore_6 i91_128 rfl ?_
                    refine ew_iinc_7 i91_130 rfl ?_
                    refine ev_goto i91_133 ?_
                    first | exact e _ _ | (exfalso; omega)
                  · refine ev_iload_9 i91_108 ?_
                    first
                    | refine ew_ifeqB i91_110 (fun c110 => ?_) (fun c110 => ?_)
                    | refine ew_ifeq i91_110 (by omega) (fun c110 => ?_) (fun c110 => ?_)
                    · refine ew_iconst i91_126 ?_
                      refine ew_iadd i91_127 ?_
                      refine ev_istore_6 i91_128 rfl ?_
                      refine ew_iinc_7 i91_130 rfl ?_
                      refine ev_goto i91_133 ?_
                      first | exact e _ _ | (exfalso; omega)
                    · refine ev_aloadn_0 i91_113 ?_
                      refine ev_getA i91_114 g91_114 rfl rfl (by decide) ?_
                      refine ev_getA i91_117 g91_117 rfl rfl (by decide) ?_
                      refine ev_iload_7 i91_120 ?_
                      refine ew_iaload i91_122 rfl (by omega) (by omega) (by omega) (by first | exact hX.men | exact hX.told | exact hX.road | exact hX.tone _ (by omega) (by omega) | exact hX.corn _ (by omega) (by omega) | exact hX.stand _ (by omega) (by omega) | exact hX.reach _ (by omega) (by omega) | exact hX.arm _ (by omega) (by omega) | exact hX.late _ (by omega) (by omega) | exact hX.len _ (by omega) (by omega) | exact hX.say (by omega) (by omega) _ (by omega) (by omega)) (fun b122 => ?_)
                      refine ev_goto i91_123 ?_
                      refine ew_iadd i91_127 ?_
                      refine ev_istore_6 i91_128 rfl ?_
                      refine ew_iinc_7 i91_130 rfl ?_
                      refine ev_goto i91_133 ?_
                      first | exact e _ _ | (exfalso; omega)
                · refine ev_aloadn_0 i91_84 ?_
                  refine ev_getA i91_85 g91_85 rfl rfl (by decide) ?_
                  refine ev_getA i91_88 g91_88 rfl rfl (by decide) ?_
                  refine ev_iload_7 i91_91 ?_
                  refine ew_iaload i91_93 rfl (by omega) (by omega) (by omega) (by first | exact hX.men | exact hX.told | exact hX.road | exact hX.tone _ (by omega) (by omega) | exact hX.corn _ (by omega) (by omega) | exact hX.stand _ (by omega) (by omega) | exact hX.reach _ (by omega) (by omega) | exact hX.arm _ (by omega) (by omega) | exact hX.late _ (by omega) (by omega) | exact hX.len _ (by omega) (by omega) | exact hX.say (by omega) (by omega) _ (by omega) (by omega)) (fun b93 => ?_)
                  refine ev_goto i91_94 ?_
                  refine ew_iadd i91_98 ?_
                  refine ev_istore_5 i91_99 rfl ?_
                  refine ev_iload_6 i91_101 ?_
                  refine ev_iload_8 i91_103 ?_
                  first
                  | refine ew_ifeqB i91_105 (fun c105 => ?_) (fun c105 => ?_)
                  | refine ew_ifeq i91_105 (by omega) (fun c105 => ?_) (fun c105 => ?_)
                  · refine ew_iconst i91_126 ?_
                    refine ew_iadd i91_127 ?_
                    refine ev_istore_6 i91_128 rfl ?_
                    refine ew_iinc_7 i91_130 rfl ?_
                    refine ev_goto i91_133 ?_
                    first | exact e _ _ | (exfalso; omega)
                  · refine ev_iload_9 i91_108 ?_
                    first
                    | refine ew_ifeqB i91_110 (fun c110 => ?_) (fun c110 => ?_)
                    | refine ew_ifeq i91_110 (by omega) (fun c110 => ?_) (fun c110 => ?_)
                    · refine ew_iconst i91_126 ?_
                      refine ew_iadd i91_127 ?_
                      refine ev_istore_6 i91_128 rfl ?_
                      refine ew_iinc_7 i91_130 rfl ?_
                      refine ev_goto i91_133 ?_
                      first | exact e _ _ | (exfalso; omega)
                    · refine ev_aloadn_0 i91_113 ?_
                      refine ev_getA i91_114 g91_114 rfl rfl (by decide) ?_
                      refine ev_getA i91_117 g91_117 rfl rfl (by decide) ?_
                      refine ev_iload_7 i91_120 ?_
                      refine ew_iaload i91_122 rfl (by omega) (by omega) (by omega) (by first | exact hX.men | exact hX.told | exact hX.road | exact hX.tone _ (by omega) (by omega) | exact hX.corn _ (by omega) (by omega) | exact hX.stand _ (by omega) (by omega) | exact hX.reach _ (by omega) (by omega) | exact hX.arm _ (by omega) (by omega) | exact hX.late _ (by omega) (by omega) | exact hX.len _ (by omega) (by omega) | exact hX.say (by omega) (by omega) _ (by omega) (by omega)) (fun b122 => ?_)
                      refine ev_goto i91_123 ?_
                      refine ew_iadd i91_127 ?_
                      refine ev_istore_6 i91_128 rfl ?_
                      refine ew_iinc_7 i91_130 rfl ?_
                      refine ev_goto i91_133 ?_
                      first | exact e _ _ | (exfalso; omega)
            · refine ev_iload_9 i91_50 ?_
              first
              | refine ew_ifneB i91_52 (fun c52 => ?_) (fun c52 => ?_)
              | refine ew_ifne i91_52 (by omega) (fun c52 => ?_) (fun c52 => ?_)
              · refine ew_iconst i91_68 ?_
                refine ew_iadd i91_69 ?_
                refine ev_istore_4 i91_70 rfl ?_
                refine ev_iload_5 i91_72 ?_
                refine ev_iload_9 i91_74 ?_
                first
                | refine ew_ifeqB i91_76 (fun c76 => ?_) (fun c76 => ?_)
                | refine ew_ifeq i91_76 (by omega) (fun c76 => ?_) (fun c76 => ?_)
                · refine ew_iconst i91_97 ?_
                  refine ew_iadd i91_98 ?_
                  refine ev_istore_5 i91_99 rfl ?_
                  refine ev_iload_6 i91_101 ?_
                  refine ev_iload_8 i91_103 ?_
                  first
                  | refine ew_ifeqB i91_105 (fun c105 => ?_) (fun c105 => ?_)
                  | refine ew_ifeq i91_105 (by omega) (fun c105 => ?_) (fun c105 => ?_)
                  · refine ew_iconst i91_126 ?_
                    refine ew_iadd i91_127 ?_
                    refine ev_istore_6 i91_128 rfl ?_
                    refine ew_iinc_7 i91_130 rfl ?_
                    refine ev_goto i91_133 ?_
                    first | exact e _ _ | (exfalso; omega)
                  · refine ev_iload_9 i91_108 ?_
                    first
                    | refine ew_ifeqB i91_110 (fun c110 => ?_) (fun c110 => ?_)
                    | refine ew_ifeq i91_110 (by omega) (fun c110 => ?_) (fun c110 => ?_)
                    · refine ew_iconst i91_126 ?_
                      refine ew_iadd i91_127 ?_
                      refine ev_istore_6 i91_128 rfl ?_
                      refine ew_iinc_7 i91_130 rfl ?_
                      refine ev_goto i91_133 ?_
                      first | exact e _ _ | (exfalso; omega)
                    · refine ev_aloadn_0 i91_113 ?_
                      refine ev_getA i91_114 g91_114 rfl rfl (by decide) ?_
                      refine ev_getA i91_117 g91_117 rfl rfl (by decide) ?_
                      refine ev_iload_7 i91_120 ?_
                      refine ew_iaload i91_122 rfl (by omega) (by omega) (by omega) (by first | exact hX.men | exact hX.told | exact hX.road | exact hX.tone _ (by omega) (by omega) | exact hX.corn _ (by omega) (by omega) | exact hX.stand _ (by omega) (by omega) | exact hX.reach _ (by omega) (by omega) | exact hX.arm _ (by omega) (by omega) | exact hX.late _ (by omega) (by omega) | exact hX.len _ (by omega) (by omega) | exact hX.say (by omega) (by omega) _ (by omega) (by omega)) (fun b122 => ?_)
                      refine ev_goto i91_123 ?_
                      refine ew_iadd i91_127 ?_
                      refine ev_istore_6 i91_128 rfl ?_
                      refine ew_iinc_7 i91_130 rfl ?_
                      refine ev_goto i91_133 ?_
                      first | exact e _ _ | (exfalso; omega)
                · refine ev_iload_8 i91_79 ?_
                  first
                  | refine ew_ifneB i91_81 (fun c81 => ?_) (fun c81 => ?_)
                  | refine ew_ifne i91_81 (by omega) (fun c81 => ?_) (fun c81 => ?_)
                  · refine ew_iconst i91_97 ?_
                    refine ew_iadd i91_98 ?_
                    refine ev_istore_5 i91_99 rfl ?_
                    refine ev_iload_6 i91_101 ?_
                    refine ev_iload_8 i91_103 ?_
                    first
                    | refine ew_ifeqB i91_105 (fun c105 => ?_) (fun c105 => ?_)
                    | refine ew_ifeq i91_105 (by omega) (fun c105 => ?_) (fun c105 => ?_)
                    · refine ew_iconst i91_126 ?_
                      refine ew_iadd i91_127 ?_
                      refine ev_istore_6 i91_128 rfl ?_
                      refine ew_iinc_7 i91_130 rfl ?_
                      refine ev_goto i91_133 ?_
                      first | exact e _ _ | (exfalso; omega)
                    · refine ev_iload_9 i91_108 ?_
                      first
                      | refine ew_ifeqB i91_110 (fun c110 => ?_) (fun c110 => ?_)
                      | refine ew_ifeq i91_110 (by omega) (fun c110 => ?_) (fun c110 => ?_)
                      · refine ew_iconst i91_126 ?_
                        refine ew_iadd i91_127 ?_
                        refine ev_istore_6 i91_128 rfl ?_
                        refine ew_iinc_7 i91_130 rfl ?_
                        refine ev_goto i91_133 ?_
                        first | exact e _ _ | (exfalso; omega)
                      · refine ev_aloadn_0 i91_113 ?_
                        refine ev_getA i91_114 g91_114 rfl rfl (by decide) ?_
                        refine ev_getA i91_117 g91_117 rfl rfl (by decide) ?_
                        refine ev_iload_7 i91_120 ?_
                        refine ew_iaload i91_122 rfl (by omega) (by omega) (by omega) (by first | exact hX.men | exact hX.told | exact hX.road | exact hX.tone _ (by omega) (by omega) | exact hX.corn _ (by omega) (by omega) | exact hX.stand _ (by omega) (by omega) | exact hX.reach _ (by omega) (by omega) | exact hX.arm _ (by omega) (by omega) | exact hX.late _ (by omega) (by omega) | exact hX.len _ (by omega) (by omega) | exact hX.say (by omega) (by omega) _ (by omega) (by omega)) (fun b122 => ?_)
                        refine ev_goto i91_123 ?_
                        refine ew_iadd i91_127 ?_
                        refine ev_istore_6 i91_128 rfl ?_
                        refine ew_iinc_7 i91_130 rfl ?_
                        refine ev_goto i91_133 ?_
                        first | exact e _ _ | (exfalso; omega)
                  · refine ev_aloadn_0 i91_84 ?_
                    refine ev_getA i91_85 g91_85 rfl rfl (by decide) ?_
                    refine ev_getA i91_88 g91_88 rfl rfl (by decide) ?_
                    refine ev_iload_7 i91_91 ?_
                    refine ew_iaload i91_93 rfl (by omega) (by omega) (by omega) (by first | exact hX.men | exact hX.told | exact hX.road | exact hX.tone _ (by omega) (by omega) | exact hX.corn _ (by omega) (by omega) | exact hX.stand _ (by omega) (by omega) | exact hX.reach _ (by omega) (by omega) | exact hX.arm _ (by omega) (by omega) | exact hX.late _ (by omega) (by omega) | exact hX.len _ (by omega) (by omega) | exact hX.say (by omega) (by omega) _ (by omega) (by omega)) (fun b93 => ?_)
                    refine ev_goto i91_94 ?_
                    refine ew_iadd i91_98 ?_
                    refine ev_istore_5 i91_99 rfl ?_
                    refine ev_iload_6 i91_101 ?_
                    refine ev_iload_8 i91_103 ?_
                    first
                    | refine ew_ifeqB i91_105 (fun c105 => ?_) (fun c105 => ?_)
                    | refine ew_ifeq i91_105 (by omega) (fun c105 => ?_) (fun c105 => ?_)
                    · refine ew_iconst i91_126 ?_
                      refine ew_iadd i91_127 ?_
                      refine ev_istore_6 i91_128 rfl ?_
                      refine ew_iinc_7 i91_130 rfl ?_
                      refine ev_goto i91_133 ?_
                      first | exact e _ _ | (exfalso; omega)
                    · refine ev_iload_9 i91_108 ?_
                      first
                      | refine ew_ifeqB i91_110 (fun c110 => ?_) (fun c110 => ?_)
                      | refine ew_ifeq i91_110 (by omega) (fun c110 => ?_) (fun c110 => ?_)
                      · refine ew_iconst i91_126 ?_
                        refine ew_iadd i91_127 ?_
                        refine ev_istore_6 i91_128 rfl ?_
                        refine ew_iinc_7 i91_130 rfl ?_
                        refine ev_goto i91_133 ?_
                        first | exact e _ _ | (exfalso; omega)
                      · refine ev_aloadn_0 i91_113 ?_
                        refine ev_getA i91_114 g91_114 rfl rfl (by decide) ?_
                        refine ev_getA i91_117 g91_117 rfl rfl (by decide) ?_
                        refine ev_iload_7 i91_120 ?_
                        refine ew_iaload i91_122 rfl (by omega) (by omega) (by omega) (by first | exact hX.men | exact hX.told | exact hX.road | exact hX.tone _ (by omega) (by omega) | exact hX.corn _ (by omega) (by omega) | exact hX.stand _ (by omega) (by omega) | exact hX.reach _ (by omega) (by omega) | exact hX.arm _ (by omega) (by omega) | exact hX.late _ (by omega) (by omega) | exact hX.len _ (by omega) (by omega) | exact hX.say (by omega) (by omega) _ (by omega) (by omega)) (fun b122 => ?_)
                        refine ev_goto i91_123 ?_
                        refine ew_iadd i91_127 ?_
                        refine ev_istore_6 i91_128 rfl ?_
                        refine ew_iinc_7 i91_130 rfl ?_
                        refine ev_goto i91_133 ?_
                        first | exact e _ _ | (exfalso; omega)
              · refine ev_aloadn_0 i91_55 ?_
                refine ev_getA i91_56 g91_56 rfl rfl (by decide) ?_
                refine ev_getA i91_59 g91_59 rfl rfl (by decide) ?_
                refine ev_iload_7 i91_62 ?_
                refine ew_iaload i91_64 rfl (by omega) (by omega) (by omega) (by first | exact hX.men | exact hX.told | exact hX.road | exact hX.tone _ (by omega) (by omega) | exact hX.corn _ (by omega) (by omega) | exact hX.stand _ (by omega) (by omega) | exact hX.reach _ (by omega) (by omega) | exact hX.arm _ (by omega) (by omega) | exact hX.late _ (by omega) (by omega) | exact hX.len _ (by omega) (by omega) | exact hX.say (by omega) (by omega) _ (by omega) (by omega)) (fun b64 => ?_)
                refine ev_goto i91_65 ?_
                refine ew_iadd i91_69 ?_
                refine ev_istore_4 i91_70 rfl ?_
                refine ev_iload_5 i91_72 ?_
                refine ev_iload_9 i91_74 ?_
                first
                | refine ew_ifeqB i91_76 (fun c76 => ?_) (fun c76 => ?_)
                | refine ew_ifeq i91_76 (by omega) (fun c76 => ?_) (fun c76 => ?_)
                · refine ew_iconst i91_97 ?_
                  refine ew_iadd i91_98 ?_
                  refine ev_istore_5 i91_99 rfl ?_
                  refine ev_iload_6 i91_101 ?_
                  refine ev_iload_8 i91_103 ?_
                  first
                  | refine ew_ifeqB i91_105 (fun c105 => ?_) (fun c105 => ?_)
                  | refine ew_ifeq i91_105 (by omega) (fun c105 => ?_) (fun c105 => ?_)
                  · refine ew_iconst i91_126 ?_
                    refine ew_iadd i91_127 ?_
                    refine ev_istore_6 i91_128 rfl ?_
                    refine ew_iinc_7 i91_130 rfl ?_
                    refine ev_goto i91_133 ?_
                    first | exact e _ _ | (exfalso; omega)
                  · refine ev_iload_9 i91_108 ?_
                    first
                    | refine ew_ifeqB i91_110 (fun c110 => ?_) (fun c110 => ?_)
                    | refine ew_ifeq i91_110 (by omega) (fun c110 => ?_) (fun c110 => ?_)
                    · refine ew_iconst i91_126 ?_
                      refine ew_iadd i91_127 ?_
                      refine ev_istore_6 i91_128 rfl ?_
                      refine ew_iinc_7 i91_130 rfl ?_
                      refine ev_goto i91_133 ?_
                      first | exact e _ _ | (exfalso; omega)
                    · refine ev_aloadn_0 i91_113 ?_
                      refine ev_getA i91_114 g91_114 rfl rfl (by decide) ?_
                      refine ev_getA i91_117 g91_117 rfl rfl (by decide) ?_
                      refine ev_iload_7 i91_120 ?_
                      refine ew_iaload i91_122 rfl (by omega) (by omega) (by omega) (by first | exact hX.men | exact hX.told | exact hX.road | exact hX.tone _ (by omega) (by omega) | exact hX.corn _ (by omega) (by omega) | exact hX.stand _ (by omega) (by omega) | exact hX.reach _ (by omega) (by omega) | exact hX.arm _ (by omega) (by omega) | exact hX.late _ (by omega) (by omega) | exact hX.len _ (by omega) (by omega) | exact hX.say (by omega) (by omega) _ (by omega) (by omega)) (fun b122 => ?_)
                      refine ev_goto i91_123 ?_
                      refine ew_iadd i91_127 ?_
                      refine ev_istore_6 i91_128 rfl ?_
                      refine ew_iinc_7 i91_130 rfl ?_
                      refine ev_goto i91_133 ?_
                      first | exact e _ _ | (exfalso; omega)
                · refine ev_iload_8 i91_79 ?_
                  first
                  | refine ew_ifneB i91_81 (fun c81 => ?_) (fun c81 => ?_)
                  | refine ew_ifne i91_81 (by omega) (fun c81 => ?_) (fun c81 => ?_)
                  · refine ew_iconst i91_97 ?_
                    refine ew_iadd i91_98 ?_
                    refine ev_istore_5 i91_99 rfl ?_
                    refine ev_iload_6 i91_101 ?_
                    refine ev_iload_8 i91_103 ?_
                    first
                    | refine ew_ifeqB i91_105 (fun c105 => ?_) (fun c105 => ?_)
                    | refine ew_ifeq i91_105 (by omega) (fun c105 => ?_) (fun c105 => ?_)
                    · refine ew_iconst i91_126 ?_
                      refine ew_iadd i91_127 ?_
                      refine ev_istore_6 i91_128 rfl ?_
                      refine ew_iinc_7 i91_130 rfl ?_
                      refine ev_goto i91_133 ?_
                      first | exact e _ _ | (exfalso; omega)
                    · refine ev_iload_9 i91_108 ?_
                      first
                      | refine ew_ifeqB i91_110 (fun c110 => ?_) (fun c110 => ?_)
                      | refine ew_ifeq i91_110 (by omega) (fun c110 => ?_) (fun c110 => ?_)
                      · refine ew_iconst i91_126 ?_
                        refine ew_iadd i91_127 ?_
                        refine ev_istore_6 i91_128 rfl ?_
                        refine ew_iinc_7 i91_130 rfl ?_
                        refine ev_goto i91_133 ?_
                        first | exact e _ _ | (exfalso; omega)
                      · refine ev_aloadn_0 i91_113 ?_
                        refine ev_getA i91_114 g91_114 rfl rfl (by decide) ?_
                        refine ev_getA i91_117 g91_117 rfl rfl (by decide) ?_
                        refine ev_iload_7 i91_120 ?_
                        refine ew_iaload i91_122 rfl (by omega) (by omega) (by omega) (by first | exact hX.men | exact hX.told | exact hX.road | exact hX.tone _ (by omega) (by omega) | exact hX.corn _ (by omega) (by omega) | exact hX.stand _ (by omega) (by omega) | exact hX.reach _ (by omega) (by omega) | exact hX.arm _ (by omega) (by omega) | exact hX.late _ (by omega) (by omega) | exact hX.len _ (by omega) (by omega) | exact hX.say (by omega) (by omega) _ (by omega) (by omega)) (fun b122 => ?_)
                        refine ev_goto i91_123 ?_
                        refine ew_iadd i91_127 ?_
                        refine ev_istore_6 i91_128 rfl ?_
                        refine ew_iinc_7 i91_130 rfl ?_
                        refine ev_goto i91_133 ?_
                        first | exact e _ _ | (exfalso; omega)
                  · refine ev_aloadn_0 i91_84 ?_
                    refine ev_getA i91_85 g91_85 rfl rfl (by decide) ?_
                    refine ev_getA i91_88 g91_88 rfl rfl (by decide) ?_
                    refine ev_iload_7 i91_91 ?_
                    refine ew_iaload i91_93 rfl (by omega) (by omega) (by omega) (by first | exact hX.men | exact hX.told | exact hX.road | exact hX.tone _ (by omega) (by omega) | exact hX.corn _ (by omega) (by omega) | exact hX.stand _ (by omega) (by omega) | exact hX.reach _ (by omega) (by omega) | exact hX.arm _ (by omega) (by omega) | exact hX.late _ (by omega) (by omega) | exact hX.len _ (by omega) (by omega) | exact hX.say (by omega) (by omega) _ (by omega) (by omega)) (fun b93 => ?_)
                    refine ev_goto i91_94 ?_
                    refine ew_iadd i91_98 ?_
                    refine ev_istore_5 i91_99 rfl ?_
                    refine ev_iload_6 i91_101 ?_
                    refine ev_iload_8 i91_103 ?_
                    first
                    | refine ew_ifeqB i91_105 (fun c105 => ?_) (fun c105 => ?_)
                    | refine ew_ifeq i91_105 (by omega) (fun c105 => ?_) (fun c105 => ?_)
                    · refine ew_iconst i91_126 ?_
                      refine ew_iadd i91_127 ?_
                      refine ev_istore_6 i91_128 rfl ?_
                      refine ew_iinc_7 i91_130 rfl ?_
                      refine ev_goto i91_133 ?_
                      first | exact e _ _ | (exfalso; omega)
                    · refine ev_iload_9 i91_108 ?_
                      first
                      | refine ew_ifeqB i91_110 (fun c110 => ?_) (fun c110 => ?_)
                      | refine ew_ifeq i91_110 (by omega) (fun c110 => ?_) (fun c110 => ?_)
                      · refine ew_iconst i91_126 ?_
                        refine ew_iadd i91_127 ?_
                        refine ev_istore_6 i91_128 rfl ?_
                        refine ew_iinc_7 i91_130 rfl ?_
                        refine ev_goto i91_133 ?_
                        first | exact e _ _ | (exfalso; omega)
                      · refine ev_aloadn_0 i91_113 ?_
                        refine ev_getA i91_114 g91_114 rfl rfl (by decide) ?_
                        refine ev_getA i91_117 g91_117 rfl rfl (by decide) ?_
                        refine ev_iload_7 i91_120 ?_
                        refine ew_iaload i91_122 rfl (by omega) (by omega) (by omega) (by first | exact hX.men | exact hX.told | exact hX.road | exact hX.tone _ (by omega) (by omega) | exact hX.corn _ (by omega) (by omega) | exact hX.stand _ (by omega) (by omega) | exact hX.reach _ (by omega) (by omega) | exact hX.arm _ (by omega) (by omega) | exact hX.late _ (by omega) (by omega) | exact hX.len _ (by omega) (by omega) | exact hX.say (by omega) (by omega) _ (by omega) (by omega)) (fun b122 => ?_)
                        refine ev_goto i91_123 ?_
                        refine ew_iadd i91_127 ?_
                        refine ev_istore_6 i91_128 rfl ?_
                        refine ew_iinc_7 i91_130 rfl ?_
                        refine ev_goto i91_133 ?_
                        first | exact e _ _ | (exfalso; omega)
        · rw [if_neg (fun r : qA f a b p => ap r.1), if_neg (fun r : qA f b a p => bp r.1), if_neg (fun r : qO f a b p => ap r.1)] at e
          refine ev_iload_7 i91_12 ?_
          refine ew_bipush i91_14 (by decide) ?_
          refine ew_icmpge i91_16 (by omega) (fun c16 => ?_) (fun c16 => ?_)
          · exfalso; omega
          · refine ev_aloadn_0 i91_19 ?_
            refine ev_getA i91_20 g91_20 rfl rfl (by decide) ?_
            refine ev_iloadn_1 i91_23 ?_
            refine ev_iload_7 i91_24 ?_
            refine ev_virt2 i91_26 g91_26 rfl (by decide +kernel) (Nat.le_of_ble_eq_true rfl) (x_canStrike hX ha.1 ha.2 p0 hp ?_)
            rw [if_neg ap]
            refine ev_istore_8 i91_29 rfl ?_
            refine ev_aloadn_0 i91_31 ?_
            refine ev_getA i91_32 g91_32 rfl rfl (by decide) ?_
            refine ev_iloadn_2 i91_35 ?_
            refine ev_iload_7 i91_36 ?_
            refine ev_virt2 i91_38 g91_38 rfl (by decide +kernel) (Nat.le_of_ble_eq_true rfl) (x_canStrike hX hb.1 hb.2 p0 hp ?_)
            rw [if_neg bp]
            refine ev_istore_9 i91_41 rfl ?_
            refine ev_iload_4 i91_43 ?_
            refine ev_iload_8 i91_45 ?_
            first
            | refine ew_ifeqB i91_47 (fun c47 => ?_) (fun c47 => ?_)
            | refine ew_ifeq i91_47 (by omega) (fun c47 => ?_) (fun c47 => ?_)
            · refine ew_iconst i91_68 ?_
              refine ew_iadd i91_69 ?_
              refine ev_istore_4 i91_70 rfl ?_
              refine ev_iload_5 i91_72 ?_
              refine ev_iload_9 i91_74 ?_
              first
              | refine ew_ifeqB i91_76 (fun c76 => ?_) (fun c76 => ?_)
              | refine ew_ifeq i91_76 (by omega) (fun c76 => ?_) (fun c76 => ?_)
              · refine ew_iconst i91_97 ?_
                refine ew_iadd i91_98 ?_
                refine ev_istore_5 i91_99 rfl ?_
                refine ev_iload_6 i91_101 ?_
                refine ev_iload_8 i91_103 ?_
                first
                | refine ew_ifeqB i91_105 (fun c105 => ?_) (fun c105 => ?_)
                | refine ew_ifeq i91_105 (by omega) (fun c105 => ?_) (fun c105 => ?_)
                · refine ew_iconst i91_126 ?_
                  refine ew_iadd i91_127 ?_
                  refine ev_istore_6 i91_128 rfl ?_
                  refine ew_iinc_7 i91_130 rfl ?_
                  refine ev_goto i91_133 ?_
                  first | exact e _ _ | (exfalso; omega)
                · refine ev_iload_9 i91_108 ?_
                  first
                  | refine ew_ifeqB i91_110 (fun c110 => ?_) (fun c110 => ?_)
                  | refine ew_ifeq i91_110 (by omega) (fun c110 => ?_) (fun c110 => ?_)
                  · refine ew_iconst i91_126 ?_
                    refine ew_iadd i91_127 ?_
                    refine ev_istore_6 i91_128 rfl ?_
                    refine ew_iinc_7 i91_130 rfl ?_
                    refine ev_goto i91_133 ?_
                    first | exact e _ _ | (exfalso; omega)
                  · refine ev_aloadn_0 i91_113 ?_
                    refine ev_getA i91_114 g91_114 rfl rfl (by decide) ?_
                    refine ev_getA i91_117 g91_117 rfl rfl (by decide) ?_
                    refine ev_iload_7 i91_120 ?_
                    refine ew_iaload i91_122 rfl (by omega) (by omega) (by omega) (by first | exact hX.men | exact hX.told | exact hX.road | exact hX.tone _ (by omega) (by omega) | exact hX.corn _ (by omega) (by omega) | exact hX.stand _ (by omega) (by omega) | exact hX.reach _ (by omega) (by omega) | exact hX.arm _ (by omega) (by omega) | exact hX.late _ (by omega) (by omega) | exact hX.len _ (by omega) (by omega) | exact hX.say (by omega) (by omega) _ (by omega) (by omega)) (fun b122 => ?_)
                    refine ev_goto i91_123 ?_
                    refine ew_iadd i91_127 ?_
                    refine ev_istore_6 i91_128 rfl ?_
                    refine ew_iinc_7 i91_130 rfl ?_
                    refine ev_goto i91_133 ?_
                    first | exact e _ _ | (exfalso; omega)
              · refine ev_iload_8 i91_79 ?_
                first
                | refine ew_ifneB i91_81 (fun c81 => ?_) (fun c81 => ?_)
                | refine ew_ifne i91_81 (by omega) (fun c81 => ?_) (fun c81 => ?_)
                · refine ew_iconst i91_97 ?_
                  refine ew_iadd i91_98 ?_
                  refine ev_istore_5 i91_99 rfl ?_
                  refine ev_iload_6 i91_101 ?_
                  refine ev_iload_8 i91_103 ?_
                  first
                  | refine ew_ifeqB i91_105 (fun c105 => ?_) (fun c105 => ?_)
                  | refine ew_ifeq i91_105 (by omega) (fun c105 => ?_) (fun c105 => ?_)
                  · refine ew_iconst i91_126 ?_
                    refine ew_iadd i91_127 ?_
                    refine ev_istore_6 i91_128 rfl ?_
                    refine ew_iinc_7 i91_130 rfl ?_
                    refine ev_goto i91_133 ?_
                    first | exact e _ _ | (exfalso; omega)
                  · refine ev_iload_9 i91_108 ?_
                    first
                    | refine ew_ifeqB i91_110 (fun c110 => ?_) (fun c110 => ?_)
                    | refine ew_ifeq i91_110 (by omega) (fun c110 => ?_) (fun c110 => ?_)
                    · refine ew_iconst i91_126 ?_
                      refine ew_iadd i91_127 ?_
                      refine ev_istore_6 i91_128 rfl ?_
                      refine ew_iinc_7 i91_130 rfl ?_
                      refine ev_goto i91_133 ?_
                      first | exact e _ _ | (exfalso; omega)
                    · refine ev_aloadn_0 i91_113 ?_
                      refine ev_getA i91_114 g91_114 rfl rfl (by decide) ?_
                      refine ev_getA i91_117 g91_117 rfl rfl (by decide) ?_
                      refine ev_iload_7 i91_120 ?_
                      refine ew_iaload i91_122 rfl (by omega) (by omega) (by omega) (by first | exact hX.men | exact hX.told | exact hX.road | exact hX.tone _ (by omega) (by omega) | exact hX.corn _ (by omega) (by omega) | exact hX.stand _ (by omega) (by omega) | exact hX.reach _ (by omega) (by omega) | exact hX.arm _ (by omega) (by omega) | exact hX.late _ (by omega) (by omega) | exact hX.len _ (by omega) (by omega) | exact hX.say (by omega) (by omega) _ (by omega) (by omega)) (fun b122 => ?_)
                      refine ev_goto i91_123 ?_
                      refine ew_iadd i91_127 ?_
                      refine ev_istore_6 i91_128 rfl ?_
                      refine ew_iinc_7 i91_130 rfl ?_
                      refine ev_goto i91_133 ?_
                      first | exact e _ _ | (exfalso; omega)
                · refine ev_aloadn_0 i91_84 ?_
                  refine ev_getA i91_85 g91_85 rfl rfl (by decide) ?_
                  refine ev_getA i91_88 g91_88 rfl rfl (by decide) ?_
                  refine ev_iload_7 i91_91 ?_
                  refine ew_iaload i91_93 rfl (by omega) (by omega) (by omega) (by first | exact hX.men | exact hX.told | exact hX.road | exact hX.tone _ (by omega) (by omega) | exact hX.corn _ (by omega) (by omega) | exact hX.stand _ (by omega) (by omega) | exact hX.reach _ (by omega) (by omega) | exact hX.arm _ (by omega) (by omega) | exact hX.late _ (by omega) (by omega) | exact hX.len _ (by omega) (by omega) | exact hX.say (by omega) (by omega) _ (by omega) (by omega)) (fun b93 => ?_)
                  refine ev_goto i91_94 ?_
                  refine ew_iadd i91_98 ?_
                  refine ev_istore_5 i91_99 rfl ?_
                  refine ev_iload_6 i91_101 ?_
                  refine ev_iload_8 i91_103 ?_
                  first
                  | refine ew_ifeqB i91_105 (fun c105 => ?_) (fun c105 => ?_)
                  | refine ew_ifeq i91_105 (by omega) (fun c105 => ?_) (fun c105 => ?_)
                  · refine ew_iconst i91_126 ?_
                    refine ew_iadd i91_127 ?_
                    refine ev_istore_6 i91_128 rfl ?_
                    refine ew_iinc_7 i91_130 rfl ?_
                    refine ev_goto i91_133 ?_
                    first | exact e _ _ | (exfalso; omega)
                  · refine ev_iload_9 i91_108 ?_
                    first
                    | refine ew_ifeqB i91_110 (fun c110 => ?_) (fun c110 => ?_)
                    | refine ew_ifeq i91_110 (by omega) (fun c110 => ?_) (fun c110 => ?_)
                    · refine ew_iconst i91_126 ?_
                      refine ew_iadd i91_127 ?_
                      refine ev_istore_6 i91_128 rfl ?_
                      refine ew_iinc_7 i91_130 rfl ?_
                      refine ev_goto i91_133 ?_
                      first | exact e _ _ | (exfalso; omega)
                    · refine ev_aloadn_0 i91_113 ?_
                      refine ev_getA i91_114 g91_114 rfl rfl (by decide) ?_
                      refine ev_getA i91_117 g91_117 rfl rfl (by decide) ?_
                      refine ev_iload_7 i91_120 ?_
                      refine ew_iaload i91_122 rfl (by omega) (by omega) (by omega) (by first | exact hX.men | exact hX.told | exact hX.road | exact hX.tone _ (by omega) (by omega) | exact hX.corn _ (by omega) (by omega) | exact hX.stand _ (by omega) (by omega) | exact hX.reach _ (by omega) (by omega) | exact hX.arm _ (by omega) (by omega) | exact hX.late _ (by omega) (by omega) | exact hX.len _ (by omega) (by omega) | exact hX.say (by omega) (by omega) _ (by omega) (by omega)) (fun b122 => ?_)
                      refine ev_goto i91_123 ?_
                      refine ew_iadd i91_127 ?_
                      refine ev_istore_6 i91_128 rfl ?_
                      refine ew_iinc_7 i91_130 rfl ?_
                      refine ev_goto i91_133 ?_
                      first | exact e _ _ | (exfalso; omega)
            · refine ev_iload_9 i91_50 ?_
              first
              | refine ew_ifneB i91_52 (fun c52 => ?_) (fun c52 => ?_)
              | refine ew_ifne i91_52 (by omega) (fun c52 => ?_) (fun c52 => ?_)
              · refine ew_iconst i91_68 ?_
                refine ew_iadd i91_69 ?_
                refine ev_istore_4 i91_70 rfl ?_
                refine ev_iload_5 i91_72 ?_
                refine ev_iload_9 i91_74 ?_
                first
                | refine ew_ifeqB i91_76 (fun c76 => ?_) (fun c76 => ?_)
                | refine ew_ifeq i91_76 (by omega) (fun c76 => ?_) (fun c76 => ?_)
                · refine ew_iconst i91_97 ?_
                  refine ew_iadd i91_98 ?_
                  refine ev_istore_5 i91_99 rfl ?_
                  refine ev_iload_6 i91_101 ?_
                  refine ev_iload_8 i91_103 ?_
                  first
                  | refine ew_ifeqB i91_105 (fun c105 => ?_) (fun c105 => ?_)
                  | refine ew_ifeq i91_105 (by omega) (fun c105 => ?_) (fun c105 => ?_)
                  · refine ew_iconst i91_126 ?_
                    refine ew_iadd i91_127 ?_
                    refine ev_istore_6 i91_128 rfl ?_
                    refine ew_iinc_7 i91_130 rfl ?_
                    refine ev_goto i91_133 ?_
                    first | exact e _ _ | (exfalso; omega)
                  · refine ev_iload_9 i91_108 ?_
                    first
                    | refine ew_ifeqB i91_110 (fun c110 => ?_) (fun c110 => ?_)
                    | refine ew_ifeq i91_110 (by omega) (fun c110 => ?_) (fun c110 => ?_)
                    · refine ew_iconst i91_126 ?_
                      refine ew_iadd i91_127 ?_
                      refine ev_istore_6 i91_128 rfl ?_
                      refine ew_iinc_7 i91_130 rfl ?_
                      refine ev_goto i91_133 ?_
                      first | exact e _ _ | (exfalso; omega)
                    · refine ev_aloadn_0 i91_113 ?_
                      refine ev_getA i91_114 g91_114 rfl rfl (by decide) ?_
                      refine ev_getA i91_117 g91_117 rfl rfl (by decide) ?_
                      refine ev_iload_7 i91_120 ?_
                      refine ew_iaload i91_122 rfl (by omega) (by omega) (by omega) (by first | exact hX.men | exact hX.told | exact hX.road | exact hX.tone _ (by omega) (by omega) | exact hX.corn _ (by omega) (by omega) | exact hX.stand _ (by omega) (by omega) | exact hX.reach _ (by omega) (by omega) | exact hX.arm _ (by omega) (by omega) | exact hX.late _ (by omega) (by omega) | exact hX.len _ (by omega) (by omega) | exact hX.say (by omega) (by omega) _ (by omega) (by omega)) (fun b122 => ?_)
                      refine ev_goto i91_123 ?_
                      refine ew_iadd i91_127 ?_
                      refine ev_istore_6 i91_128 rfl ?_
                      refine ew_iinc_7 i91_130 rfl ?_
                      refine ev_goto i91_133 ?_
                      first | exact e _ _ | (exfalso; omega)
                · refine ev_iload_8 i91_79 ?_
                  first
                  | refine ew_ifneB i91_81 (fun c81 => ?_) (fun c81 => ?_)
                  | refine ew_ifne i91_81 (by omega) (fun c81 => ?_) (fun c81 => ?_)
                  · refine ew_iconst i91_97 ?_
                    refine ew_iadd i91_98 ?_
                    refine ev_istore_5 i91_99 rfl ?_
                    refine ev_iload_6 i91_101 ?_
                    refine ev_iload_8 i91_103 ?_
                    first
                    | refine ew_ifeqB i91_105 (fun c105 => ?_) (fun c105 => ?_)
                    | refine ew_ifeq i91_105 (by omega) (fun c105 => ?_) (fun c105 => ?_)
                    · refine ew_iconst i91_126 ?_
                      refine ew_iadd i91_127 ?_
                      refine ev_istore_6 i91_128 rfl ?_
                      refine ew_iinc_7 i91_130 rfl ?_
                      refine ev_goto i91_133 ?_
                      first | exact e _ _ | (exfalso; omega)
                    · refine ev_iload_9 i91_108 ?_
                      first
                      | refine ew_ifeqB i91_110 (fun c110 => ?_) (fun c110 => ?_)
                      | refine ew_ifeq i91_110 (by omega) (fun c110 => ?_) (fun c110 => ?_)
                      · refine ew_iconst i91_126 ?_
                        refine ew_iadd i91_127 ?_
                        refine ev_istore_6 i91_128 rfl ?_
                        refine ew_iinc_7 i91_130 rfl ?_
                        refine ev_goto i91_133 ?_
                        first | exact e _ _ | (exfalso; omega)
                      · refine ev_aloadn_0 i91_113 ?_
                        refine ev_getA i91_114 g91_114 rfl rfl (by decide) ?_
                        refine ev_getA i91_117 g91_117 rfl rfl (by decide) ?_
                        refine ev_iload_7 i91_120 ?_
                        refine ew_iaload i91_122 rfl (by omega) (by omega) (by omega) (by first | exact hX.men | exact hX.told | exact hX.road | exact hX.tone _ (by omega) (by omega) | exact hX.corn _ (by omega) (by omega) | exact hX.stand _ (by omega) (by omega) | exact hX.reach _ (by omega) (by omega) | exact hX.arm _ (by omega) (by omega) | exact hX.late _ (by omega) (by omega) | exact hX.len _ (by omega) (by omega) | exact hX.say (by omega) (by omega) _ (by omega) (by omega)) (fun b122 => ?_)
                        refine ev_goto i91_123 ?_
                        refine ew_iadd i91_127 ?_
                        refine ev_istore_6 i91_128 rfl ?_
                        refine ew_iinc_7 i91_130 rfl ?_
                        refine ev_goto i91_133 ?_
                        first | exact e _ _ | (exfalso; omega)
                  · refine ev_aloadn_0 i91_84 ?_
                    refine ev_getA i91_85 g91_85 rfl rfl (by decide) ?_
                    refine ev_getA i91_88 g91_88 rfl rfl (by decide) ?_
                    refine ev_iload_7 i91_91 ?_
                    refine ew_iaload i91_93 rfl (by omega) (by omega) (by omega) (by first | exact hX.men | exact hX.told | exact hX.road | exact hX.tone _ (by omega) (by omega) | exact hX.corn _ (by omega) (by omega) | exact hX.stand _ (by omega) (by omega) | exact hX.reach _ (by omega) (by omega) | exact hX.arm _ (by omega) (by omega) | exact hX.late _ (by omega) (by omega) | exact hX.len _ (by omega) (by omega) | exact hX.say (by omega) (by omega) _ (by omega) (by omega)) (fun b93 => ?_)
                    refine ev_goto i91_94 ?_
                    refine ew_iadd i91_98 ?_
                    refine ev_istore_5 i91_99 rfl ?_
                    refine ev_iload_6 i91_101 ?_
                    refine ev_iload_8 i91_103 ?_
                    first
                    | refine ew_ifeqB i91_105 (fun c105 => ?_) (fun c105 => ?_)
                    | refine ew_ifeq i91_105 (by omega) (fun c105 => ?_) (fun c105 => ?_)
                    · refine ew_iconst i91_126 ?_
                      refine ew_iadd i91_127 ?_
                      refine ev_istore_6 i91_128 rfl ?_
                      refine ew_iinc_7 i91_130 rfl ?_
                      refine ev_goto i91_133 ?_
                      first | exact e _ _ | (exfalso; omega)
                    · refine ev_iload_9 i91_108 ?_
                      first
                      | refine ew_ifeqB i91_110 (fun c110 => ?_) (fun c110 => ?_)
                      | refine ew_ifeq i91_110 (by omega) (fun c110 => ?_) (fun c110 => ?_)
                      · refine ew_iconst i91_126 ?_
                        refine ew_iadd i91_127 ?_
                        refine ev_istore_6 i91_128 rfl ?_
                        refine ew_iinc_7 i91_130 rfl ?_
                        refine ev_goto i91_133 ?_
                        first | exact e _ _ | (exfalso; omega)
                      · refine ev_aloadn_0 i91_113 ?_
                        refine ev_getA i91_114 g91_114 rfl rfl (by decide) ?_
                        refine ev_getA i91_117 g91_117 rfl rfl (by decide) ?_
                        refine ev_iload_7 i91_120 ?_
                        refine ew_iaload i91_122 rfl (by omega) (by omega) (by omega) (by first | exact hX.men | exact hX.told | exact hX.road | exact hX.tone _ (by omega) (by omega) | exact hX.corn _ (by omega) (by omega) | exact hX.stand _ (by omega) (by omega) | exact hX.reach _ (by omega) (by omega) | exact hX.arm _ (by omega) (by omega) | exact hX.late _ (by omega) (by omega) | exact hX.len _ (by omega) (by omega) | exact hX.say (by omega) (by omega) _ (by omega) (by omega)) (fun b122 => ?_)
                        refine ev_goto i91_123 ?_
                        refine ew_iadd i91_127 ?_
                        refine ev_istore_6 i91_128 rfl ?_
                        refine ew_iinc_7 i91_130 rfl ?_
                        refine ev_goto i91_133 ?_
                        first | exact e _ _ | (exfalso; omega)
              · refine ev_aloadn_0 i91_55 ?_
                refine ev_getA i91_56 g91_56 rfl rfl (by decide) ?_
                refine ev_getA i91_59 g91_59 rfl rfl (by decide) ?_
                refine ev_iload_7 i91_62 ?_
                refine ew_iaload i91_64 rfl (by omega) (by omega) (by omega) (by first | exact hX.men | exact hX.told | exact hX.road | exact hX.tone _ (by omega) (by omega) | exact hX.corn _ (by omega) (by omega) | exact hX.stand _ (by omega) (by omega) | exact hX.reach _ (by omega) (by omega) | exact hX.arm _ (by omega) (by omega) | exact hX.late _ (by omega) (by omega) | exact hX.len _ (by omega) (by omega) | exact hX.say (by omega) (by omega) _ (by omega) (by omega)) (fun b64 => ?_)
                refine ev_goto i91_65 ?_
                refine ew_iadd i91_69 ?_
                refine ev_istore_4 i91_70 rfl ?_
                refine ev_iload_5 i91_72 ?_
                refine ev_iload_9 i91_74 ?_
                first
                | refine ew_ifeqB i91_76 (fun c76 => ?_) (fun c76 => ?_)
                | refine ew_ifeq i91_76 (by omega) (fun c76 => ?_) (fun c76 => ?_)
                · refine ew_iconst i91_97 ?_
                  refine ew_iadd i91_98 ?_
                  refine ev_istore_5 i91_99 rfl ?_
                  refine ev_iload_6 i91_101 ?_
                  refine ev_iload_8 i91_103 ?_
                  first
                  | refine ew_ifeqB i91_105 (fun c105 => ?_) (fun c105 => ?_)
                  | refine ew_ifeq i91_105 (by omega) (fun c105 => ?_) (fun c105 => ?_)
                  · refine ew_iconst i91_126 ?_
                    refine ew_iadd i91_127 ?_
                    refine ev_istore_6 i91_128 rfl ?_
                    refine ew_iinc_7 i91_130 rfl ?_
                    refine ev_goto i91_133 ?_
                    first | exact e _ _ | (exfalso; omega)
                  · refine ev_iload_9 i91_108 ?_
                    first
                    | refine ew_ifeqB i91_110 (fun c110 => ?_) (fun c110 => ?_)
                    | refine ew_ifeq i91_110 (by omega) (fun c110 => ?_) (fun c110 => ?_)
                    · refine ew_iconst i91_126 ?_
                      refine ew_iadd i91_127 ?_
                      refine ev_istore_6 i91_128 rfl ?_
                      refine ew_iinc_7 i91_130 rfl ?_
                      refine ev_goto i91_133 ?_
                      first | exact e _ _ | (exfalso; omega)
                    · refine ev_aloadn_0 i91_113 ?_
                      refine ev_getA i91_114 g91_114 rfl rfl (by decide) ?_
                      refine ev_getA i91_117 g91_117 rfl rfl (by decide) ?_
                      refine ev_iload_7 i91_120 ?_
                      refine ew_iaload i91_122 rfl (by omega) (by omega) (by omega) (by first | exact hX.men | exact hX.told | exact hX.road | exact hX.tone _ (by omega) (by omega) | exact hX.corn _ (by omega) (by omega) | exact hX.stand _ (by omega) (by omega) | exact hX.reach _ (by omega) (by omega) | exact hX.arm _ (by omega) (by omega) | exact hX.late _ (by omega) (by omega) | exact hX.len _ (by omega) (by omega) | exact hX.say (by omega) (by omega) _ (by omega) (by omega)) (fun b122 => ?_)
                      refine ev_goto i91_123 ?_
                      refine ew_iadd i91_127 ?_
                      refine ev_istore_6 i91_128 rfl ?_
                      refine ew_iinc_7 i91_130 rfl ?_
                      refine ev_goto i91_133 ?_
                      first | exact e _ _ | (exfalso; omega)
                · refine ev_iload_8 i91_79 ?_
                  first
                  | refine ew_ifneB i91_81 (fun c81 => ?_) (fun c81 => ?_)
                  | refine ew_ifne i91_81 (by omega) (fun c81 => ?_) (fun c81 => ?_)
                  · refine ew_iconst i91_97 ?_
                    refine ew_iadd i91_98 ?_
                    refine ev_istore_5 i91_99 rfl ?_
                    refine ev_iload_6 i91_101 ?_
                    refine ev_iload_8 i91_103 ?_
                    first
                    | refine ew_ifeqB i91_105 (fun c105 => ?_) (fun c105 => ?_)
                    | refine ew_ifeq i91_105 (by omega) (fun c105 => ?_) (fun c105 => ?_)
                    · refine ew_iconst i91_126 ?_
                      refine ew_iadd i91_127 ?_
                      refine ev_istore_6 i91_128 rfl ?_
                      refine ew_iinc_7 i91_130 rfl ?_
                      refine ev_goto i91_133 ?_
                      first | exact e _ _ | (exfalso; omega)
                    · refine ev_iload_9 i91_108 ?_
                      first
                      | refine ew_ifeqB i91_110 (fun c110 => ?_) (fun c110 => ?_)
                      | refine ew_ifeq i91_110 (by omega) (fun c110 => ?_) (fun c110 => ?_)
                      · refine ew_iconst i91_126 ?_
                        refine ew_iadd i91_127 ?_
                        refine ev_istore_6 i91_128 rfl ?_
                        refine ew_iinc_7 i91_130 rfl ?_
                        refine ev_goto i91_133 ?_
                        first | exact e _ _ | (exfalso; omega)
                      · refine ev_aloadn_0 i91_113 ?_
                        refine ev_getA i91_114 g91_114 rfl rfl (by decide) ?_
                        refine ev_getA i91_117 g91_117 rfl rfl (by decide) ?_
                        refine ev_iload_7 i91_120 ?_
                        refine ew_iaload i91_122 rfl (by omega) (by omega) (by omega) (by first | exact hX.men | exact hX.told | exact hX.road | exact hX.tone _ (by omega) (by omega) | exact hX.corn _ (by omega) (by omega) | exact hX.stand _ (by omega) (by omega) | exact hX.reach _ (by omega) (by omega) | exact hX.arm _ (by omega) (by omega) | exact hX.late _ (by omega) (by omega) | exact hX.len _ (by omega) (by omega) | exact hX.say (by omega) (by omega) _ (by omega) (by omega)) (fun b122 => ?_)
                        refine ev_goto i91_123 ?_
                        refine ew_iadd i91_127 ?_
                        refine ev_istore_6 i91_128 rfl ?_
                        refine ew_iinc_7 i91_130 rfl ?_
                        refine ev_goto i91_133 ?_
                        first | exact e _ _ | (exfalso; omega)
                  · refine ev_aloadn_0 i91_84 ?_
                    refine ev_getA i91_85 g91_85 rfl rfl (by decide) ?_
                    refine ev_getA i91_88 g91_88 rfl rfl (by decide) ?_
                    refine ev_iload_7 i91_91 ?_
                    refine ew_iaload i91_93 rfl (by omega) (by omega) (by omega) (by first | exact hX.men | exact hX.told | exact hX.road | exact hX.tone _ (by omega) (by omega) | exact hX.corn _ (by omega) (by omega) | exact hX.stand _ (by omega) (by omega) | exact hX.reach _ (by omega) (by omega) | exact hX.arm _ (by omega) (by omega) | exact hX.late _ (by omega) (by omega) | exact hX.len _ (by omega) (by omega) | exact hX.say (by omega) (by omega) _ (by omega) (by omega)) (fun b93 => ?_)
                    refine ev_goto i91_94 ?_
                    refine ew_iadd i91_98 ?_
                    refine ev_istore_5 i91_99 rfl ?_
                    refine ev_iload_6 i91_101 ?_
                    refine ev_iload_8 i91_103 ?_
                    first
                    | refine ew_ifeqB i91_105 (fun c105 => ?_) (fun c105 => ?_)
                    | refine ew_ifeq i91_105 (by omega) (fun c105 => ?_) (fun c105 => ?_)
                    · refine ew_iconst i91_126 ?_
                      refine ew_iadd i91_127 ?_
                      refine ev_istore_6 i91_128 rfl ?_
                      refine ew_iinc_7 i91_130 rfl ?_
                      refine ev_goto i91_133 ?_
                      first | exact e _ _ | (exfalso; omega)
                    · refine ev_iload_9 i91_108 ?_
                      first
                      | refine ew_ifeqB i91_110 (fun c110 => ?_) (fun c110 => ?_)
                      | refine ew_ifeq i91_110 (by omega) (fun c110 => ?_) (fun c110 => ?_)
                      · refine ew_iconst i91_126 ?_
                        refine ew_iadd i91_127 ?_
                        refine ev_istore_6 i91_128 rfl ?_
                        refine ew_iinc_7 i91_130 rfl ?_
                        refine ev_goto i91_133 ?_
                        first | exact e _ _ | (exfalso; omega)
                      · refine ev_aloadn_0 i91_113 ?_
                        refine ev_getA i91_114 g91_114 rfl rfl (by decide) ?_
                        refine ev_getA i91_117 g91_117 rfl rfl (by decide) ?_
                        refine ev_iload_7 i91_120 ?_
                        refine ew_iaload i91_122 rfl (by omega) (by omega) (by omega) (by first | exact hX.men | exact hX.told | exact hX.road | exact hX.tone _ (by omega) (by omega) | exact hX.corn _ (by omega) (by omega) | exact hX.stand _ (by omega) (by omega) | exact hX.reach _ (by omega) (by omega) | exact hX.arm _ (by omega) (by omega) | exact hX.late _ (by omega) (by omega) | exact hX.len _ (by omega) (by omega) | exact hX.say (by omega) (by omega) _ (by omega) (by omega)) (fun b122 => ?_)
                        refine ev_goto i91_123 ?_
                        refine ew_iadd i91_127 ?_
                        refine ev_istore_6 i91_128 rfl ?_
                        refine ew_iinc_7 i91_130 rfl ?_
                        refine ev_goto i91_133 ?_
                        first | exact e _ _ | (exfalso; omega)
    · obtain rfl : p = 16 := by omega
      have g0 := gr (zsq (qA f b a) (f_corn f)) (zsq (qA f a b) (f_corn f)) (zsq (qO f a b) (f_corn f))
      refine ev_iload_7 i91_12 ?_
      refine ew_bipush i91_14 (by decide) ?_
      refine ew_icmpge i91_16 (by omega) (fun c16 => ?_) (fun c16 => ?_)
      · refine ev_aloadn_0 i91_136 ?_
        refine ew_bipush i91_137 (by decide) ?_
        refine ev_putI i91_139 g91_139 rfl ?_
        refine ev_aloadn_0 i91_142 ?_
        refine ev_iload_5 i91_143 ?_
        refine ev_iload_4 i91_145 ?_
        refine ev_iload_6 i91_147 ?_
        refine ev_iloadn_3 i91_149 ?_
        refine ew_iconst i91_150 ?_
        refine ew_isub i91_151 ?_
        refine ev_stat4 i91_152 g91_152 (by decide +kernel) (Nat.le_of_ble_eq_true rfl) (x_gain4 (m := zsq (qA f b a) (f_corn f)) (y := zsq (qA f a b) (f_corn f)) (o := zsq (qO f a b) (f_corn f)) (by omega) (by unfold zsq; omega) (by unfold zsq; omega) (by unfold zsq; omega) ?_)
        refine ew_ineg i91_155 ?_
        refine ev_putI i91_156 g91_156 rfl ?_
        refine ew_iconst i91_159 ?_
        refine ev_istore_7 i91_160 rfl ?_
        have hi : BI f a b n 0 (g_rest f a b n) 16 := Or.inl ⟨rfl, rfl, fun q q0 q1 => by omega⟩
        have e := second 0 (by decide) (by decide) _ _ (ts_up (ts_up I 42 3 (zI 16)) 42 2 (zI (g_rest f a b n))) o o2 (by omega) (by omega) hi (fr_up (fr_up (fr_rfl _ _) (by omega)) (by omega)) (rd_zI (by omega)) (rd_zI (by decide))
        rw [hrest] at e
        exact e
      · exfalso; omega
  refine ev_enter (lv := [.ref 42, .int (zI (a)), .int (zI (b)), .int (zI (n)), .null, .null, .null, .null, .null, .null]) l91 rfl (Nat.le_of_ble_eq_true rfl) ?_
  refine ew_iconst i91_0 ?_
  refine ev_istore_4 i91_1 rfl ?_
  refine ew_iconst i91_3 ?_
  refine ev_istore_5 i91_4 rfl ?_
  refine ew_iconst i91_6 ?_
  refine ev_istore_6 i91_7 rfl ?_
  refine ew_iconst i91_9 ?_
  refine ev_istore_7 i91_10 rfl ?_
  exact firstl 0 (by decide) (by decide) _ _
theorem x_byTurns (hX : RX I f) {ab n w : Int} (hab : -2147483648 ≤ ab ∧ ab ≤ 2147483647) (hn : -2147483648 ≤ n ∧ n ≤ 2147483647) (hw : -2147483648 ≤ w ∧ w ≤ 2147483647) (hK : ∀ J, fr ftu I J → K (some (.int (zI (g_byA f ab n w)))) (J, L, ts_P0 sw, ts_S0)) : ts_Cal X (d + 7) 118 [.ref 1, .int (zI (ab)), .int (zI (n)), .int (zI (w))] (I, L, ts_P0 sw, ts_S0) K := by
  have b1 := hX.men.2
  unfold g_byA at hK
  refine ev_enter (lv := [.ref 1, .int (zI (ab)), .int (zI (n)), .int (zI (w)), .null, .null]) l118 rfl (Nat.le_of_ble_eq_true rfl) ?_
  refine ev_iloadn_1 i118_0 ?_
  refine ew_iflt i118_1 (by omega) (fun c1 => ?_) (fun c1 => ?_)
  · refine ew_ldc_w (z := (-2000000000)) i118_21 g118_21 (by decide) ?_
    refine ev_ireturn i118_24 r118 ?_
    rw [if_pos (by omega)] at hK
    exact hK I (fr_rfl _ _)
  · refine ev_iloadn_2 i118_4 ?_
    refine ew_iconst i118_5 ?_
    refine ew_icmplt i118_6 (by omega) (fun c6 => ?_) (fun c6 => ?_)
    · refine ew_ldc_w (z := (-2000000000)) i118_21 g118_21 (by decide) ?_
      refine ev_ireturn i118_24 r118 ?_
      rw [if_pos (by omega)] at hK
      exact hK I (fr_rfl _ _)
    · refine ev_iloadn_2 i118_9 ?_
      refine ew_iconst i118_10 ?_
      refine ew_icmpgt i118_11 (by omega) (fun c11 => ?_) (fun c11 => ?_)
      · refine ew_ldc_w (z := (-2000000000)) i118_21 g118_21 (by decide) ?_
        refine ev_ireturn i118_24 r118 ?_
        rw [if_pos (by omega)] at hK
        exact hK I (fr_rfl _ _)
      · refine ev_iloadn_3 i118_14 ?_
        refine ev_stat1 i118_15 g118_15 (by decide +kernel) (Nat.le_of_ble_eq_true rfl) (x_isPart hw ?_)
        first
        | refine ew_ifneB i118_18 (fun c18 => ?_) (fun c18 => ?_)
        | refine ew_ifne i118_18 (by omega) (fun c18 => ?_) (fun c18 => ?_)
        · refine ev_iloadn_1 i118_25 ?_
          refine ew_bipush i118_26 (by decide) ?_
          refine ew_idiv i118_28 (by omega) (by omega) ?_
          refine ev_istore_4 i118_29 rfl ?_
          refine ev_iloadn_1 i118_31 ?_
          refine ew_bipush i118_32 (by decide) ?_
          refine ew_irem i118_34 (by omega) (by omega) ?_
          refine ev_istore_5 i118_35 rfl ?_
          refine ev_iload_4 i118_37 ?_
          refine ev_iload_5 i118_39 ?_
          refine ew_icmpeq i118_41 (by omega) (fun c41 => ?_) (fun c41 => ?_)
          · refine ew_ldc_w (z := (-2000000000)) i118_68 g118_68 (by decide) ?_
            refine ev_ireturn i118_71 r118 ?_
            rw [if_pos (by omega)] at hK
            exact hK I (fr_rfl _ _)
          · refine ev_aloadn_0 i118_44 ?_
            refine ev_getA i118_45 g118_45 rfl rfl (by decide) ?_
            refine ev_iload_4 i118_48 ?_
            refine ev_virt1 i118_50 g118_50 rfl (by decide +kernel) (Nat.le_of_ble_eq_true rfl) (x_hasMan hX (by omega) ?_)
            first
            | refine ew_ifeqB i118_53 (fun c53 => ?_) (fun c53 => ?_)
            | refine ew_ifeq i118_53 (by omega) (fun c53 => ?_) (fun c53 => ?_)
            · refine ew_ldc_w (z := (-2000000000)) i118_68 g118_68 (by decide) ?_
              refine ev_ireturn i118_71 r118 ?_
              rw [if_pos (by omega)] at hK
              exact hK I (fr_rfl _ _)
            · refine ev_aloadn_0 i118_56 ?_
              refine ev_getA i118_57 g118_57 rfl rfl (by decide) ?_
              refine ev_iload_5 i118_60 ?_
              refine ev_virt1 i118_62 g118_62 rfl (by decide +kernel) (Nat.le_of_ble_eq_true rfl) (x_hasMan hX (by omega) ?_)
              first
              | refine ew_ifneB i118_65 (fun c65 => ?_) (fun c65 => ?_)
              | refine ew_ifne i118_65 (by omega) (fun c65 => ?_) (fun c65 => ?_)
              · rw [if_neg (by omega)] at hK
                refine ev_aloadn_0 i118_72 ?_
                refine ev_getA i118_73 g118_73 rfl rfl (by decide) ?_
                refine ev_iload_4 i118_76 ?_
                refine ev_iload_5 i118_78 ?_
                refine ev_iloadn_2 i118_80 ?_
                refine ev_virt3 i118_81 g118_81 rfl (by decide +kernel) (Nat.le_of_ble_eq_true rfl) (x_playBest hX (by omega) (by omega) (by omega) (fun J h1 h2 h3 => ?_))
                refine ev_iloadn_3 i118_84 ?_
                first
                | refine ew_ifneB i118_85 (fun c85 => ?_) (fun c85 => ?_)
                | refine ew_ifne i118_85 (by omega) (fun c85 => ?_) (fun c85 => ?_)
                · refine ev_aloadn_0 i118_98 ?_
                  refine ev_getA i118_99 g118_99 rfl rfl (by decide) ?_
                  refine ew_getI i118_102 g118_102 rfl (h3) (fun b102 => ?_)
                  refine ev_ireturn i118_105 r118 ?_
                  have e := hK J h1
                  first
                  | (rw [c85] at e
                     exact e)
                  | (rw [show w = 1 from by omega] at e
                     exact e)
                · refine ev_aloadn_0 i118_88 ?_
                  refine ev_getA i118_89 g118_89 rfl rfl (by decide) ?_
                  refine ew_getI i118_92 g118_92 rfl (h2) (fun b92 => ?_)
                  refine ev_goto i118_95 ?_
                  refine ev_ireturn i118_105 r118 ?_
                  have e := hK J h1
                  first
                  | (rw [c85] at e
                     exact e)
                  | (rw [show w = 1 from by omega] at e
                     exact e)
              · refine ew_ldc_w (z := (-2000000000)) i118_68 g118_68 (by decide) ?_
                refine ev_ireturn i118_71 r118 ?_
                rw [if_pos (by omega)] at hK
                exact hK I (fr_rfl _ _)
        · refine ew_ldc_w (z := (-2000000000)) i118_21 g118_21 (by decide) ?_
          refine ev_ireturn i118_24 r118 ?_
          rw [if_pos (by omega)] at hK
          exact hK I (fr_rfl _ _)
end BX
