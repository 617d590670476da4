theorem i36_0 : ts_ins 36 0 = some (.aload_n 0, 1, 0) := by decide +kernel
theorem i36_1 : ts_ins 36 1 = some (.getfield 19, 4, 0) := by decide +kernel
theorem g36_1 : ts_fm 36 19 = some (4, 3, 2) := by decide +kernel
theorem i36_4 : ts_ins 36 4 = some (.iconst 0, 5, 0) := by decide +kernel
theorem i36_5 : ts_ins 36 5 = some (.iload_n 1, 6, 0) := by decide +kernel
theorem i36_6 : ts_ins 36 6 = some (.iastore, 7, 0) := by decide +kernel
theorem i36_7 : ts_ins 36 7 = some (.aload_n 0, 8, 0) := by decide +kernel
theorem i36_8 : ts_ins 36 8 = some (.getfield 19, 11, 0) := by decide +kernel
theorem g36_8 : ts_fm 36 19 = some (4, 3, 2) := by decide +kernel
theorem i36_11 : ts_ins 36 11 = some (.iconst 1, 12, 0) := by decide +kernel
theorem i36_12 : ts_ins 36 12 = some (.iload_n 2, 13, 0) := by decide +kernel
theorem i36_13 : ts_ins 36 13 = some (.iastore, 14, 0) := by decide +kernel
theorem i36_14 : ts_ins 36 14 = some (.aload_n 0, 15, 0) := by decide +kernel
theorem i36_15 : ts_ins 36 15 = some (.getfield 19, 18, 0) := by decide +kernel
theorem g36_15 : ts_fm 36 19 = some (4, 3, 2) := by decide +kernel
theorem i36_18 : ts_ins 36 18 = some (.iconst 2, 19, 0) := by decide +kernel
theorem i36_19 : ts_ins 36 19 = some (.iload_n 3, 20, 0) := by decide +kernel
theorem i36_20 : ts_ins 36 20 = some (.iastore, 21, 0) := by decide +kernel
theorem i36_21 : ts_ins 36 21 = some (.aload_n 0, 22, 0) := by decide +kernel
theorem i36_22 : ts_ins 36 22 = some (.getfield 19, 25, 0) := by decide +kernel
theorem g36_22 : ts_fm 36 19 = some (4, 3, 2) := by decide +kernel
theorem i36_25 : ts_ins 36 25 = some (.iconst 3, 26, 0) := by decide +kernel
theorem i36_26 : ts_ins 36 26 = some (.iload 4, 28, 0) := by decide +kernel
theorem i36_28 : ts_ins 36 28 = some (.iastore, 29, 0) := by decide +kernel
theorem i36_29 : ts_ins 36 29 = some (.aload_n 0, 30, 0) := by decide +kernel
theorem i36_30 : ts_ins 36 30 = some (.getfield 19, 33, 0) := by decide +kernel
theorem g36_30 : ts_fm 36 19 = some (4, 3, 2) := by decide +kernel
theorem i36_33 : ts_ins 36 33 = some (.iconst 4, 34, 0) := by decide +kernel
theorem i36_34 : ts_ins 36 34 = some (.iload 5, 36, 0) := by decide +kernel
theorem i36_36 : ts_ins 36 36 = some (.iastore, 37, 0) := by decide +kernel
theorem i36_37 : ts_ins 36 37 = some (.aload_n 0, 38, 0) := by decide +kernel
theorem i36_38 : ts_ins 36 38 = some (.getfield 19, 41, 0) := by decide +kernel
theorem g36_38 : ts_fm 36 19 = some (4, 3, 2) := by decide +kernel
theorem i36_41 : ts_ins 36 41 = some (.iconst 5, 42, 0) := by decide +kernel
theorem i36_42 : ts_ins 36 42 = some (.iload 6, 44, 0) := by decide +kernel
theorem i36_44 : ts_ins 36 44 = some (.iastore, 45, 0) := by decide +kernel
theorem i36_45 : ts_ins 36 45 = some (.iconst 0, 46, 0) := by decide +kernel
theorem i36_46 : ts_ins 36 46 = some (.istore 7, 48, 0) := by decide +kernel
theorem i36_48 : ts_ins 36 48 = some (.iconst 0, 49, 0) := by decide +kernel
theorem i36_49 : ts_ins 36 49 = some (.istore 8, 51, 0) := by decide +kernel
theorem i36_51 : ts_ins 36 51 = some (.iload 8, 53, 0) := by decide +kernel
theorem i36_53 : ts_ins 36 53 = some (.aload_n 0, 54, 0) := by decide +kernel
theorem i36_54 : ts_ins 36 54 = some (.getfield 22, 57, 0) := by decide +kernel
theorem g36_54 : ts_fm 36 22 = some (4, 4, 0) := by decide +kernel
theorem i36_57 : ts_ins 36 57 = some (.if_icmp .ge 225, 60, 282) := by decide +kernel
theorem i36_60 : ts_ins 36 60 = some (.aload_n 0, 61, 0) := by decide +kernel
theorem i36_61 : ts_ins 36 61 = some (.getfield 9, 64, 0) := by decide +kernel
theorem g36_61 : ts_fm 36 9 = some (4, 0, 2) := by decide +kernel
theorem i36_64 : ts_ins 36 64 = some (.iload 8, 66, 0) := by decide +kernel
theorem i36_66 : ts_ins 36 66 = some (.iaload, 67, 0) := by decide +kernel
theorem i36_67 : ts_ins 36 67 = some (.istore 9, 69, 0) := by decide +kernel
theorem i36_69 : ts_ins 36 69 = some (.iload 9, 71, 0) := by decide +kernel
theorem i36_71 : ts_ins 36 71 = some (.ifCond .eq 9, 74, 80) := by decide +kernel
theorem i36_74 : ts_ins 36 74 = some (.iload 9, 76, 0) := by decide +kernel
theorem i36_76 : ts_ins 36 76 = some (.iconst 1, 77, 0) := by decide +kernel
theorem i36_77 : ts_ins 36 77 = some (.if_icmp .ne 53, 80, 130) := by decide +kernel
theorem i36_80 : ts_ins 36 80 = some (.iload 7, 82, 0) := by decide +kernel
theorem i36_82 : ts_ins 36 82 = some (.sipush 128, 85, 0) := by decide +kernel
theorem i36_85 : ts_ins 36 85 = some (.if_icmp .lt 5, 88, 90) := by decide +kernel
theorem i36_88 : ts_ins 36 88 = some (.iconst 0, 89, 0) := by decide +kernel
theorem i36_89 : ts_ins 36 89 = some (.ireturn, 90, 0) := by decide +kernel
theorem i36_90 : ts_ins 36 90 = some (.aload_n 0, 91, 0) := by decide +kernel
theorem i36_91 : ts_ins 36 91 = some (.getfield 16, 94, 0) := by decide +kernel
theorem g36_91 : ts_fm 36 16 = some (4, 2, 2) := by decide +kernel
theorem i36_94 : ts_ins 36 94 = some (.iload 7, 96, 0) := by decide +kernel
theorem i36_96 : ts_ins 36 96 = some (.iload 9, 98, 0) := by decide +kernel
theorem i36_98 : ts_ins 36 98 = some (.ifCond .ne 13, 101, 111) := by decide +kernel
theorem i36_101 : ts_ins 36 101 = some (.aload_n 0, 102, 0) := by decide +kernel
theorem i36_102 : ts_ins 36 102 = some (.getfield 13, 105, 0) := by decide +kernel
theorem g36_102 : ts_fm 36 13 = some (4, 1, 2) := by decide +kernel
theorem i36_105 : ts_ins 36 105 = some (.iload 8, 107, 0) := by decide +kernel
theorem i36_107 : ts_ins 36 107 = some (.iaload, 108, 0) := by decide +kernel
theorem i36_108 : ts_ins 36 108 = some (.goto 15, 111, 123) := by decide +kernel
theorem i36_111 : ts_ins 36 111 = some (.aload_n 0, 112, 0) := by decide +kernel
theorem i36_112 : ts_ins 36 112 = some (.getfield 19, 115, 0) := by decide +kernel
theorem g36_112 : ts_fm 36 19 = some (4, 3, 2) := by decide +kernel
theorem i36_115 : ts_ins 36 115 = some (.aload_n 0, 116, 0) := by decide +kernel
theorem i36_116 : ts_ins 36 116 = some (.getfield 13, 119, 0) := by decide +kernel
theorem g36_116 : ts_fm 36 13 = some (4, 1, 2) := by decide +kernel
theorem i36_119 : ts_ins 36 119 = some (.iload 8, 121, 0) := by decide +kernel
theorem i36_121 : ts_ins 36 121 = some (.iaload, 122, 0) := by decide +kernel
theorem i36_122 : ts_ins 36 122 = some (.iaload, 123, 0) := by decide +kernel
theorem i36_123 : ts_ins 36 123 = some (.iastore, 124, 0) := by decide +kernel
theorem i36_124 : ts_ins 36 124 = some (.iinc 7 1, 127, 0) := by decide +kernel
theorem i36_127 : ts_ins 36 127 = some (.goto 149, 130, 276) := by decide +kernel
theorem i36_130 : ts_ins 36 130 = some (.iload 7, 132, 0) := by decide +kernel
theorem i36_132 : ts_ins 36 132 = some (.iconst 1, 133, 0) := by decide +kernel
theorem i36_133 : ts_ins 36 133 = some (.if_icmp .ge 5, 136, 138) := by decide +kernel
theorem i36_136 : ts_ins 36 136 = some (.iconst 0, 137, 0) := by decide +kernel
theorem i36_137 : ts_ins 36 137 = some (.ireturn, 138, 0) := by decide +kernel
theorem i36_138 : ts_ins 36 138 = some (.iload 9, 140, 0) := by decide +kernel
theorem i36_140 : ts_ins 36 140 = some (.iconst 3, 141, 0) := by decide +kernel
theorem i36_141 : ts_ins 36 141 = some (.if_icmp .ne 13, 144, 154) := by decide +kernel
theorem i36_144 : ts_ins 36 144 = some (.aload_n 0, 145, 0) := by decide +kernel
theorem i36_145 : ts_ins 36 145 = some (.getfield 16, 148, 0) := by decide +kernel
theorem g36_145 : ts_fm 36 16 = some (4, 2, 2) := by decide +kernel
theorem i36_148 : ts_ins 36 148 = some (.iload 7, 150, 0) := by decide +kernel
theorem i36_150 : ts_ins 36 150 = some (.iconst 1, 151, 0) := by decide +kernel
theorem i36_151 : ts_ins 36 151 = some (.isub, 152, 0) := by decide +kernel
theorem i36_152 : ts_ins 36 152 = some (.iaload, 153, 0) := by decide +kernel
theorem i36_153 : ts_ins 36 153 = some (.ireturn, 154, 0) := by decide +kernel
theorem i36_154 : ts_ins 36 154 = some (.iload 9, 156, 0) := by decide +kernel
theorem i36_156 : ts_ins 36 156 = some (.iconst 2, 157, 0) := by decide +kernel
theorem i36_157 : ts_ins 36 157 = some (.if_icmp .ne 40, 160, 197) := by decide +kernel
theorem i36_160 : ts_ins 36 160 = some (.iinc 7 (-1), 163, 0) := by decide +kernel
theorem i36_163 : ts_ins 36 163 = some (.aload_n 0, 164, 0) := by decide +kernel
theorem i36_164 : ts_ins 36 164 = some (.getfield 16, 167, 0) := by decide +kernel
theorem g36_164 : ts_fm 36 16 = some (4, 2, 2) := by decide +kernel
theorem i36_167 : ts_ins 36 167 = some (.iload 7, 169, 0) := by decide +kernel
theorem i36_169 : ts_ins 36 169 = some (.iaload, 170, 0) := by decide +kernel
theorem i36_170 : ts_ins 36 170 = some (.ifCond .ne 20, 173, 190) := by decide +kernel
theorem i36_173 : ts_ins 36 173 = some (.iload 8, 175, 0) := by decide +kernel
theorem i36_175 : ts_ins 36 175 = some (.aload_n 0, 176, 0) := by decide +kernel
theorem i36_176 : ts_ins 36 176 = some (.getfield 13, 179, 0) := by decide +kernel
theorem g36_176 : ts_fm 36 13 = some (4, 1, 2) := by decide +kernel
theorem i36_179 : ts_ins 36 179 = some (.iload 8, 181, 0) := by decide +kernel
theorem i36_181 : ts_ins 36 181 = some (.iaload, 182, 0) := by decide +kernel
theorem i36_182 : ts_ins 36 182 = some (.iconst 1, 183, 0) := by decide +kernel
theorem i36_183 : ts_ins 36 183 = some (.isub, 184, 0) := by decide +kernel
theorem i36_184 : ts_ins 36 184 = some (.invokestatic 26, 187, 0) := by decide +kernel
theorem g36_184 : ts_cal (ts_mc 36) 26 = some (5, 0, 2) := by decide +kernel
theorem i36_187 : ts_ins 36 187 = some (.goto 5, 190, 192) := by decide +kernel
theorem i36_190 : ts_ins 36 190 = some (.iload 8, 192, 0) := by decide +kernel
theorem i36_192 : ts_ins 36 192 = some (.istore 8, 194, 0) := by decide +kernel
theorem i36_194 : ts_ins 36 194 = some (.goto 82, 197, 276) := by decide +kernel
theorem i36_197 : ts_ins 36 197 = some (.iload 9, 199, 0) := by decide +kernel
theorem i36_199 : ts_ins 36 199 = some (.iconst 4, 200, 0) := by decide +kernel
theorem i36_200 : ts_ins 36 200 = some (.if_icmp .eq 9, 203, 209) := by decide +kernel
theorem i36_203 : ts_ins 36 203 = some (.iload 9, 205, 0) := by decide +kernel
theorem i36_205 : ts_ins 36 205 = some (.iconst 5, 206, 0) := by decide +kernel
theorem i36_206 : ts_ins 36 206 = some (.if_icmp .ne 29, 209, 235) := by decide +kernel
theorem i36_209 : ts_ins 36 209 = some (.aload_n 0, 210, 0) := by decide +kernel
theorem i36_210 : ts_ins 36 210 = some (.getfield 16, 213, 0) := by decide +kernel
theorem g36_210 : ts_fm 36 16 = some (4, 2, 2) := by decide +kernel
theorem i36_213 : ts_ins 36 213 = some (.iload 7, 215, 0) := by decide +kernel
theorem i36_215 : ts_ins 36 215 = some (.iconst 1, 216, 0) := by decide +kernel
theorem i36_216 : ts_ins 36 216 = some (.isub, 217, 0) := by decide +kernel
theorem i36_217 : ts_ins 36 217 = some (.iload 9, 219, 0) := by decide +kernel
theorem i36_219 : ts_ins 36 219 = some (.aload_n 0, 220, 0) := by decide +kernel
theorem i36_220 : ts_ins 36 220 = some (.getfield 16, 223, 0) := by decide +kernel
theorem g36_220 : ts_fm 36 16 = some (4, 2, 2) := by decide +kernel
theorem i36_223 : ts_ins 36 223 = some (.iload 7, 225, 0) := by decide +kernel
theorem i36_225 : ts_ins 36 225 = some (.iconst 1, 226, 0) := by decide +kernel
theorem i36_226 : ts_ins 36 226 = some (.isub, 227, 0) := by decide +kernel
theorem i36_227 : ts_ins 36 227 = some (.iaload, 228, 0) := by decide +kernel
theorem i36_228 : ts_ins 36 228 = some (.invokestatic 32, 231, 0) := by decide +kernel
theorem g36_228 : ts_cal (ts_mc 36) 32 = some (1, 37, 2) := by decide +kernel
theorem i36_231 : ts_ins 36 231 = some (.iastore, 232, 0) := by decide +kernel
theorem i36_232 : ts_ins 36 232 = some (.goto 44, 235, 276) := by decide +kernel
theorem i36_235 : ts_ins 36 235 = some (.iload 7, 237, 0) := by decide +kernel
theorem i36_237 : ts_ins 36 237 = some (.iconst 2, 238, 0) := by decide +kernel
theorem i36_238 : ts_ins 36 238 = some (.if_icmp .ge 5, 241, 243) := by decide +kernel
theorem i36_241 : ts_ins 36 241 = some (.iconst 0, 242, 0) := by decide +kernel
theorem i36_242 : ts_ins 36 242 = some (.ireturn, 243, 0) := by decide +kernel
theorem i36_243 : ts_ins 36 243 = some (.iinc 7 (-1), 246, 0) := by decide +kernel
theorem i36_246 : ts_ins 36 246 = some (.aload_n 0, 247, 0) := by decide +kernel
theorem i36_247 : ts_ins 36 247 = some (.getfield 16, 250, 0) := by decide +kernel
theorem g36_247 : ts_fm 36 16 = some (4, 2, 2) := by decide +kernel
theorem i36_250 : ts_ins 36 250 = some (.iload 7, 252, 0) := by decide +kernel
theorem i36_252 : ts_ins 36 252 = some (.iconst 1, 253, 0) := by decide +kernel
theorem i36_253 : ts_ins 36 253 = some (.isub, 254, 0) := by decide +kernel
theorem i36_254 : ts_ins 36 254 = some (.iload 9, 256, 0) := by decide +kernel
theorem i36_256 : ts_ins 36 256 = some (.aload_n 0, 257, 0) := by decide +kernel
theorem i36_257 : ts_ins 36 257 = some (.getfield 16, 260, 0) := by decide +kernel
theorem g36_257 : ts_fm 36 16 = some (4, 2, 2) := by decide +kernel
theorem i36_260 : ts_ins 36 260 = some (.iload 7, 262, 0) := by decide +kernel
theorem i36_262 : ts_ins 36 262 = some (.iconst 1, 263, 0) := by decide +kernel
theorem i36_263 : ts_ins 36 263 = some (.isub, 264, 0) := by decide +kernel
theorem i36_264 : ts_ins 36 264 = some (.iaload, 265, 0) := by decide +kernel
theorem i36_265 : ts_ins 36 265 = some (.aload_n 0, 266, 0) := by decide +kernel
theorem i36_266 : ts_ins 36 266 = some (.getfield 16, 269, 0) := by decide +kernel
theorem g36_266 : ts_fm 36 16 = some (4, 2, 2) := by decide +kernel
theorem i36_269 : ts_ins 36 269 = some (.iload 7, 271, 0) := by decide +kernel
theorem i36_271 : ts_ins 36 271 = some (.iaload, 272, 0) := by decide +kernel
theorem i36_272 : ts_ins 36 272 = some (.invokestatic 35, 275, 0) := by decide +kernel
theorem g36_272 : ts_cal (ts_mc 36) 35 = some (1, 38, 3) := by decide +kernel
theorem i36_275 : ts_ins 36 275 = some (.iastore, 276, 0) := by decide +kernel
theorem i36_276 : ts_ins 36 276 = some (.iinc 8 1, 279, 0) := by decide +kernel
theorem i36_279 : ts_ins 36 279 = some (.goto (-228), 282, 51) := by decide +kernel
theorem i36_282 : ts_ins 36 282 = some (.iconst 0, 283, 0) := by decide +kernel
theorem i36_283 : ts_ins 36 283 = some (.ireturn, 284, 0) := by decide +kernel
theorem r36 : ts_rt 36 = ((some .int), 0, 0) := by decide +kernel
theorem l36 : ts_ml 36 = 10 := by decide +kernel
theorem i37_0 : ts_ins 37 0 = some (.iload_n 0, 1, 0) := by decide +kernel
theorem i37_1 : ts_ins 37 1 = some (.iconst 5, 2, 0) := by decide +kernel
theorem i37_2 : ts_ins 37 2 = some (.if_icmp .ne 6, 5, 8) := by decide +kernel
theorem i37_5 : ts_ins 37 5 = some (.iload_n 1, 6, 0) := by decide +kernel
theorem i37_6 : ts_ins 37 6 = some (.ineg, 7, 0) := by decide +kernel
theorem i37_7 : ts_ins 37 7 = some (.ireturn, 8, 0) := by decide +kernel
theorem i37_8 : ts_ins 37 8 = some (.iload_n 1, 9, 0) := by decide +kernel
theorem i37_9 : ts_ins 37 9 = some (.ifCond .ne 7, 12, 16) := by decide +kernel
theorem i37_12 : ts_ins 37 12 = some (.iconst 1, 13, 0) := by decide +kernel
theorem i37_13 : ts_ins 37 13 = some (.goto 4, 16, 17) := by decide +kernel
theorem i37_16 : ts_ins 37 16 = some (.iconst 0, 17, 0) := by decide +kernel
theorem i37_17 : ts_ins 37 17 = some (.ireturn, 18, 0) := by decide +kernel
theorem r37 : ts_rt 37 = ((some .int), 0, 0) := by decide +kernel
theorem l37 : ts_ml 37 = 2 := by decide +kernel
theorem i38_0 : ts_ins 38 0 = some (.iload_n 0, 1, 0) := by decide +kernel
theorem i38_1 : ts_ins 38 1 = some (.lookupswitch 188 #[(37, 176), (38, 105), (42, 160), (43, 152), (45, 156), (47, 164), (60, 119), (61, 130), (62, 141), (124, 91)], 92, 0) := by decide +kernel
theorem i38_92 : ts_ins 38 92 = some (.iload_n 1, 93, 0) := by decide +kernel
theorem i38_93 : ts_ins 38 93 = some (.ifCond .ne 7, 96, 100) := by decide +kernel
theorem i38_96 : ts_ins 38 96 = some (.iload_n 2, 97, 0) := by decide +kernel
theorem i38_97 : ts_ins 38 97 = some (.ifCond .eq 7, 100, 104) := by decide +kernel
theorem i38_100 : ts_ins 38 100 = some (.iconst 1, 101, 0) := by decide +kernel
theorem i38_101 : ts_ins 38 101 = some (.goto 4, 104, 105) := by decide +kernel
theorem i38_104 : ts_ins 38 104 = some (.iconst 0, 105, 0) := by decide +kernel
theorem i38_105 : ts_ins 38 105 = some (.ireturn, 106, 0) := by decide +kernel
theorem i38_106 : ts_ins 38 106 = some (.iload_n 1, 107, 0) := by decide +kernel
theorem i38_107 : ts_ins 38 107 = some (.ifCond .eq 11, 110, 118) := by decide +kernel
theorem i38_110 : ts_ins 38 110 = some (.iload_n 2, 111, 0) := by decide +kernel
theorem i38_111 : ts_ins 38 111 = some (.ifCond .eq 7, 114, 118) := by decide +kernel
theorem i38_114 : ts_ins 38 114 = some (.iconst 1, 115, 0) := by decide +kernel
theorem i38_115 : ts_ins 38 115 = some (.goto 4, 118, 119) := by decide +kernel
theorem i38_118 : ts_ins 38 118 = some (.iconst 0, 119, 0) := by decide +kernel
theorem i38_119 : ts_ins 38 119 = some (.ireturn, 120, 0) := by decide +kernel
theorem i38_120 : ts_ins 38 120 = some (.iload_n 1, 121, 0) := by decide +kernel
theorem i38_121 : ts_ins 38 121 = some (.iload_n 2, 122, 0) := by decide +kernel
theorem i38_122 : ts_ins 38 122 = some (.if_icmp .ge 7, 125, 129) := by decide +kernel
theorem i38_125 : ts_ins 38 125 = some (.iconst 1, 126, 0) := by decide +kernel
theorem i38_126 : ts_ins 38 126 = some (.goto 4, 129, 130) := by decide +kernel
theorem i38_129 : ts_ins 38 129 = some (.iconst 0, 130, 0) := by decide +kernel
theorem i38_130 : ts_ins 38 130 = some (.ireturn, 131, 0) := by decide +kernel
theorem i38_131 : ts_ins 38 131 = some (.iload_n 1, 132, 0) := by decide +kernel
theorem i38_132 : ts_ins 38 132 = some (.iload_n 2, 133, 0) := by decide +kernel
theorem i38_133 : ts_ins 38 133 = some (.if_icmp .ne 7, 136, 140) := by decide +kernel
theorem i38_136 : ts_ins 38 136 = some (.iconst 1, 137, 0) := by decide +kernel
theorem i38_137 : ts_ins 38 137 = some (.goto 4, 140, 141) := by decide +kernel
theorem i38_140 : ts_ins 38 140 = some (.iconst 0, 141, 0) := by decide +kernel
theorem i38_141 : ts_ins 38 141 = some (.ireturn, 142, 0) := by decide +kernel
theorem i38_142 : ts_ins 38 142 = some (.iload_n 1, 143, 0) := by decide +kernel
theorem i38_143 : ts_ins 38 143 = some (.iload_n 2, 144, 0) := by decide +kernel
theorem i38_144 : ts_ins 38 144 = some (.if_icmp .le 7, 147, 151) := by decide +kernel
theorem i38_147 : ts_ins 38 147 = some (.iconst 1, 148, 0) := by decide +kernel
theorem i38_148 : ts_ins 38 148 = some (.goto 4, 151, 152) := by decide +kernel
theorem i38_151 : ts_ins 38 151 = some (.iconst 0, 152, 0) := by decide +kernel
theorem i38_152 : ts_ins 38 152 = some (.ireturn, 153, 0) := by decide +kernel
theorem i38_153 : ts_ins 38 153 = some (.iload_n 1, 154, 0) := by decide +kernel
theorem i38_154 : ts_ins 38 154 = some (.iload_n 2, 155, 0) := by decide +kernel
theorem i38_155 : ts_ins 38 155 = some (.iadd, 156, 0) := by decide +kernel
theorem i38_156 : ts_ins 38 156 = some (.ireturn, 157, 0) := by decide +kernel
theorem i38_157 : ts_ins 38 157 = some (.iload_n 1, 158, 0) := by decide +kernel
theorem i38_158 : ts_ins 38 158 = some (.iload_n 2, 159, 0) := by decide +kernel
theorem i38_159 : ts_ins 38 159 = some (.isub, 160, 0) := by decide +kernel
theorem i38_160 : ts_ins 38 160 = some (.ireturn, 161, 0) := by decide +kernel
theorem i38_161 : ts_ins 38 161 = some (.iload_n 1, 162, 0) := by decide +kernel
theorem i38_162 : ts_ins 38 162 = some (.iload_n 2, 163, 0) := by decide +kernel
theorem i38_163 : ts_ins 38 163 = some (.imul, 164, 0) := by decide +kernel
theorem i38_164 : ts_ins 38 164 = some (.ireturn, 165, 0) := by decide +kernel
theorem i38_165 : ts_ins 38 165 = some (.iload_n 2, 166, 0) := by decide +kernel
theorem i38_166 : ts_ins 38 166 = some (.ifCond .ne 7, 169, 173) := by decide +kernel
theorem i38_169 : ts_ins 38 169 = some (.iconst 0, 170, 0) := by decide +kernel
theorem i38_170 : ts_ins 38 170 = some (.goto 6, 173, 176) := by decide +kernel
theorem i38_173 : ts_ins 38 173 = some (.iload_n 1, 174, 0) := by decide +kernel
theorem i38_174 : ts_ins 38 174 = some (.iload_n 2, 175, 0) := by decide +kernel
theorem i38_175 : ts_ins 38 175 = some (.idiv, 176, 0) := by decide +kernel
theorem i38_176 : ts_ins 38 176 = some (.ireturn, 177, 0) := by decide +kernel
theorem i38_177 : ts_ins 38 177 = some (.iload_n 2, 178, 0) := by decide +kernel
theorem i38_178 : ts_ins 38 178 = some (.ifCond .ne 7, 181, 185) := by decide +kernel
theorem i38_181 : ts_ins 38 181 = some (.iconst 0, 182, 0) := by decide +kernel
theorem i38_182 : ts_ins 38 182 = some (.goto 6, 185, 188) := by decide +kernel
theorem i38_185 : ts_ins 38 185 = some (.iload_n 1, 186, 0) := by decide +kernel
theorem i38_186 : ts_ins 38 186 = some (.iload_n 2, 187, 0) := by decide +kernel
theorem i38_187 : ts_ins 38 187 = some (.irem, 188, 0) := by decide +kernel
theorem i38_188 : ts_ins 38 188 = some (.ireturn, 189, 0) := by decide +kernel
theorem i38_189 : ts_ins 38 189 = some (.iconst 0, 190, 0) := by decide +kernel
theorem i38_190 : ts_ins 38 190 = some (.ireturn, 191, 0) := by decide +kernel
theorem r38 : ts_rt 38 = ((some .int), 0, 0) := by decide +kernel
theorem l38 : ts_ml 38 = 3 := by decide +kernel
/-! THE STEPS of a law, run -/
def jn (g a b : Int) : Int := if g = 124 then (if ¬ a = 0 ∨ ¬ b = 0 then 1 else 0) else if g = 38 then (if ¬ a = 0 ∧ ¬ b = 0 then 1 else 0) else if g = 60 then (if a < b then 1 else 0) else if g = 61 then (if a = b then 1 else 0) else if g = 62 then (if b < a then 1 else 0) else if g = 43 then zw (a + b) else if g = 45 then zw (a - b) else if g = 42 then zw (a * b) else if g = 47 then (if b = 0 then 0 else zw (a.tdiv b)) else if g = 37 then (if b = 0 then 0 else zw (a.tmod b)) else 0
def ng (k v : Int) : Int := if k = 5 then zw (-v) else if v = 0 then 1 else 0
theorem jn_r (g a b : Int) : -2147483648 ≤ jn g a b ∧ jn g a b ≤ 2147483647 := by
  unfold jn
  have r1 := zw_r (a + b)
  have r2 := zw_r (a - b)
  have r3 := zw_r (a * b)
  have r4 := zw_r (a.tdiv b)
  have r5 := zw_r (a.tmod b)
  generalize zw (a + b) = v1 at *
  generalize zw (a - b) = v2 at *
  generalize zw (a * b) = v3 at *
  generalize zw (a.tdiv b) = v4 at *
  generalize zw (a.tmod b) = v5 at *
  repeat' split
  all_goals omega
theorem ng_r (k v : Int) : -2147483648 ≤ ng k v ∧ ng k v ≤ 2147483647 := by
  unfold ng
  have r1 := zw_r (-v)
  generalize zw (-v) = v1 at *
  repeat' split
  all_goals omega
def WX (I : Nat → Nat → Int32) (c : Nat) (m : Int) (ST OP : Int → Int) (N : Int → Int) : Prop := rd (I c 4) 0 128 m ∧ ar I (c + 1) m 0 255 ST ∧ ar I (c + 2) m 0 9999 OP ∧ ar I (c + 4) 6 (-2147483648) 2147483647 N
abbrev fz3 (c : Nat) : Nat → Nat → Prop := fun a _ => a = c + 3
theorem ca_I {c : Nat} (h : c = 19 ∨ c = 26) : ts_isI ts_S0 c 4 = true := by rcases h with rfl | rfl <;> decide +kernel
theorem ca_P {c : Nat} (h : c = 19 ∨ c = 26) (sw : Bool) : ts_pg (ts_P0 sw) c 0 = some (c + 1) ∧ ts_pg (ts_P0 sw) c 1 = some (c + 2) ∧ ts_pg (ts_P0 sw) c 2 = some (c + 3) ∧ ts_pg (ts_P0 sw) c 3 = some (c + 4) := by rcases h with rfl | rfl <;> exact ⟨rfl, rfl, rfl, rfl⟩
theorem ca_A {c : Nat} (h : c = 19 ∨ c = 26) : ts_sA ts_S0 (c + 1) = some (0, 128) ∧ ts_sA ts_S0 (c + 2) = some (0, 128) ∧ ts_sA ts_S0 (c + 3) = some (0, 128) ∧ ts_sA ts_S0 (c + 4) = some (0, 6) := by rcases h with rfl | rfl <;> exact ⟨rfl, rfl, rfl, rfl⟩
theorem ca_B {c : Nat} (h : c = 19 ∨ c = 26) (X : ts_X) (I : Nat → Nat → Int32) : ts_ai X I ts_S0 (c + 1) = some (128, I (c + 1)) ∧ ts_ai X I ts_S0 (c + 2) = some (128, I (c + 2)) ∧ ts_ai X I ts_S0 (c + 3) = some (128, I (c + 3)) ∧ ts_ai X I ts_S0 (c + 4) = some (6, I (c + 4)) := by rcases h with rfl | rfl <;> exact ⟨rfl, rfl, rfl, rfl⟩
/-- the steps s .. s'-1 lay v on the stack -/
def RN (s s' : Int) (st op : Int → Int) (v : (Int → Int) → Int) : Prop := ∀ (X : ts_X) (I : Nat → Nat → Int32) (L : Nat → Nat → Int64) (sw : Bool) (K : Option Value → ts_H → Prop) (d c : Nat) (g : Int → Int) (t m : Int) (ST OP N : Int → Int) (a1 a2 a3 a4 a5 a6 : Int), (c = 19 ∨ c = 26) → WX I c m ST OP N → (∀ k, s ≤ k → k < s' → ST k = st k ∧ OP k = op k) → ar I (c + 3) t (-2147483648) 2147483647 g → 0 ≤ t → t ≤ s → s' ≤ m → (∀ J o, fr (fz3 c) I J → ar J (c + 3) (t + 1) (-2147483648) 2147483647 (zu g t (v N)) → ts_Ev X (ts_Cal X (d + 1)) 36 ts_S0 K 51 [.ref c, .int (zI (a1)), .int (zI (a2)), .int (zI (a3)), .int (zI (a4)), .int (zI (a5)), .int (zI (a6)), .int (zI (t + 1)), .int (zI (s')), o] [] (J, L, ts_P0 sw, ts_S0)) → ∀ o, ts_Ev X (ts_Cal X (d + 1)) 36 ts_S0 K 51 [.ref c, .int (zI (a1)), .int (zI (a2)), .int (zI (a3)), .int (zI (a4)), .int (zI (a5)), .int (zI (a6)), .int (zI (t)), .int (zI (s)), o] [] (I, L, ts_P0 sw, ts_S0)
theorem RN.e {s s' : Int} {st op st' op' : Int → Int} {v : (Int → Int) → Int} (h : RN s s' st op v) (e : ∀ k, s ≤ k → k < s' → st' k = st k ∧ op' k = op k) : RN s s' st' op' v := by
  intro X I L sw K d c g t m ST OP N a1 a2 a3 a4 a5 a6 hc hW he hg t0 t1 hm hK
  exact h X I L sw K d c g t m ST OP N a1 a2 a3 a4 a5 a6 hc hW (fun k k0 k1 => ⟨(he k k0 k1).1.trans (e k k0 k1).1, (he k k0 k1).2.trans (e k k0 k1).2⟩) hg t0 t1 hm hK
section RU
variable {X : ts_X} {I J : Nat → Nat → Int32} {L : Nat → Nat → Int64} {sw : Bool} {K : Option Value → ts_H → Prop} {d c : Nat} {s s' t m a1 a2 a3 a4 a5 a6 : Int} {ST OP N g st op : Int → Int}
theorem WX.co (h : WX I c m ST OP N) (e : fr (fz3 c) I J) : WX J c m ST OP N := ⟨by rw [fr_row e (fun k => by omega)]; exact h.1, ar_co h.2.1 (fr_row e (fun k => by omega)), ar_co h.2.2.1 (fr_row e (fun k => by omega)), ar_co h.2.2.2 (fr_row e (fun k => by omega))⟩
theorem x_negated {k v : Int} (hk : -2147483648 ≤ k ∧ k ≤ 2147483647) (hv : -2147483648 ≤ v ∧ v ≤ 2147483647) (hK : K (some (.int (zI (ng k v)))) (I, L, ts_P0 sw, ts_S0)) : ts_Cal X (d + 1) 37 [.int (zI (k)), .int (zI (v))] (I, L, ts_P0 sw, ts_S0) K := by
  unfold ng at hK
  refine ev_enter (lv := [.int (zI (k)), .int (zI (v))]) l37 rfl (Nat.le_of_ble_eq_true rfl) ?_
  refine ev_iloadn_0 i37_0 ?_
  refine ew_iconst i37_1 ?_
  refine ew_icmpne i37_2 (by omega) (fun c2 => ?_) (fun c2 => ?_)
  · refine ev_iloadn_1 i37_8 ?_
    first
    | refine ew_ifneB i37_9 (fun c9 => ?_) (fun c9 => ?_)
    | refine ew_ifne i37_9 (by omega) (fun c9 => ?_) (fun c9 => ?_)
    · refine ew_iconst i37_16 ?_
      refine ev_ireturn i37_17 r37 ?_
      rw [if_neg (by omega)] at hK
      exact zK hK (by omega)
    · refine ew_iconst i37_12 ?_
      refine ev_goto i37_13 ?_
      refine ev_ireturn i37_17 r37 ?_
      rw [if_neg (by omega)] at hK
      exact zK hK (by omega)
  · refine ev_iloadn_1 i37_5 ?_
    refine ew_ineg i37_6 ?_
    refine ev_ireturn i37_7 r37 ?_
    rw [if_pos (by omega), zI_zw] at hK
    exact hK
theorem x_joined {q a b : Int} (hq : -2147483648 ≤ q ∧ q ≤ 2147483647) (ha : -2147483648 ≤ a ∧ a ≤ 2147483647) (hb : -2147483648 ≤ b ∧ b ≤ 2147483647) (hK : K (some (.int (zI (jn q a b)))) (I, L, ts_P0 sw, ts_S0)) : ts_Cal X (d + 1) 38 [.int (zI (q)), .int (zI (a)), .int (zI (b))] (I, L, ts_P0 sw, ts_S0) K := by
  refine ev_enter (lv := [.int (zI (q)), .int (zI (a)), .int (zI (b))]) l38 rfl (Nat.le_of_ble_eq_true rfl) ?_
  refine ev_iloadn_0 i38_0 ?_
  rcases (show q = 37 ∨ q = 38 ∨ q = 42 ∨ q = 43 ∨ q = 45 ∨ q = 47 ∨ q = 60 ∨ q = 61 ∨ q = 62 ∨ q = 124 ∨ (¬ q = 37 ∧ ¬ q = 38 ∧ ¬ q = 42 ∧ ¬ q = 43 ∧ ¬ q = 45 ∧ ¬ q = 47 ∧ ¬ q = 60 ∧ ¬ q = 61 ∧ ¬ q = 62 ∧ ¬ q = 124) by omega) with c1 | c1 | c1 | c1 | c1 | c1 | c1 | c1 | c1 | c1 | c1
  · refine ew_sw (v := 37) i38_1 c1 (t := 177) (by decide) rfl ?_
    refine ev_iloadn_2 i38_177 ?_
    first
    | refine ew_ifneB i38_178 (fun c178 => ?_) (fun c178 => ?_)
    | refine ew_ifne i38_178 (by omega) (fun c178 => ?_) (fun c178 => ?_)
    · refine ev_iloadn_1 i38_185 ?_
      refine ev_iloadn_2 i38_186 ?_
      refine ew_iremS i38_187 (by omega) (by omega) ?_
      refine ev_ireturn i38_188 r38 ?_
      first
      | (have e : jn q a b = zw (a.tmod b) := by simp [jn, c1, c178]
         rw [e, zI_zw] at hK
         exact hK)
      | (have e : jn q a b = 0 := by simp [jn, c1, c178]
         rw [e] at hK
         exact hK)
    · refine ew_iconst i38_181 ?_
      refine ev_goto i38_182 ?_
      refine ev_ireturn i38_188 r38 ?_
      first
      | (have e : jn q a b = zw (a.tmod b) := by simp [jn, c1, c178]
         rw [e, zI_zw] at hK
         exact hK)
      | (have e : jn q a b = 0 := by simp [jn, c1, c178]
         rw [e] at hK
         exact hK)
  · refine ew_sw (v := 38) i38_1 c1 (t := 106) (by decide) rfl ?_
    refine ev_iloadn_1 i38_106 ?_
    first
    | refine ew_ifeqB i38_107 (fun c107 => ?_) (fun c107 => ?_)
    | refine ew_ifeq i38_107 (by omega) (fun c107 => ?_) (fun c107 => ?_)
    · refine ew_iconst i38_118 ?_
      refine ev_ireturn i38_119 r38 ?_
      exact zK hK (by unfold jn; generalize zw (a + b) = v1; generalize zw (a - b) = v2; generalize zw (a * b) = v3; generalize zw (a.tdiv b) = v4; generalize zw (a.tmod b) = v5; omega)
    · refine ev_iloadn_2 i38_110 ?_
      first
      | refine ew_ifeqB i38_111 (fun c111 => ?_) (fun c111 => ?_)
      | refine ew_ifeq i38_111 (by omega) (fun c111 => ?_) (fun c111 => ?_)
      · refine ew_iconst i38_118 ?_
        refine ev_ireturn i38_119 r38 ?_
        exact zK hK (by unfold jn; generalize zw (a + b) = v1; generalize zw (a - b) = v2; generalize zw (a * b) = v3; generalize zw (a.tdiv b) = v4; generalize zw (a.tmod b) = v5; omega)
      · refine ew_iconst i38_114 ?_
        refine ev_goto i38_115 ?_
        refine ev_ireturn i38_119 r38 ?_
        exact zK hK (by unfold jn; generalize zw (a + b) = v1; generalize zw (a - b) = v2; generalize zw (a * b) = v3; generalize zw (a.tdiv b) = v4; generalize zw (a.tmod b) = v5; omega)
  · refine ew_sw (v := 42) i38_1 c1 (t := 161) (by decide) rfl ?_
    refine ev_iloadn_1 i38_161 ?_
    refine ev_iloadn_2 i38_162 ?_
    refine ew_imul i38_163 ?_
    refine ev_ireturn i38_164 r38 ?_
    have e : jn q a b = zw (a * b) := by simp [jn, c1]
    rw [e, zI_zw] at hK
    exact hK
  · refine ew_sw (v := 43) i38_1 c1 (t := 153) (by decide) rfl ?_
    refine ev_iloadn_1 i38_153 ?_
    refine ev_iloadn_2 i38_154 ?_
    refine ew_iadd i38_155 ?_
    refine ev_ireturn i38_156 r38 ?_
    have e : jn q a b = zw (a + b) := by simp [jn, c1]
    rw [e, zI_zw] at hK
    exact hK
  · refine ew_sw (v := 45) i38_1 c1 (t := 157) (by decide) rfl ?_
    refine ev_iloadn_1 i38_157 ?_
    refine ev_iloadn_2 i38_158 ?_
    refine ew_isub i38_159 ?_
    refine ev_ireturn i38_160 r38 ?_
    have e : jn q a b = zw (a - b) := by simp [jn, c1]
    rw [e, zI_zw] at hK
    exact hK
  · refine ew_sw (v := 47) i38_1 c1 (t := 165) (by decide) rfl ?_
    refine ev_iloadn_2 i38_165 ?_
    first
    | refine ew_ifneB i38_166 (fun c166 => ?_) (fun c166 => ?_)
    | refine ew_ifne i38_166 (by omega) (fun c166 => ?_) (fun c166 => ?_)
    · refine ev_iloadn_1 i38_173 ?_
      refine ev_iloadn_2 i38_174 ?_
      refine ew_idivS i38_175 (by omega) (by omega) ?_
      refine ev_ireturn i38_176 r38 ?_
      first
      | (have e : jn q a b = zw (a.tdiv b) := by simp [jn, c1, c166]
         rw [e, zI_zw] at hK
         exact hK)
      | (have e : jn q a b = 0 := by simp [jn, c1, c166]
         rw [e] at hK
         exact hK)
    · refine ew_iconst i38_169 ?_
      refine ev_goto i38_170 ?_
      refine ev_ireturn i38_176 r38 ?_
      first
      | (have e : jn q a b = zw (a.tdiv b) := by simp [jn, c1, c166]
         rw [e, zI_zw] at hK
         exact hK)
      | (have e : jn q a b = 0 := by simp [jn, c1, c166]
         rw [e] at hK
         exact hK)
  · refine ew_sw (v := 60) i38_1 c1 (t := 120) (by decide) rfl ?_
    refine ev_iloadn_1 i38_120 ?_
    refine ev_iloadn_2 i38_121 ?_
    refine ew_icmpge i38_122 (by omega) (fun c122 => ?_) (fun c122 => ?_)
    · refine ew_iconst i38_129 ?_
      refine ev_ireturn i38_130 r38 ?_
      exact zK hK (by unfold jn; generalize zw (a + b) = v1; generalize zw (a - b) = v2; generalize zw (a * b) = v3; generalize zw (a.tdiv b) = v4; generalize zw (a.tmod b) = v5; omega)
    · refine ew_iconst i38_125 ?_
      refine ev_goto i38_126 ?_
      refine ev_ireturn i38_130 r38 ?_
      exact zK hK (by unfold jn; generalize zw (a + b) = v1; generalize zw (a - b) = v2; generalize zw (a * b) = v3; generalize zw (a.tdiv b) = v4; generalize zw (a.tmod b) = v5; omega)
  · refine ew_sw (v := 61) i38_1 c1 (t := 131) (by decide) rfl ?_
    refine ev_iloadn_1 i38_131 ?_
    refine ev_iloadn_2 i38_132 ?_
    refine ew_icmpne i38_133 (by omega) (fun c133 => ?_) (fun c133 => ?_)
    · refine ew_iconst i38_140 ?_
      refine ev_ireturn i38_141 r38 ?_
      exact zK hK (by unfold jn; generalize zw (a + b) = v1; generalize zw (a - b) = v2; generalize zw (a * b) = v3; generalize zw (a.tdiv b) = v4; generalize zw (a.tmod b) = v5; omega)
    · refine ew_iconst i38_136 ?_
      refine ev_goto i38_137 ?_
      refine ev_ireturn i38_141 r38 ?_
      exact zK hK (by unfold jn; generalize zw (a + b) = v1; generalize zw (a - b) = v2; generalize zw (a * b) = v3; generalize zw (a.tdiv b) = v4; generalize zw (a.tmod b) = v5; omega)
  · refine ew_sw (v := 62) i38_1 c1 (t := 142) (by decide) rfl ?_
    refine ev_iloadn_1 i38_142 ?_
    refine ev_iloadn_2 i38_143 ?_
    refine ew_icmple i38_144 (by omega) (fun c144 => ?_) (fun c144 => ?_)
    · refine ew_iconst i38_151 ?_
      refine ev_ireturn i38_152 r38 ?_
      exact zK hK (by unfold jn; generalize zw (a + b) = v1; generalize zw (a - b) = v2; generalize zw (a * b) = v3; generalize zw (a.tdiv b) = v4; generalize zw (a.tmod b) = v5; omega)
    · refine ew_iconst i38_147 ?_
      refine ev_goto i38_148 ?_
      refine ev_ireturn i38_152 r38 ?_
      exact zK hK (by unfold jn; generalize zw (a + b) = v1; generalize zw (a - b) = v2; generalize zw (a * b) = v3; generalize zw (a.tdiv b) = v4; generalize zw (a.tmod b) = v5; omega)
  · refine ew_sw (v := 124) i38_1 c1 (t := 92) (by decide) rfl ?_
    refine ev_iloadn_1 i38_92 ?_
    first
    | refine ew_ifneB i38_93 (fun c93 => ?_) (fun c93 => ?_)
    | refine ew_ifne i38_93 (by omega) (fun c93 => ?_) (fun c93 => ?_)
    · refine ew_iconst i38_100 ?_
      refine ev_goto i38_101 ?_
      refine ev_ireturn i38_105 r38 ?_
      exact zK hK (by unfold jn; generalize zw (a + b) = v1; generalize zw (a - b) = v2; generalize zw (a * b) = v3; generalize zw (a.tdiv b) = v4; generalize zw (a.tmod b) = v5; omega)
    · refine ev_iloadn_2 i38_96 ?_
      first
      | refine ew_ifeqB i38_97 (fun c97 => ?_) (fun c97 => ?_)
      | refine ew_ifeq i38_97 (by omega) (fun c97 => ?_) (fun c97 => ?_)
      · refine ew_iconst i38_104 ?_
        refine ev_ireturn i38_105 r38 ?_
        exact zK hK (by unfold jn; generalize zw (a + b) = v1; generalize zw (a - b) = v2; generalize zw (a * b) = v3; generalize zw (a.tdiv b) = v4; generalize zw (a.tmod b) = v5; omega)
      · refine ew_iconst i38_100 ?_
        refine ev_goto i38_101 ?_
        refine ev_ireturn i38_105 r38 ?_
        exact zK hK (by unfold jn; generalize zw (a + b) = v1; generalize zw (a - b) = v2; generalize zw (a * b) = v3; generalize zw (a.tdiv b) = v4; generalize zw (a.tmod b) = v5; omega)
  · refine ew_lswD (o := 188) (t := 189) i38_1 (by omega) (by simp only [List.toList_toArray, Op.lookupswitch.offset]; omega) (by decide) ?_
    refine ew_iconst i38_189 ?_
    refine ev_ireturn i38_190 r38 ?_
    exact zK hK (by unfold jn; generalize zw (a + b) = v1; generalize zw (a - b) = v2; generalize zw (a * b) = v3; generalize zw (a.tdiv b) = v4; generalize zw (a.tmod b) = v5; omega)
theorem W_push {v : Int} (hc : c = 19 ∨ c = 26) (hW : WX I c m ST OP N) (hg : ar I (c + 3) t (-2147483648) 2147483647 g) (ht : 0 ≤ t ∧ t < 128) (hs : 0 ≤ s ∧ s < m) (hv : (ST s = 0 ∧ v = OP s) ∨ (ST s = 1 ∧ OP s < 6 ∧ v = zw (N (OP s)))) (hK : ∀ J o, fr (fz3 c) I J → ar J (c + 3) (t + 1) (-2147483648) 2147483647 (zu g t v) → ts_Ev X (ts_Cal X (d + 1)) 36 ts_S0 K 51 [.ref c, .int (zI (a1)), .int (zI (a2)), .int (zI (a3)), .int (zI (a4)), .int (zI (a5)), .int (zI (a6)), .int (zI (t + 1)), .int (zI (s + 1)), o] [] (J, L, ts_P0 sw, ts_S0)) (o : Value) : ts_Ev X (ts_Cal X (d + 1)) 36 ts_S0 K 51 [.ref c, .int (zI (a1)), .int (zI (a2)), .int (zI (a3)), .int (zI (a4)), .int (zI (a5)), .int (zI (a6)), .int (zI (t)), .int (zI (s)), o] [] (I, L, ts_P0 sw, ts_S0) := by
  have bm := hW.1.2
  have bs := (hW.2.1 s hs.1 hs.2).2
  have bo := (hW.2.2.1 s hs.1 hs.2).2
  have hvr : -2147483648 ≤ v ∧ v ≤ 2147483647 := by
    rcases hv with q | q
    · omega
    · rw [q.2.2]; exact zw_r _
  have fin : ts_Ev X (ts_Cal X (d + 1)) 36 ts_S0 K 124 [.ref c, .int (zI (a1)), .int (zI (a2)), .int (zI (a3)), .int (zI (a4)), .int (zI (a5)), .int (zI (a6)), .int (zI (t)), .int (zI (s)), .int (zI (ST s))] [] (ts_up I (c + 3) t.toNat (zI v), L, ts_P0 sw, ts_S0) := by
    refine ew_iinc_7 i36_124 rfl ?_
    refine ev_goto i36_127 ?_
    refine ew_iinc_8 i36_276 rfl ?_
    refine ev_goto i36_279 ?_
    exact hK _ _ (fr_up (fr_rfl _ _) rfl) (ar_ext3 hg ht.1 hvr)
  refine ev_iload_8 i36_51 ?_
  refine ev_aloadn_0 i36_53 ?_
  refine ew_getI i36_54 g36_54 (ca_I hc) (hW.1) (fun b54 => ?_)
  refine ew_icmpge i36_57 (by omega) (fun c57 => ?_) (fun c57 => ?_)
  · exfalso; omega
  · refine ev_aloadn_0 i36_60 ?_
    refine ev_getA i36_61 g36_61 (ca_I hc) ((ca_P hc sw).1) (Nat.succ_ne_zero _) ?_
    refine ev_iload_8 i36_64 ?_
    refine ew_iaload i36_66 ((ca_B hc X I).1) (by omega) (by omega) (by omega) ((hW.2.1 s hs.1 hs.2)) (fun b66 => ?_)
    refine ev_istore_9 i36_67 rfl ?_
    refine ev_iload_9 i36_69 ?_
    first
    | refine ew_ifeqB i36_71 (fun c71 => ?_) (fun c71 => ?_)
    | refine ew_ifeq i36_71 (by omega) (fun c71 => ?_) (fun c71 => ?_)
    · refine ev_iload_7 i36_80 ?_
      refine ew_sipush i36_82 (by decide) ?_
      refine ew_icmplt i36_85 (by omega) (fun c85 => ?_) (fun c85 => ?_)
      · refine ev_aloadn_0 i36_90 ?_
        refine ev_getA i36_91 g36_91 (ca_I hc) ((ca_P hc sw).2.2.1) (Nat.succ_ne_zero _) ?_
        refine ev_iload_7 i36_94 ?_
        refine ev_iload_9 i36_96 ?_
        first
        | refine ew_ifneB i36_98 (fun c98 => ?_) (fun c98 => ?_)
        | refine ew_ifne i36_98 (by omega) (fun c98 => ?_) (fun c98 => ?_)
        · refine ev_aloadn_0 i36_111 ?_
          refine ev_getA i36_112 g36_112 (ca_I hc) ((ca_P hc sw).2.2.2) (Nat.succ_ne_zero _) ?_
          refine ev_aloadn_0 i36_115 ?_
          refine ev_getA i36_116 g36_116 (ca_I hc) ((ca_P hc sw).2.1) (Nat.succ_ne_zero _) ?_
          refine ev_iload_8 i36_119 ?_
          refine ew_iaload i36_121 ((ca_B hc X I).2.1) (by omega) (by omega) (by omega) ((hW.2.2.1 s hs.1 hs.2)) (fun b121 => ?_)
          refine ew_iaload i36_122 ((ca_B hc X I).2.2.2) (by omega) (by omega) (by omega) ((hW.2.2.2 (OP s) (by omega) (by omega))) (fun b122 => ?_)
          refine ew_iastore i36_123 ((ca_A hc).2.2.1) (by omega) (by omega) (by omega) ?_
          first
          | (have e : v = OP s := by omega
             rw [e] at fin
             exact fin)
          | (have e : v = zw (N (OP s)) := by omega
             rw [e, zI_zw] at fin
             exact fin)
        · refine ev_aloadn_0 i36_101 ?_
          refine ev_getA i36_102 g36_102 (ca_I hc) ((ca_P hc sw).2.1) (Nat.succ_ne_zero _) ?_
          refine ev_iload_8 i36_105 ?_
          refine ew_iaload i36_107 ((ca_B hc X I).2.1) (by omega) (by omega) (by omega) ((hW.2.2.1 s hs.1 hs.2)) (fun b107 => ?_)
          refine ev_goto i36_108 ?_
          refine ew_iastore i36_123 ((ca_A hc).2.2.1) (by omega) (by omega) (by omega) ?_
          first
          | (have e : v = OP s := by omega
             rw [e] at fin
             exact fin)
          | (have e : v = zw (N (OP s)) := by omega
             rw [e, zI_zw] at fin
             exact fin)
      · exfalso; omega
    · refine ev_iload_9 i36_74 ?_
      refine ew_iconst i36_76 ?_
      refine ew_icmpne i36_77 (by omega) (fun c77 => ?_) (fun c77 => ?_)
      · exfalso; omega
      · refine ev_iload_7 i36_80 ?_
        refine ew_sipush i36_82 (by decide) ?_
        refine ew_icmplt i36_85 (by omega) (fun c85 => ?_) (fun c85 => ?_)
        · refine ev_aloadn_0 i36_90 ?_
          refine ev_getA i36_91 g36_91 (ca_I hc) ((ca_P hc sw).2.2.1) (Nat.succ_ne_zero _) ?_
          refine ev_iload_7 i36_94 ?_
          refine ev_iload_9 i36_96 ?_
          first
          | refine ew_ifneB i36_98 (fun c98 => ?_) (fun c98 => ?_)
          | refine ew_ifne i36_98 (by omega) (fun c98 => ?_) (fun c98 => ?_)
          · refine ev_aloadn_0 i36_111 ?_
            refine ev_getA i36_112 g36_112 (ca_I hc) ((ca_P hc sw).2.2.2) (Nat.succ_ne_zero _) ?_
            refine ev_aloadn_0 i36_115 ?_
            refine ev_getA i36_116 g36_116 (ca_I hc) ((ca_P hc sw).2.1) (Nat.succ_ne_zero _) ?_
            refine ev_iload_8 i36_119 ?_
            refine ew_iaload i36_121 ((ca_B hc X I).2.1) (by omega) (by omega) (by omega) ((hW.2.2.1 s hs.1 hs.2)) (fun b121 => ?_)
            refine ew_iaload i36_122 ((ca_B hc X I).2.2.2) (by omega) (by omega) (by omega) ((hW.2.2.2 (OP s) (by omega) (by omega))) (fun b122 => ?_)
            refine ew_iastore i36_123 ((ca_A hc).2.2.1) (by omega) (by omega) (by omega) ?_
            first
            | (have e : v = OP s := by omega
               rw [e] at fin
               exact fin)
            | (have e : v = zw (N (OP s)) := by omega
               rw [e, zI_zw] at fin
               exact fin)
          · refine ev_aloadn_0 i36_101 ?_
            refine ev_getA i36_102 g36_102 (ca_I hc) ((ca_P hc sw).2.1) (Nat.succ_ne_zero _) ?_
            refine ev_iload_8 i36_105 ?_
            refine ew_iaload i36_107 ((ca_B hc X I).2.1) (by omega) (by omega) (by omega) ((hW.2.2.1 s hs.1 hs.2)) (fun b107 => ?_)
            refine ev_goto i36_108 ?_
            refine ew_iastore i36_123 ((ca_A hc).2.2.1) (by omega) (by omega) (by omega) ?_
            first
            | (have e : v = OP s := by omega
               rw [e] at fin
               exact fin)
            | (have e : v = zw (N (OP s)) := by omega
               rw [e, zI_zw] at fin
               exact fin)
        · exfalso; omega
theorem W_un (hc : c = 19 ∨ c = 26) (hW : WX I c m ST OP N) (hg : ar I (c + 3) (t + 1) (-2147483648) 2147483647 g) (ht : 0 ≤ t ∧ t < 127) (hs : 0 ≤ s ∧ s < m) (hv : ST s = 4 ∨ ST s = 5) (hK : ∀ J o, fr (fz3 c) I J → ar J (c + 3) (t + 1) (-2147483648) 2147483647 (zu g t (ng (ST s) (g t))) → ts_Ev X (ts_Cal X (d + 1)) 36 ts_S0 K 51 [.ref c, .int (zI (a1)), .int (zI (a2)), .int (zI (a3)), .int (zI (a4)), .int (zI (a5)), .int (zI (a6)), .int (zI (t + 1)), .int (zI (s + 1)), o] [] (J, L, ts_P0 sw, ts_S0)) (o : Value) : ts_Ev X (ts_Cal X (d + 1)) 36 ts_S0 K 51 [.ref c, .int (zI (a1)), .int (zI (a2)), .int (zI (a3)), .int (zI (a4)), .int (zI (a5)), .int (zI (a6)), .int (zI (t + 1)), .int (zI (s)), o] [] (I, L, ts_P0 sw, ts_S0) := by
  have bm := hW.1.2
  have bs := (hW.2.1 s hs.1 hs.2).2
  have bg := (hg t ht.1 (by omega)).2
  refine ev_iload_8 i36_51 ?_
  refine ev_aloadn_0 i36_53 ?_
  refine ew_getI i36_54 g36_54 (ca_I hc) (hW.1) (fun b54 => ?_)
  refine ew_icmpge i36_57 (by omega) (fun c57 => ?_) (fun c57 => ?_)
  · exfalso; omega
  · refine ev_aloadn_0 i36_60 ?_
    refine ev_getA i36_61 g36_61 (ca_I hc) ((ca_P hc sw).1) (Nat.succ_ne_zero _) ?_
    refine ev_iload_8 i36_64 ?_
    refine ew_iaload i36_66 ((ca_B hc X I).1) (by omega) (by omega) (by omega) ((hW.2.1 s hs.1 hs.2)) (fun b66 => ?_)
    refine ev_istore_9 i36_67 rfl ?_
    refine ev_iload_9 i36_69 ?_
    first
    | refine ew_ifeqB i36_71 (fun c71 => ?_) (fun c71 => ?_)
    | refine ew_ifeq i36_71 (by omega) (fun c71 => ?_) (fun c71 => ?_)
    · exfalso; omega
    · refine ev_iload_9 i36_74 ?_
      refine ew_iconst i36_76 ?_
      refine ew_icmpne i36_77 (by omega) (fun c77 => ?_) (fun c77 => ?_)
      · refine ev_iload_7 i36_130 ?_
        refine ew_iconst i36_132 ?_
        refine ew_icmpge i36_133 (by omega) (fun c133 => ?_) (fun c133 => ?_)
        · refine ev_iload_9 i36_138 ?_
          refine ew_iconst i36_140 ?_
          refine ew_icmpne i36_141 (by omega) (fun c141 => ?_) (fun c141 => ?_)
          · refine ev_iload_9 i36_154 ?_
            refine ew_iconst i36_156 ?_
            refine ew_icmpne i36_157 (by omega) (fun c157 => ?_) (fun c157 => ?_)
            · refine ev_iload_9 i36_197 ?_
              refine ew_iconst i36_199 ?_
              refine ew_icmpeq i36_200 (by omega) (fun c200 => ?_) (fun c200 => ?_)
              · refine ev_aloadn_0 i36_209 ?_
                refine ev_getA i36_210 g36_210 (ca_I hc) ((ca_P hc sw).2.2.1) (Nat.succ_ne_zero _) ?_
                refine ev_iload_7 i36_213 ?_
                refine ew_iconst i36_215 ?_
                refine ew_isub i36_216 ?_
                rw [show t + 1 - 1 = t by omega]
                refine ev_iload_9 i36_217 ?_
                refine ev_aloadn_0 i36_219 ?_
                refine ev_getA i36_220 g36_220 (ca_I hc) ((ca_P hc sw).2.2.1) (Nat.succ_ne_zero _) ?_
                refine ev_iload_7 i36_223 ?_
                refine ew_iconst i36_225 ?_
                refine ew_isub i36_226 ?_
                rw [show t + 1 - 1 = t by omega]
                refine ew_iaload i36_227 ((ca_B hc X I).2.2.1) (by omega) (by omega) (by omega) ((hg t ht.1 (by omega))) (fun b227 => ?_)
                refine ev_stat2 i36_228 g36_228 (by decide +kernel) (Nat.le_of_ble_eq_true rfl) (x_negated (by omega) (by omega) ?_)
                refine ew_iastore i36_231 ((ca_A hc).2.2.1) (by omega) (by omega) (by omega) ?_
                refine ev_goto i36_232 ?_
                refine ew_iinc_8 i36_276 rfl ?_
                refine ev_goto i36_279 ?_
                exact hK _ _ (fr_up (fr_rfl _ _) rfl) (ar_up hg ht.1 (ng_r _ _))
              · refine ev_iload_9 i36_203 ?_
                refine ew_iconst i36_205 ?_
                refine ew_icmpne i36_206 (by omega) (fun c206 => ?_) (fun c206 => ?_)
                · exfalso; omega
                · refine ev_aloadn_0 i36_209 ?_
                  refine ev_getA i36_210 g36_210 (ca_I hc) ((ca_P hc sw).2.2.1) (Nat.succ_ne_zero _) ?_
                  refine ev_iload_7 i36_213 ?_
                  refine ew_iconst i36_215 ?_
                  refine ew_isub i36_216 ?_
                  rw [show t + 1 - 1 = t by omega]
                  refine ev_iload_9 i36_217 ?_
                  refine ev_aloadn_0 i36_219 ?_
                  refine ev_getA i36_220 g36_220 (ca_I hc) ((ca_P hc sw).2.2.1) (Nat.succ_ne_zero _) ?_
                  refine ev_iload_7 i36_223 ?_
                  refine ew_iconst i36_225 ?_
                  refine ew_isub i36_226 ?_
                  rw [show t + 1 - 1 = t by omega]
                  refine ew_iaload i36_227 ((ca_B hc X I).2.2.1) (by omega) (by omega) (by omega) ((hg t ht.1 (by omega))) (fun b227 => ?_)
                  refine ev_stat2 i36_228 g36_228 (by decide +kernel) (Nat.le_of_ble_eq_true rfl) (x_negated (by omega) (by omega) ?_)
                  refine ew_iastore i36_231 ((ca_A hc).2.2.1) (by omega) (by omega) (by omega) ?_
                  refine ev_goto i36_232 ?_
                  refine ew_iinc_8 i36_276 rfl ?_
                  refine ev_goto i36_279 ?_
                  exact hK _ _ (fr_up (fr_rfl _ _) rfl) (ar_up hg ht.1 (ng_r _ _))
            · exfalso; omega
          · exfalso; omega
        · exfalso; omega
      · exfalso; omega
theorem W_bin (hc : c = 19 ∨ c = 26) (hW : WX I c m ST OP N) (hg : ar I (c + 3) (t + 2) (-2147483648) 2147483647 g) (ht : 0 ≤ t ∧ t < 126) (hs : 0 ≤ s ∧ s < m) (hv : 6 ≤ ST s) (hK : ∀ J o, fr (fz3 c) I J → ar J (c + 3) (t + 1) (-2147483648) 2147483647 (zu g t (jn (ST s) (g t) (g (t + 1)))) → ts_Ev X (ts_Cal X (d + 1)) 36 ts_S0 K 51 [.ref c, .int (zI (a1)), .int (zI (a2)), .int (zI (a3)), .int (zI (a4)), .int (zI (a5)), .int (zI (a6)), .int (zI (t + 1)), .int (zI (s + 1)), o] [] (J, L, ts_P0 sw, ts_S0)) (o : Value) : ts_Ev X (ts_Cal X (d + 1)) 36 ts_S0 K 51 [.ref c, .int (zI (a1)), .int (zI (a2)), .int (zI (a3)), .int (zI (a4)), .int (zI (a5)), .int (zI (a6)), .int (zI (t + 2)), .int (zI (s)), o] [] (I, L, ts_P0 sw, ts_S0) := by
  have bm := hW.1.2
  have bs := (hW.2.1 s hs.1 hs.2).2
  have bg := (hg t ht.1 (by omega)).2
  have bg1 := (hg (t + 1) (by omega) (by omega)).2
  have ee : t + 2 + -1 = t + 1 := by omega
  have e1 : t + 1 - 1 = t := by omega
  refine ev_iload_8 i36_51 ?_
  refine ev_aloadn_0 i36_53 ?_
  refine ew_getI i36_54 g36_54 (ca_I hc) (hW.1) (fun b54 => ?_)
  refine ew_icmpge i36_57 (by omega) (fun c57 => ?_) (fun c57 => ?_)
  · exfalso; omega
  · refine ev_aloadn_0 i36_60 ?_
    refine ev_getA i36_61 g36_61 (ca_I hc) ((ca_P hc sw).1) (Nat.succ_ne_zero _) ?_
    refine ev_iload_8 i36_64 ?_
    refine ew_iaload i36_66 ((ca_B hc X I).1) (by omega) (by omega) (by omega) ((hW.2.1 s hs.1 hs.2)) (fun b66 => ?_)
    refine ev_istore_9 i36_67 rfl ?_
    refine ev_iload_9 i36_69 ?_
    first
    | refine ew_ifeqB i36_71 (fun c71 => ?_) (fun c71 => ?_)
    | refine ew_ifeq i36_71 (by omega) (fun c71 => ?_) (fun c71 => ?_)
    · exfalso; omega
    · refine ev_iload_9 i36_74 ?_
      refine ew_iconst i36_76 ?_
      refine ew_icmpne i36_77 (by omega) (fun c77 => ?_) (fun c77 => ?_)
      · refine ev_iload_7 i36_130 ?_
        refine ew_iconst i36_132 ?_
        refine ew_icmpge i36_133 (by omega) (fun c133 => ?_) (fun c133 => ?_)
        · refine ev_iload_9 i36_138 ?_
          refine ew_iconst i36_140 ?_
          refine ew_icmpne i36_141 (by omega) (fun c141 => ?_) (fun c141 => ?_)
          · refine ev_iload_9 i36_154 ?_
            refine ew_iconst i36_156 ?_
            refine ew_icmpne i36_157 (by omega) (fun c157 => ?_) (fun c157 => ?_)
            · refine ev_iload_9 i36_197 ?_
              refine ew_iconst i36_199 ?_
              refine ew_icmpeq i36_200 (by omega) (fun c200 => ?_) (fun c200 => ?_)
              · exfalso; omega
              · refine ev_iload_9 i36_203 ?_
                refine ew_iconst i36_205 ?_
                refine ew_icmpne i36_206 (by omega) (fun c206 => ?_) (fun c206 => ?_)
                · refine ev_iload_7 i36_235 ?_
                  refine ew_iconst i36_237 ?_
                  refine ew_icmpge i36_238 (by omega) (fun c238 => ?_) (fun c238 => ?_)
                  · refine ew_iinc_7 i36_243 rfl ?_
                    rw [ee]
                    refine ev_aloadn_0 i36_246 ?_
                    refine ev_getA i36_247 g36_247 (ca_I hc) ((ca_P hc sw).2.2.1) (Nat.succ_ne_zero _) ?_
                    refine ev_iload_7 i36_250 ?_
                    refine ew_iconst i36_252 ?_
                    refine ew_isub i36_253 ?_
                    rw [e1]
                    refine ev_iload_9 i36_254 ?_
                    refine ev_aloadn_0 i36_256 ?_
                    refine ev_getA i36_257 g36_257 (ca_I hc) ((ca_P hc sw).2.2.1) (Nat.succ_ne_zero _) ?_
                    refine ev_iload_7 i36_260 ?_
                    refine ew_iconst i36_262 ?_
                    refine ew_isub i36_263 ?_
                    rw [e1]
                    refine ew_iaload i36_264 ((ca_B hc X I).2.2.1) (by omega) (by omega) (by omega) ((hg t ht.1 (by omega))) (fun b264 => ?_)
                    refine ev_aloadn_0 i36_265 ?_
                    refine ev_getA i36_266 g36_266 (ca_I hc) ((ca_P hc sw).2.2.1) (Nat.succ_ne_zero _) ?_
                    refine ev_iload_7 i36_269 ?_
                    refine ew_iaload i36_271 ((ca_B hc X I).2.2.1) (by omega) (by omega) (by omega) ((hg (t + 1) (by omega) (by omega))) (fun b271 => ?_)
                    refine ev_stat3 i36_272 g36_272 (by decide +kernel) (Nat.le_of_ble_eq_true rfl) (x_joined (by omega) (by omega) (by omega) ?_)
                    refine ew_iastore i36_275 ((ca_A hc).2.2.1) (by omega) (by omega) (by omega) ?_
                    refine ew_iinc_8 i36_276 rfl ?_
                    refine ev_goto i36_279 ?_
                    refine hK _ _ (fr_up (fr_rfl _ _) rfl) (ar_up ?_ ht.1 (jn_r _ _ _))
                    exact fun q q0 q1 => hg q q0 (by omega)
                  · exfalso; omega
                · exfalso; omega
            · exfalso; omega
          · exfalso; omega
        · exfalso; omega
      · exfalso; omega
/-- a line's condition: skip if it is 0 -/
theorem W_skip (hc : c = 19 ∨ c = 26) (hW : WX I c m ST OP N) (hg : ar I (c + 3) (t + 1) (-2147483648) 2147483647 g) (ht : 0 ≤ t ∧ t < 127) (hs : 0 ≤ s ∧ s < m) (hv : ST s = 2) (ho : s < OP s) (h0 : g t = 0 → ∀ o, ts_Ev X (ts_Cal X (d + 1)) 36 ts_S0 K 51 [.ref c, .int (zI (a1)), .int (zI (a2)), .int (zI (a3)), .int (zI (a4)), .int (zI (a5)), .int (zI (a6)), .int (zI (t)), .int (zI (OP s)), o] [] (I, L, ts_P0 sw, ts_S0)) (h1 : ¬ g t = 0 → ∀ o, ts_Ev X (ts_Cal X (d + 1)) 36 ts_S0 K 51 [.ref c, .int (zI (a1)), .int (zI (a2)), .int (zI (a3)), .int (zI (a4)), .int (zI (a5)), .int (zI (a6)), .int (zI (t)), .int (zI (s + 1)), o] [] (I, L, ts_P0 sw, ts_S0)) (o : Value) : ts_Ev X (ts_Cal X (d + 1)) 36 ts_S0 K 51 [.ref c, .int (zI (a1)), .int (zI (a2)), .int (zI (a3)), .int (zI (a4)), .int (zI (a5)), .int (zI (a6)), .int (zI (t + 1)), .int (zI (s)), o] [] (I, L, ts_P0 sw, ts_S0) := by
  have bm := hW.1.2
  have bs := (hW.2.1 s hs.1 hs.2).2
  have bo := (hW.2.2.1 s hs.1 hs.2).2
  have bg := (hg t ht.1 (by omega)).2
  have ee : t + 1 + -1 = t := by omega
  refine ev_iload_8 i36_51 ?_
  refine ev_aloadn_0 i36_53 ?_
  refine ew_getI i36_54 g36_54 (ca_I hc) (hW.1) (fun b54 => ?_)
  refine ew_icmpge i36_57 (by omega) (fun c57 => ?_) (fun c57 => ?_)
  · exfalso; omega
  · refine ev_aloadn_0 i36_60 ?_
    refine ev_getA i36_61 g36_61 (ca_I hc) ((ca_P hc sw).1) (Nat.succ_ne_zero _) ?_
    refine ev_iload_8 i36_64 ?_
    refine ew_iaload i36_66 ((ca_B hc X I).1) (by omega) (by omega) (by omega) ((hW.2.1 s hs.1 hs.2)) (fun b66 => ?_)
    refine ev_istore_9 i36_67 rfl ?_
    refine ev_iload_9 i36_69 ?_
    first
    | refine ew_ifeqB i36_71 (fun c71 => ?_) (fun c71 => ?_)
    | refine ew_ifeq i36_71 (by omega) (fun c71 => ?_) (fun c71 => ?_)
    · exfalso; omega
    · refine ev_iload_9 i36_74 ?_
      refine ew_iconst i36_76 ?_
      refine ew_icmpne i36_77 (by omega) (fun c77 => ?_) (fun c77 => ?_)
      · refine ev_iload_7 i36_130 ?_
        refine ew_iconst i36_132 ?_
        refine ew_icmpge i36_133 (by omega) (fun c133 => ?_) (fun c133 => ?_)
        · refine ev_iload_9 i36_138 ?_
          refine ew_iconst i36_140 ?_
          refine ew_icmpne i36_141 (by omega) (fun c141 => ?_) (fun c141 => ?_)
          · refine ev_iload_9 i36_154 ?_
            refine ew_iconst i36_156 ?_
            refine ew_icmpne i36_157 (by omega) (fun c157 => ?_) (fun c157 => ?_)
            · exfalso; omega
            · refine ew_iinc_7 i36_160 rfl ?_
              rw [ee]
              refine ev_aloadn_0 i36_163 ?_
              refine ev_getA i36_164 g36_164 (ca_I hc) ((ca_P hc sw).2.2.1) (Nat.succ_ne_zero _) ?_
              refine ev_iload_7 i36_167 ?_
              refine ew_iaload i36_169 ((ca_B hc X I).2.2.1) (by omega) (by omega) (by omega) ((hg t ht.1 (by omega))) (fun b169 => ?_)
              first
              | refine ew_ifneB i36_170 (fun c170 => ?_) (fun c170 => ?_)
              | refine ew_ifne i36_170 (by omega) (fun c170 => ?_) (fun c170 => ?_)
              · refine ev_iload_8 i36_190 ?_
                refine ev_istore_8 i36_192 rfl ?_
                refine ev_goto i36_194 ?_
                refine ew_iinc_8 i36_276 rfl ?_
                refine ev_goto i36_279 ?_
                first
                | exact h1 (by omega) _
                | (have e := h0 (by omega) (.int (zI (ST s)))
                   rw [show (if s < OP s - 1 then OP s - 1 else s) + 1 = OP s by omega]
                   exact e)
              · refine ev_iload_8 i36_173 ?_
                refine ev_aloadn_0 i36_175 ?_
                refine ev_getA i36_176 g36_176 (ca_I hc) ((ca_P hc sw).2.1) (Nat.succ_ne_zero _) ?_
                refine ev_iload_8 i36_179 ?_
                refine ew_iaload i36_181 ((ca_B hc X I).2.1) (by omega) (by omega) (by omega) ((hW.2.2.1 s hs.1 hs.2)) (fun b181 => ?_)
                refine ew_iconst i36_182 ?_
                refine ew_isub i36_183 ?_
                refine ew_mmax i36_184 g36_184 (Nat.le_of_ble_eq_true rfl) (by omega) ?_
                refine ev_goto i36_187 ?_
                refine ev_istore_8 i36_192 rfl ?_
                refine ev_goto i36_194 ?_
                refine ew_iinc_8 i36_276 rfl ?_
                refine ev_goto i36_279 ?_
                first
                | exact h1 (by omega) _
                | (have e := h0 (by omega) (.int (zI (ST s)))
                   rw [show (if s < OP s - 1 then OP s - 1 else s) + 1 = OP s by omega]
                   exact e)
          · exfalso; omega
        · exfalso; omega
      · exfalso; omega
theorem W_answer (hc : c = 19 ∨ c = 26) (hW : WX I c m ST OP N) (hg : ar I (c + 3) (t + 1) (-2147483648) 2147483647 g) (ht : 0 ≤ t ∧ t < 127) (hs : 0 ≤ s ∧ s < m) (hv : ST s = 3) (hK : K (some (.int (zI (g t)))) (I, L, ts_P0 sw, ts_S0)) (o : Value) : ts_Ev X (ts_Cal X (d + 1)) 36 ts_S0 K 51 [.ref c, .int (zI (a1)), .int (zI (a2)), .int (zI (a3)), .int (zI (a4)), .int (zI (a5)), .int (zI (a6)), .int (zI (t + 1)), .int (zI (s)), o] [] (I, L, ts_P0 sw, ts_S0) := by
  have bm := hW.1.2
  have bs := (hW.2.1 s hs.1 hs.2).2
  have e1 : t + 1 - 1 = t := by omega
  refine ev_iload_8 i36_51 ?_
  refine ev_aloadn_0 i36_53 ?_
  refine ew_getI i36_54 g36_54 (ca_I hc) (hW.1) (fun b54 => ?_)
  refine ew_icmpge i36_57 (by omega) (fun c57 => ?_) (fun c57 => ?_)
  · exfalso; omega
  · refine ev_aloadn_0 i36_60 ?_
    refine ev_getA i36_61 g36_61 (ca_I hc) ((ca_P hc sw).1) (Nat.succ_ne_zero _) ?_
    refine ev_iload_8 i36_64 ?_
    refine ew_iaload i36_66 ((ca_B hc X I).1) (by omega) (by omega) (by omega) ((hW.2.1 s hs.1 hs.2)) (fun b66 => ?_)
    refine ev_istore_9 i36_67 rfl ?_
    refine ev_iload_9 i36_69 ?_
    first
    | refine ew_ifeqB i36_71 (fun c71 => ?_) (fun c71 => ?_)
    | refine ew_ifeq i36_71 (by omega) (fun c71 => ?_) (fun c71 => ?_)
    · exfalso; omega
    · refine ev_iload_9 i36_74 ?_
      refine ew_iconst i36_76 ?_
      refine ew_icmpne i36_77 (by omega) (fun c77 => ?_) (fun c77 => ?_)
      · refine ev_iload_7 i36_130 ?_
        refine ew_iconst i36_132 ?_
        refine ew_icmpge i36_133 (by omega) (fun c133 => ?_) (fun c133 => ?_)
        · refine ev_iload_9 i36_138 ?_
          refine ew_iconst i36_140 ?_
          refine ew_icmpne i36_141 (by omega) (fun c141 => ?_) (fun c141 => ?_)
          · exfalso; omega
          · refine ev_aloadn_0 i36_144 ?_
            refine ev_getA i36_145 g36_145 (ca_I hc) ((ca_P hc sw).2.2.1) (Nat.succ_ne_zero _) ?_
            refine ev_iload_7 i36_148 ?_
            refine ew_iconst i36_150 ?_
            refine ew_isub i36_151 ?_
            rw [e1]
            refine ew_iaload i36_152 ((ca_B hc X I).2.2.1) (by omega) (by omega) (by omega) ((hg t ht.1 (by omega))) (fun b152 => ?_)
            refine ev_ireturn i36_153 r36 ?_
            first | exact hK | exact zK hK (by omega)
        · exfalso; omega
      · exfalso; omega
theorem W_end (hc : c = 19 ∨ c = 26) (hW : WX I c m ST OP N) (hK : K (some (.int (zI (0)))) (I, L, ts_P0 sw, ts_S0)) (o : Value) : ts_Ev X (ts_Cal X (d + 1)) 36 ts_S0 K 51 [.ref c, .int (zI (a1)), .int (zI (a2)), .int (zI (a3)), .int (zI (a4)), .int (zI (a5)), .int (zI (a6)), .int (zI (t)), .int (zI (m)), o] [] (I, L, ts_P0 sw, ts_S0) := by
  have bm := hW.1.2
  refine ev_iload_8 i36_51 ?_
  refine ev_aloadn_0 i36_53 ?_
  refine ew_getI i36_54 g36_54 (ca_I hc) (hW.1) (fun b54 => ?_)
  refine ew_icmpge i36_57 (by omega) (fun c57 => ?_) (fun c57 => ?_)
  · refine ew_iconst i36_282 ?_
    refine ev_ireturn i36_283 r36 ?_
    first | exact hK | exact zK hK (by omega)
  · exfalso; omega
end RU
/-! runs put together -/
section RV
variable {s s1 s2 : Int} {st op st1 op1 st2 op2 : Int → Int} {v w : (Int → Int) → Int}
theorem RN_num {u : Int} (h0 : 0 ≤ s) (h1 : s < 128) : RN s (s + 1) (zu st s 0) (zu op s u) (fun _ => u) := by
  intro X I L sw K d c g t m ST OP N a1 a2 a3 a4 a5 a6 hc hW he hg t0 t1 hm hK o
  have e := he s (Int.le_refl _) (by omega)
  rw [zu_e, zu_e] at e
  exact W_push hc hW hg (by omega) (by omega) (Or.inl ⟨e.1, e.2.symm⟩) hK o
theorem RN_name {i : Int} (h0 : 0 ≤ s) (h1 : s < 128) (hi : i < 6) : RN s (s + 1) (zu st s 1) (zu op s i) (fun N => zw (N i)) := by
  intro X I L sw K d c g t m ST OP N a1 a2 a3 a4 a5 a6 hc hW he hg t0 t1 hm hK o
  have e := he s (Int.le_refl _) (by omega)
  rw [zu_e, zu_e] at e
  exact W_push hc hW hg (by omega) (by omega) (Or.inr ⟨e.1, by omega, by rw [e.2]⟩) hK o
theorem RN_un {k : Int} (h : RN s s1 st op v) (h0 : 0 ≤ s) (h1 : s < s1) (h2 : s1 < 127) (hk : k = 4 ∨ k = 5) : RN s (s1 + 1) (zu st s1 k) (zu op s1 0) (fun N => ng k (v N)) := by
  intro X I L sw K d c g t m ST OP N a1 a2 a3 a4 a5 a6 hc hW he hg t0 t1 hm hK o
  refine h X I L sw K d c g t m ST OP N a1 a2 a3 a4 a5 a6 hc hW (fun k k0 k1 => ?_) hg t0 t1 (by omega) (fun J o' hJ hgJ => ?_) o
  · have e := he k k0 (by omega)
    rw [zu_n (by omega), zu_n (by omega)] at e
    exact e
  · have e := he s1 (by omega) (by omega)
    rw [zu_e, zu_e] at e
    refine W_un hc (hW.co hJ) hgJ (by omega) (by omega) (by omega) (fun M o2 hM hgM => ?_) o'
    refine hK M o2 (fr_tr hJ hM) (ar_cg hgM (fun q q0 q1 => ?_))
    rw [e.1, zu_e]
    unfold zu
    split <;> rfl
theorem RN_bin {k : Int} (h : RN s s1 st op v) (h' : RN s1 s2 st1 op1 w) (h0 : 0 ≤ s) (h1 : s < s1) (h2 : s1 < s2) (h3 : s2 < 127) (he1 : ∀ k, s ≤ k → k < s1 → st1 k = st k ∧ op1 k = op k) (hk : 6 ≤ k) : RN s (s2 + 1) (zu st1 s2 k) (zu op1 s2 0) (fun N => jn k (v N) (w N)) := by
  intro X I L sw K d c g t m ST OP N a1 a2 a3 a4 a5 a6 hc hW he hg t0 t1 hm hK o
  refine h X I L sw K d c g t m ST OP N a1 a2 a3 a4 a5 a6 hc hW (fun k k0 k1 => ?_) hg t0 t1 (by omega) (fun J o' hJ hgJ => ?_) o
  · have e := he k k0 (by omega)
    rw [zu_n (by omega), zu_n (by omega)] at e
    exact ⟨e.1.trans (he1 k k0 k1).1, e.2.trans (he1 k k0 k1).2⟩
  · refine h' X J L sw K d c (zu g t (v N)) (t + 1) m ST OP N a1 a2 a3 a4 a5 a6 hc (hW.co hJ) (fun k k0 k1 => ?_) hgJ (by omega) (by omega) (by omega) (fun M o2 hM hgM => ?_) o'
    · have e := he k (by omega) (by omega)
      rw [zu_n (by omega), zu_n (by omega)] at e
      exact e
    · have e := he s2 (by omega) (by omega)
      rw [zu_e, zu_e] at e
      rw [show t + 1 + 1 = t + 2 by omega] at hgM ⊢
      refine W_bin hc ((hW.co hJ).co hM) hgM (by omega) (by omega) (by omega) (fun Q o3 hQ hgQ => ?_) o2
      refine hK Q o3 (fr_tr (fr_tr hJ hM) hQ) (ar_cg hgQ (fun q q0 q1 => ?_))
      rw [e.1, zu_e, zu_n (show ¬ t = t + 1 by omega), zu_e]
      unfold zu
      by_cases c1 : q = t
      · rw [if_pos c1, if_pos c1]
      · rw [if_neg c1, if_neg (by omega), if_neg c1, if_neg c1]
end RV
