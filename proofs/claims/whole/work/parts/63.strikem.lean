theorem i212_0 : ts_ins 212 0 = some (.iload_n 1, 1, 0) := by decide +kernel
theorem i212_1 : ts_ins 212 1 = some (.i2l, 2, 0) := by decide +kernel
theorem i212_2 : ts_ins 212 2 = some (.lconst 0, 3, 0) := by decide +kernel
theorem i212_3 : ts_ins 212 3 = some (.ldc2_w 214, 6, 0) := by decide +kernel
theorem g212_3 : ts_lc (ts_mc 212) 214 = some (.long (16)) := by decide +kernel
theorem i212_6 : ts_ins 212 6 = some (.invokestatic 95, 9, 0) := by decide +kernel
theorem g212_6 : ts_cal (ts_mc 212) 95 = some (1, 143, 3) := by decide +kernel
theorem i212_9 : ts_ins 212 9 = some (.ifCond .ne 5, 12, 14) := by decide +kernel
theorem i212_12 : ts_ins 212 12 = some (.iconst (-1), 13, 0) := by decide +kernel
theorem i212_13 : ts_ins 212 13 = some (.ireturn, 14, 0) := by decide +kernel
theorem i212_14 : ts_ins 212 14 = some (.aload_n 0, 15, 0) := by decide +kernel
theorem i212_15 : ts_ins 212 15 = some (.getfield 99, 18, 0) := by decide +kernel
theorem g212_15 : ts_fm 212 99 = some (12, 6, 0) := by decide +kernel
theorem i212_18 : ts_ins 212 18 = some (.ifCond .eq 28, 21, 46) := by decide +kernel
theorem i212_21 : ts_ins 212 21 = some (.iload_n 1, 22, 0) := by decide +kernel
theorem i212_22 : ts_ins 212 22 = some (.bipush 16, 24, 0) := by decide +kernel
theorem i212_24 : ts_ins 212 24 = some (.if_icmp .eq 25, 27, 49) := by decide +kernel
theorem i212_27 : ts_ins 212 27 = some (.aload_n 0, 28, 0) := by decide +kernel
theorem i212_28 : ts_ins 212 28 = some (.aload_n 0, 29, 0) := by decide +kernel
theorem i212_29 : ts_ins 212 29 = some (.getfield 49, 32, 0) := by decide +kernel
theorem g212_29 : ts_fm 212 49 = some (12, 26, 2) := by decide +kernel
theorem i212_32 : ts_ins 212 32 = some (.iconst 0, 33, 0) := by decide +kernel
theorem i212_33 : ts_ins 212 33 = some (.iaload, 34, 0) := by decide +kernel
theorem i212_34 : ts_ins 212 34 = some (.aload_n 0, 35, 0) := by decide +kernel
theorem i212_35 : ts_ins 212 35 = some (.getfield 99, 38, 0) := by decide +kernel
theorem g212_35 : ts_fm 212 99 = some (12, 6, 0) := by decide +kernel
theorem i212_38 : ts_ins 212 38 = some (.irem, 39, 0) := by decide +kernel
theorem i212_39 : ts_ins 212 39 = some (.iload_n 1, 40, 0) := by decide +kernel
theorem i212_40 : ts_ins 212 40 = some (.invokevirtual 201, 43, 0) := by decide +kernel
theorem g212_40 : ts_cal (ts_mc 212) 201 = some (0, 173, 2) := by decide +kernel
theorem i212_43 : ts_ins 212 43 = some (.ifCond .ne 6, 46, 49) := by decide +kernel
theorem i212_46 : ts_ins 212 46 = some (.bipush (-5), 48, 0) := by decide +kernel
theorem i212_48 : ts_ins 212 48 = some (.ireturn, 49, 0) := by decide +kernel
theorem i212_49 : ts_ins 212 49 = some (.iconst 0, 50, 0) := by decide +kernel
theorem i212_50 : ts_ins 212 50 = some (.istore_n 2, 51, 0) := by decide +kernel
theorem i212_51 : ts_ins 212 51 = some (.iload_n 1, 52, 0) := by decide +kernel
theorem i212_52 : ts_ins 212 52 = some (.bipush 16, 54, 0) := by decide +kernel
theorem i212_54 : ts_ins 212 54 = some (.if_icmp .eq 113, 57, 167) := by decide +kernel
theorem i212_57 : ts_ins 212 57 = some (.aload_n 0, 58, 0) := by decide +kernel
theorem i212_58 : ts_ins 212 58 = some (.invokevirtual 205, 61, 0) := by decide +kernel
theorem g212_58 : ts_cal (ts_mc 212) 205 = some (0, 175, 0) := by decide +kernel
theorem i212_61 : ts_ins 212 61 = some (.aload_n 0, 62, 0) := by decide +kernel
theorem i212_62 : ts_ins 212 62 = some (.iload_n 1, 63, 0) := by decide +kernel
theorem i212_63 : ts_ins 212 63 = some (.aload_n 0, 64, 0) := by decide +kernel
theorem i212_64 : ts_ins 212 64 = some (.getfield 49, 67, 0) := by decide +kernel
theorem g212_64 : ts_fm 212 49 = some (12, 26, 2) := by decide +kernel
theorem i212_67 : ts_ins 212 67 = some (.iconst 0, 68, 0) := by decide +kernel
theorem i212_68 : ts_ins 212 68 = some (.iaload, 69, 0) := by decide +kernel
theorem i212_69 : ts_ins 212 69 = some (.aload_n 0, 70, 0) := by decide +kernel
theorem i212_70 : ts_ins 212 70 = some (.getfield 99, 73, 0) := by decide +kernel
theorem g212_70 : ts_fm 212 99 = some (12, 6, 0) := by decide +kernel
theorem i212_73 : ts_ins 212 73 = some (.irem, 74, 0) := by decide +kernel
theorem i212_74 : ts_ins 212 74 = some (.aload_n 0, 75, 0) := by decide +kernel
theorem i212_75 : ts_ins 212 75 = some (.getfield 49, 78, 0) := by decide +kernel
theorem g212_75 : ts_fm 212 49 = some (12, 26, 2) := by decide +kernel
theorem i212_78 : ts_ins 212 78 = some (.iconst 0, 79, 0) := by decide +kernel
theorem i212_79 : ts_ins 212 79 = some (.iaload, 80, 0) := by decide +kernel
theorem i212_80 : ts_ins 212 80 = some (.invokevirtual 216, 83, 0) := by decide +kernel
theorem g212_80 : ts_cal (ts_mc 212) 216 = some (0, 177, 3) := by decide +kernel
theorem i212_83 : ts_ins 212 83 = some (.istore_n 2, 84, 0) := by decide +kernel
theorem i212_84 : ts_ins 212 84 = some (.aload_n 0, 85, 0) := by decide +kernel
theorem i212_85 : ts_ins 212 85 = some (.getfield 49, 88, 0) := by decide +kernel
theorem g212_85 : ts_fm 212 49 = some (12, 26, 2) := by decide +kernel
theorem i212_88 : ts_ins 212 88 = some (.iconst 1, 89, 0) := by decide +kernel
theorem i212_89 : ts_ins 212 89 = some (.dup2, 90, 0) := by decide +kernel
theorem i212_90 : ts_ins 212 90 = some (.iaload, 91, 0) := by decide +kernel
theorem i212_91 : ts_ins 212 91 = some (.iconst 1, 92, 0) := by decide +kernel
theorem i212_92 : ts_ins 212 92 = some (.iadd, 93, 0) := by decide +kernel
theorem i212_93 : ts_ins 212 93 = some (.iastore, 94, 0) := by decide +kernel
theorem i212_94 : ts_ins 212 94 = some (.aload_n 0, 95, 0) := by decide +kernel
theorem i212_95 : ts_ins 212 95 = some (.getfield 49, 98, 0) := by decide +kernel
theorem g212_95 : ts_fm 212 49 = some (12, 26, 2) := by decide +kernel
theorem i212_98 : ts_ins 212 98 = some (.iconst 2, 99, 0) := by decide +kernel
theorem i212_99 : ts_ins 212 99 = some (.dup2, 100, 0) := by decide +kernel
theorem i212_100 : ts_ins 212 100 = some (.iaload, 101, 0) := by decide +kernel
theorem i212_101 : ts_ins 212 101 = some (.iload_n 2, 102, 0) := by decide +kernel
theorem i212_102 : ts_ins 212 102 = some (.ifCond .le 7, 105, 109) := by decide +kernel
theorem i212_105 : ts_ins 212 105 = some (.iconst 1, 106, 0) := by decide +kernel
theorem i212_106 : ts_ins 212 106 = some (.goto 4, 109, 110) := by decide +kernel
theorem i212_109 : ts_ins 212 109 = some (.iconst 0, 110, 0) := by decide +kernel
theorem i212_110 : ts_ins 212 110 = some (.iadd, 111, 0) := by decide +kernel
theorem i212_111 : ts_ins 212 111 = some (.iastore, 112, 0) := by decide +kernel
theorem i212_112 : ts_ins 212 112 = some (.aload_n 0, 113, 0) := by decide +kernel
theorem i212_113 : ts_ins 212 113 = some (.getfield 49, 116, 0) := by decide +kernel
theorem g212_113 : ts_fm 212 49 = some (12, 26, 2) := by decide +kernel
theorem i212_116 : ts_ins 212 116 = some (.iconst 3, 117, 0) := by decide +kernel
theorem i212_117 : ts_ins 212 117 = some (.dup2, 118, 0) := by decide +kernel
theorem i212_118 : ts_ins 212 118 = some (.iaload, 119, 0) := by decide +kernel
theorem i212_119 : ts_ins 212 119 = some (.aload_n 0, 120, 0) := by decide +kernel
theorem i212_120 : ts_ins 212 120 = some (.getfield 9, 123, 0) := by decide +kernel
theorem g212_120 : ts_fm 212 9 = some (12, 0, 2) := by decide +kernel
theorem i212_123 : ts_ins 212 123 = some (.bipush 16, 125, 0) := by decide +kernel
theorem i212_125 : ts_ins 212 125 = some (.iload_n 1, 126, 0) := by decide +kernel
theorem i212_126 : ts_ins 212 126 = some (.iadd, 127, 0) := by decide +kernel
theorem i212_127 : ts_ins 212 127 = some (.iaload, 128, 0) := by decide +kernel
theorem i212_128 : ts_ins 212 128 = some (.ifCond .le 7, 131, 135) := by decide +kernel
theorem i212_131 : ts_ins 212 131 = some (.iconst 1, 132, 0) := by decide +kernel
theorem i212_132 : ts_ins 212 132 = some (.goto 4, 135, 136) := by decide +kernel
theorem i212_135 : ts_ins 212 135 = some (.iconst 0, 136, 0) := by decide +kernel
theorem i212_136 : ts_ins 212 136 = some (.iadd, 137, 0) := by decide +kernel
theorem i212_137 : ts_ins 212 137 = some (.iastore, 138, 0) := by decide +kernel
theorem i212_138 : ts_ins 212 138 = some (.aload_n 0, 139, 0) := by decide +kernel
theorem i212_139 : ts_ins 212 139 = some (.getfield 9, 142, 0) := by decide +kernel
theorem g212_139 : ts_fm 212 9 = some (12, 0, 2) := by decide +kernel
theorem i212_142 : ts_ins 212 142 = some (.bipush 16, 144, 0) := by decide +kernel
theorem i212_144 : ts_ins 212 144 = some (.iload_n 1, 145, 0) := by decide +kernel
theorem i212_145 : ts_ins 212 145 = some (.iadd, 146, 0) := by decide +kernel
theorem i212_146 : ts_ins 212 146 = some (.dup2, 147, 0) := by decide +kernel
theorem i212_147 : ts_ins 212 147 = some (.iaload, 148, 0) := by decide +kernel
theorem i212_148 : ts_ins 212 148 = some (.aload_n 0, 149, 0) := by decide +kernel
theorem i212_149 : ts_ins 212 149 = some (.getfield 9, 152, 0) := by decide +kernel
theorem g212_149 : ts_fm 212 9 = some (12, 0, 2) := by decide +kernel
theorem i212_152 : ts_ins 212 152 = some (.bipush 16, 154, 0) := by decide +kernel
theorem i212_154 : ts_ins 212 154 = some (.iload_n 1, 155, 0) := by decide +kernel
theorem i212_155 : ts_ins 212 155 = some (.iadd, 156, 0) := by decide +kernel
theorem i212_156 : ts_ins 212 156 = some (.iaload, 157, 0) := by decide +kernel
theorem i212_157 : ts_ins 212 157 = some (.ifCond .le 7, 160, 164) := by decide +kernel
theorem i212_160 : ts_ins 212 160 = some (.iconst 1, 161, 0) := by decide +kernel
theorem i212_161 : ts_ins 212 161 = some (.goto 4, 164, 165) := by decide +kernel
theorem i212_164 : ts_ins 212 164 = some (.iconst 0, 165, 0) := by decide +kernel
theorem i212_165 : ts_ins 212 165 = some (.isub, 166, 0) := by decide +kernel
theorem i212_166 : ts_ins 212 166 = some (.iastore, 167, 0) := by decide +kernel
theorem i212_167 : ts_ins 212 167 = some (.iconst 5, 168, 0) := by decide +kernel
theorem i212_168 : ts_ins 212 168 = some (.istore_n 3, 169, 0) := by decide +kernel
theorem i212_169 : ts_ins 212 169 = some (.iload_n 3, 170, 0) := by decide +kernel
theorem i212_170 : ts_ins 212 170 = some (.ifCond .le 23, 173, 193) := by decide +kernel
theorem i212_173 : ts_ins 212 173 = some (.aload_n 0, 174, 0) := by decide +kernel
theorem i212_174 : ts_ins 212 174 = some (.getfield 52, 177, 0) := by decide +kernel
theorem g212_174 : ts_fm 212 52 = some (12, 27, 2) := by decide +kernel
theorem i212_177 : ts_ins 212 177 = some (.iload_n 3, 178, 0) := by decide +kernel
theorem i212_178 : ts_ins 212 178 = some (.aload_n 0, 179, 0) := by decide +kernel
theorem i212_179 : ts_ins 212 179 = some (.getfield 52, 182, 0) := by decide +kernel
theorem g212_179 : ts_fm 212 52 = some (12, 27, 2) := by decide +kernel
theorem i212_182 : ts_ins 212 182 = some (.iload_n 3, 183, 0) := by decide +kernel
theorem i212_183 : ts_ins 212 183 = some (.iconst 1, 184, 0) := by decide +kernel
theorem i212_184 : ts_ins 212 184 = some (.isub, 185, 0) := by decide +kernel
theorem i212_185 : ts_ins 212 185 = some (.iaload, 186, 0) := by decide +kernel
theorem i212_186 : ts_ins 212 186 = some (.iastore, 187, 0) := by decide +kernel
theorem i212_187 : ts_ins 212 187 = some (.iinc 3 (-1), 190, 0) := by decide +kernel
theorem i212_190 : ts_ins 212 190 = some (.goto (-21), 193, 169) := by decide +kernel
theorem i212_193 : ts_ins 212 193 = some (.aload_n 0, 194, 0) := by decide +kernel
theorem i212_194 : ts_ins 212 194 = some (.getfield 52, 197, 0) := by decide +kernel
theorem g212_194 : ts_fm 212 52 = some (12, 27, 2) := by decide +kernel
theorem i212_197 : ts_ins 212 197 = some (.iconst 0, 198, 0) := by decide +kernel
theorem i212_198 : ts_ins 212 198 = some (.iload_n 2, 199, 0) := by decide +kernel
theorem i212_199 : ts_ins 212 199 = some (.ifCond .le 12, 202, 211) := by decide +kernel
theorem i212_202 : ts_ins 212 202 = some (.aload_n 0, 203, 0) := by decide +kernel
theorem i212_203 : ts_ins 212 203 = some (.getfield 9, 206, 0) := by decide +kernel
theorem g212_203 : ts_fm 212 9 = some (12, 0, 2) := by decide +kernel
theorem i212_206 : ts_ins 212 206 = some (.iload_n 1, 207, 0) := by decide +kernel
theorem i212_207 : ts_ins 212 207 = some (.iaload, 208, 0) := by decide +kernel
theorem i212_208 : ts_ins 212 208 = some (.goto 5, 211, 213) := by decide +kernel
theorem i212_211 : ts_ins 212 211 = some (.bipush 8, 213, 0) := by decide +kernel
theorem i212_213 : ts_ins 212 213 = some (.iastore, 214, 0) := by decide +kernel
theorem i212_214 : ts_ins 212 214 = some (.aload_n 0, 215, 0) := by decide +kernel
theorem i212_215 : ts_ins 212 215 = some (.getfield 49, 218, 0) := by decide +kernel
theorem g212_215 : ts_fm 212 49 = some (12, 26, 2) := by decide +kernel
theorem i212_218 : ts_ins 212 218 = some (.iconst 0, 219, 0) := by decide +kernel
theorem i212_219 : ts_ins 212 219 = some (.dup2, 220, 0) := by decide +kernel
theorem i212_220 : ts_ins 212 220 = some (.iaload, 221, 0) := by decide +kernel
theorem i212_221 : ts_ins 212 221 = some (.iconst 1, 222, 0) := by decide +kernel
theorem i212_222 : ts_ins 212 222 = some (.iadd, 223, 0) := by decide +kernel
theorem i212_223 : ts_ins 212 223 = some (.iastore, 224, 0) := by decide +kernel
theorem i212_224 : ts_ins 212 224 = some (.iload_n 2, 225, 0) := by decide +kernel
theorem i212_225 : ts_ins 212 225 = some (.ireturn, 226, 0) := by decide +kernel
theorem r212 : ts_rt 212 = ((some .int), 0, 0) := by decide +kernel
theorem l212 : ts_ml 212 = 4 := by decide +kernel
theorem i213_0 : ts_ins 213 0 = some (.iload_n 1, 1, 0) := by decide +kernel
theorem i213_1 : ts_ins 213 1 = some (.i2l, 2, 0) := by decide +kernel
theorem i213_2 : ts_ins 213 2 = some (.invokestatic 107, 5, 0) := by decide +kernel
theorem g213_2 : ts_cal (ts_mc 213) 107 = some (1, 148, 1) := by decide +kernel
theorem i213_5 : ts_ins 213 5 = some (.ifCond .ne 5, 8, 10) := by decide +kernel
theorem i213_8 : ts_ins 213 8 = some (.iconst (-1), 9, 0) := by decide +kernel
theorem i213_9 : ts_ins 213 9 = some (.ireturn, 10, 0) := by decide +kernel
theorem i213_10 : ts_ins 213 10 = some (.aload_n 0, 11, 0) := by decide +kernel
theorem i213_11 : ts_ins 213 11 = some (.getfield 9, 14, 0) := by decide +kernel
theorem g213_11 : ts_fm 213 9 = some (12, 0, 2) := by decide +kernel
theorem i213_14 : ts_ins 213 14 = some (.bipush 16, 16, 0) := by decide +kernel
theorem i213_16 : ts_ins 213 16 = some (.iload_n 1, 17, 0) := by decide +kernel
theorem i213_17 : ts_ins 213 17 = some (.iadd, 18, 0) := by decide +kernel
theorem i213_18 : ts_ins 213 18 = some (.dup2, 19, 0) := by decide +kernel
theorem i213_19 : ts_ins 213 19 = some (.iaload, 20, 0) := by decide +kernel
theorem i213_20 : ts_ins 213 20 = some (.aload_n 0, 21, 0) := by decide +kernel
theorem i213_21 : ts_ins 213 21 = some (.getfield 9, 24, 0) := by decide +kernel
theorem g213_21 : ts_fm 213 9 = some (12, 0, 2) := by decide +kernel
theorem i213_24 : ts_ins 213 24 = some (.bipush 16, 26, 0) := by decide +kernel
theorem i213_26 : ts_ins 213 26 = some (.iload_n 1, 27, 0) := by decide +kernel
theorem i213_27 : ts_ins 213 27 = some (.iadd, 28, 0) := by decide +kernel
theorem i213_28 : ts_ins 213 28 = some (.iaload, 29, 0) := by decide +kernel
theorem i213_29 : ts_ins 213 29 = some (.bipush 9, 31, 0) := by decide +kernel
theorem i213_31 : ts_ins 213 31 = some (.if_icmp .ge 7, 34, 38) := by decide +kernel
theorem i213_34 : ts_ins 213 34 = some (.iconst 1, 35, 0) := by decide +kernel
theorem i213_35 : ts_ins 213 35 = some (.goto 4, 38, 39) := by decide +kernel
theorem i213_38 : ts_ins 213 38 = some (.iconst 0, 39, 0) := by decide +kernel
theorem i213_39 : ts_ins 213 39 = some (.iadd, 40, 0) := by decide +kernel
theorem i213_40 : ts_ins 213 40 = some (.iastore, 41, 0) := by decide +kernel
theorem i213_41 : ts_ins 213 41 = some (.aload_n 0, 42, 0) := by decide +kernel
theorem i213_42 : ts_ins 213 42 = some (.getfield 49, 45, 0) := by decide +kernel
theorem g213_42 : ts_fm 213 49 = some (12, 26, 2) := by decide +kernel
theorem i213_45 : ts_ins 213 45 = some (.iconst 4, 46, 0) := by decide +kernel
theorem i213_46 : ts_ins 213 46 = some (.dup2, 47, 0) := by decide +kernel
theorem i213_47 : ts_ins 213 47 = some (.iaload, 48, 0) := by decide +kernel
theorem i213_48 : ts_ins 213 48 = some (.iconst 1, 49, 0) := by decide +kernel
theorem i213_49 : ts_ins 213 49 = some (.iadd, 50, 0) := by decide +kernel
theorem i213_50 : ts_ins 213 50 = some (.iastore, 51, 0) := by decide +kernel
theorem i213_51 : ts_ins 213 51 = some (.aload_n 0, 52, 0) := by decide +kernel
theorem i213_52 : ts_ins 213 52 = some (.getfield 9, 55, 0) := by decide +kernel
theorem g213_52 : ts_fm 213 9 = some (12, 0, 2) := by decide +kernel
theorem i213_55 : ts_ins 213 55 = some (.bipush 16, 57, 0) := by decide +kernel
theorem i213_57 : ts_ins 213 57 = some (.iload_n 1, 58, 0) := by decide +kernel
theorem i213_58 : ts_ins 213 58 = some (.iadd, 59, 0) := by decide +kernel
theorem i213_59 : ts_ins 213 59 = some (.iaload, 60, 0) := by decide +kernel
theorem i213_60 : ts_ins 213 60 = some (.ireturn, 61, 0) := by decide +kernel
theorem r213 : ts_rt 213 = ((some .int), 0, 0) := by decide +kernel
theorem l213 : ts_ml 213 = 2 := by decide +kernel
theorem i214_0 : ts_ins 214 0 = some (.iload_n 1, 1, 0) := by decide +kernel
theorem i214_1 : ts_ins 214 1 = some (.i2l, 2, 0) := by decide +kernel
theorem i214_2 : ts_ins 214 2 = some (.lconst 0, 3, 0) := by decide +kernel
theorem i214_3 : ts_ins 214 3 = some (.ldc2_w 220, 6, 0) := by decide +kernel
theorem g214_3 : ts_lc (ts_mc 214) 220 = some (.long (4)) := by decide +kernel
theorem i214_6 : ts_ins 214 6 = some (.invokestatic 95, 9, 0) := by decide +kernel
theorem g214_6 : ts_cal (ts_mc 214) 95 = some (1, 143, 3) := by decide +kernel
theorem i214_9 : ts_ins 214 9 = some (.ifCond .eq 10, 12, 19) := by decide +kernel
theorem i214_12 : ts_ins 214 12 = some (.aload_n 0, 13, 0) := by decide +kernel
theorem i214_13 : ts_ins 214 13 = some (.getfield 49, 16, 0) := by decide +kernel
theorem g214_13 : ts_fm 214 49 = some (12, 26, 2) := by decide +kernel
theorem i214_16 : ts_ins 214 16 = some (.iload_n 1, 17, 0) := by decide +kernel
theorem i214_17 : ts_ins 214 17 = some (.iaload, 18, 0) := by decide +kernel
theorem i214_18 : ts_ins 214 18 = some (.ireturn, 19, 0) := by decide +kernel
theorem i214_19 : ts_ins 214 19 = some (.iload_n 1, 20, 0) := by decide +kernel
theorem i214_20 : ts_ins 214 20 = some (.i2l, 21, 0) := by decide +kernel
theorem i214_21 : ts_ins 214 21 = some (.ldc2_w 288, 24, 0) := by decide +kernel
theorem g214_21 : ts_lc (ts_mc 214) 288 = some (.long (10)) := by decide +kernel
theorem i214_24 : ts_ins 214 24 = some (.ldc2_w 93, 27, 0) := by decide +kernel
theorem g214_24 : ts_lc (ts_mc 214) 93 = some (.long (15)) := by decide +kernel
theorem i214_27 : ts_ins 214 27 = some (.invokestatic 95, 30, 0) := by decide +kernel
theorem g214_27 : ts_cal (ts_mc 214) 95 = some (1, 143, 3) := by decide +kernel
theorem i214_30 : ts_ins 214 30 = some (.ifCond .ne 7, 33, 37) := by decide +kernel
theorem i214_33 : ts_ins 214 33 = some (.iconst (-1), 34, 0) := by decide +kernel
theorem i214_34 : ts_ins 214 34 = some (.goto 30, 37, 64) := by decide +kernel
theorem i214_37 : ts_ins 214 37 = some (.iload_n 1, 38, 0) := by decide +kernel
theorem i214_38 : ts_ins 214 38 = some (.bipush 10, 40, 0) := by decide +kernel
theorem i214_40 : ts_ins 214 40 = some (.isub, 41, 0) := by decide +kernel
theorem i214_41 : ts_ins 214 41 = some (.aload_n 0, 42, 0) := by decide +kernel
theorem i214_42 : ts_ins 214 42 = some (.getfield 49, 45, 0) := by decide +kernel
theorem g214_42 : ts_fm 214 49 = some (12, 26, 2) := by decide +kernel
theorem i214_45 : ts_ins 214 45 = some (.iconst 0, 46, 0) := by decide +kernel
theorem i214_46 : ts_ins 214 46 = some (.iaload, 47, 0) := by decide +kernel
theorem i214_47 : ts_ins 214 47 = some (.if_icmp .lt 8, 50, 55) := by decide +kernel
theorem i214_50 : ts_ins 214 50 = some (.bipush (-2), 52, 0) := by decide +kernel
theorem i214_52 : ts_ins 214 52 = some (.goto 12, 55, 64) := by decide +kernel
theorem i214_55 : ts_ins 214 55 = some (.aload_n 0, 56, 0) := by decide +kernel
theorem i214_56 : ts_ins 214 56 = some (.getfield 52, 59, 0) := by decide +kernel
theorem g214_56 : ts_fm 214 52 = some (12, 27, 2) := by decide +kernel
theorem i214_59 : ts_ins 214 59 = some (.iload_n 1, 60, 0) := by decide +kernel
theorem i214_60 : ts_ins 214 60 = some (.bipush 10, 62, 0) := by decide +kernel
theorem i214_62 : ts_ins 214 62 = some (.isub, 63, 0) := by decide +kernel
theorem i214_63 : ts_ins 214 63 = some (.iaload, 64, 0) := by decide +kernel
theorem i214_64 : ts_ins 214 64 = some (.ireturn, 65, 0) := by decide +kernel
theorem r214 : ts_rt 214 = ((some .int), 0, 0) := by decide +kernel
theorem l214 : ts_ml 214 = 2 := by decide +kernel
/-! strike, sow, led: the reference; image, back: both sides -/
abbrev fms : Nat → Nat → Prop := fun a k => (a = 72 ∧ 13 ≤ k ∧ k ≤ 17) ∨ a = 73 ∨ a = 80 ∨ a = 81 ∨ a = 86 ∨ a = 87
abbrev fxi : Nat → Nat → Prop := fun a k => (a = 1 ∧ k = 9) ∨ a = 48 ∨ a = 49 ∨ a = 50
abbrev fmi : Nat → Nat → Prop := fun a k => (a = 72 ∧ k = 28) ∨ a = 88 ∨ a = 89 ∨ a = 90
abbrev fxk : Nat → Nat → Prop := fun a _ => a = 4 ∨ a = 45 ∨ a = 46
abbrev fmk : Nat → Nat → Prop := fun a _ => a = 73 ∨ a = 86 ∨ a = 87
def g_backF (f : ts_Fl) (im : ts_Im) : ts_Fl := if im.1 = 1 then fs_corn f (fun p => if 0 ≤ p ∧ p < 16 then im.2.1 p else f_corn f p) else f
def g_backE (e : ts_De) (im : ts_Im) : ts_De := if im.1 = 1 then im.2.2 else e
def g_backA (im : ts_Im) : Int := if im.1 = 1 then im.2.2.1 0 else -5
section SM2
variable {X : ts_X} {I J : Nat → Nat → Int32} {L : Nat → Nat → Int64} {sw : Bool} {K : Option Value → ts_H → Prop} {d : Nat} {f : ts_Fl} {w : ts_Lw} {e : ts_De} {im : ts_Im} {B : Int}
theorem RM.frv (h : RM I f) (e : fr frv I J) : RM J f := h.co72 (fr_row e (fun k => by omega)) (fr_row e (fun k => by omega)) (e 72 6 (by omega)) (e 72 7 (by omega))
/-- the reference's shift of the latest tones -/
theorem m_strike (hM : RM I f) (hW : RMw I w) (hO : ROw w) (hD : RMd I B e) (hB : B ≤ 1000) {p : Int} (hp : -2147483648 ≤ p ∧ p ≤ 2147483647) (hK : ∀ J, fr fms I J → RM J (g_strF f e p) → RMd J (B + 1) (g_strE f w e p) → K (some (.int (zI (g_strA f w e p)))) (J, L, ts_P0 sw, ts_S0)) : ts_Cal X (d + 82) 212 [.ref 72, .int (zI (p))] (I, L, ts_P0 sw, ts_S0) K := by
  have b1 := hM.men.2
  have b0 := (hD.1 0 (by decide) (by decide)).2
  have b01 := (hD.1 1 (by decide) (by decide)).2
  have b02 := (hD.1 2 (by decide) (by decide)).2
  have b03 := (hD.1 3 (by decide) (by decide)).2
  have tail : ∀ J f' v t (g : Int → Int), 0 ≤ p → p ≤ 16 → fr fms I J → RM J f' → ar J 86 5 0 (B + 1) g → 0 ≤ g 0 → g 0 ≤ B → ar J 87 6 0 8 e.2 → (0 ≤ v ∧ v ≤ 9) → t = (if 0 < v then f_tone f' p else 8) → (0 < v → p < 16) → (∀ M, fr fms I M → RM M f' → RMd M (B + 1) (zu g 0 (g 0 + 1), zold e.2 t) → K (some (.int (zI (v)))) (M, L, ts_P0 sw, ts_S0)) → ∀ o, ts_Ev X (ts_Cal X (d + 81)) 212 ts_S0 K 167 [.ref 72, .int (zI (p)), .int (zI (v)), o] [] (J, L, ts_P0 sw, ts_S0) := by
    intro J f' v t g p0 p16 hJ hR hg g0 g1 hl hv ht hvp hKK o
    have t8 : 0 ≤ t ∧ t ≤ 8 := by
      by_cases q : 0 < v
      · rw [if_pos q] at ht
        have := (hR.tone p p0 (hvp q)).2
        omega
      · rw [if_neg q] at ht
        omega
    have loop : ∀ k : Int, 0 ≤ k → k ≤ 5 → ∀ M, fr (fun a _ => a = 87) J M → ar M 87 6 0 8 (fun i => if k < i then e.2 (i - 1) else e.2 i) → ts_Ev X (ts_Cal X (d + 81)) 212 ts_S0 K 169 [.ref 72, .int (zI (p)), .int (zI (v)), .int (zI (k))] [] (M, L, ts_P0 sw, ts_S0) := by
      refine ts_indd 0 (fun k ih k0 k5 M hM ha => ?_)
      have hg2 : ar M 86 5 0 (B + 1) g := ar_co hg (fr_row hM (fun k => by omega))
      have hR2 : RM M f' := hR.co (fun a a0 a1 => fr_row hM (fun k => by omega))
      refine ev_iloadn_3 i212_169 ?_
      refine ew_ifle i212_170 (by omega) (fun c170 => ?_) (fun c170 => ?_)
      · refine ev_aloadn_0 i212_193 ?_
        refine ev_getA i212_194 g212_194 rfl rfl (by decide) ?_
        refine ew_iconst i212_197 ?_
        refine ev_iloadn_2 i212_198 ?_
        refine ew_ifle i212_199 (by omega) (fun c199 => ?_) (fun c199 => ?_)
        · refine ew_bipush i212_211 (by decide) ?_
          refine ew_iastore i212_213 rfl (by omega) (by omega) (by omega) ?_
          refine ev_aloadn_0 i212_214 ?_
          refine ev_getA i212_215 g212_215 rfl rfl (by decide) ?_
          refine ew_iconst i212_218 ?_
          refine ev_dup2 i212_219 ?_
          refine ew_iaload i212_220 rfl (by omega) (by omega) (by omega) ((hg2 0 (by decide) (by decide))) (fun b220 => ?_)
          refine ew_iconst i212_221 ?_
          refine ew_iadd i212_222 ?_
          refine ew_iastore i212_223 rfl (by omega) (by omega) (by omega) ?_
          refine ev_iloadn_2 i212_224 ?_
          refine ev_ireturn i212_225 r212 ?_
          obtain rfl : k = 0 := by omega
          have hz : ∀ u, u = t → ar (ts_up M 87 0 (zI u)) 87 6 0 8 (zold e.2 t) := fun u hu => by
            rw [hu]
            refine ar_cg (ar_up ha (p := 0) (by decide) (v := t) t8) (fun i i0 i1 => ?_)
            unfold zu zold
            by_cases c : i = 0
            · rw [if_pos c, if_pos c]
            · rw [if_neg c, if_neg c]
              dsimp only
              rw [if_pos (by omega)]
          refine hKK _ (fr_up (fr_up (fr_tr hJ (fr_mo hM (fun a k q => by omega))) (by omega)) (by omega)) (hR2.co72 rfl rfl rfl rfl) ⟨ar_up (ar_co hg2 rfl) (p := 0) (by decide) (v := g 0 + 1) (by omega), ar_co (hz _ ?_) rfl⟩
          first
          | (rw [if_neg (by omega)] at ht; exact ht.symm)
          | (rw [if_pos (by omega)] at ht; exact ht.symm)
        · refine ev_aloadn_0 i212_202 ?_
          refine ev_getA i212_203 g212_203 rfl rfl (by decide) ?_
          refine ev_iloadn_1 i212_206 ?_
          refine ew_iaload i212_207 rfl (by omega) (by omega) (by omega) ((hR2.tone p p0 (by omega))) (fun b207 => ?_)
          refine ev_goto i212_208 ?_
          refine ew_iastore i212_213 rfl (by omega) (by omega) (by omega) ?_
          refine ev_aloadn_0 i212_214 ?_
          refine ev_getA i212_215 g212_215 rfl rfl (by decide) ?_
          refine ew_iconst i212_218 ?_
          refine ev_dup2 i212_219 ?_
          refine ew_iaload i212_220 rfl (by omega) (by omega) (by omega) ((hg2 0 (by decide) (by decide))) (fun b220 => ?_)
          refine ew_iconst i212_221 ?_
          refine ew_iadd i212_222 ?_
          refine ew_iastore i212_223 rfl (by omega) (by omega) (by omega) ?_
          refine ev_iloadn_2 i212_224 ?_
          refine ev_ireturn i212_225 r212 ?_
          obtain rfl : k = 0 := by omega
          have hz : ∀ u, u = t → ar (ts_up M 87 0 (zI u)) 87 6 0 8 (zold e.2 t) := fun u hu => by
            rw [hu]
            refine ar_cg (ar_up ha (p := 0) (by decide) (v := t) t8) (fun i i0 i1 => ?_)
            unfold zu zold
            by_cases c : i = 0
            · rw [if_pos c, if_pos c]
            · rw [if_neg c, if_neg c]
              dsimp only
              rw [if_pos (by omega)]
          refine hKK _ (fr_up (fr_up (fr_tr hJ (fr_mo hM (fun a k q => by omega))) (by omega)) (by omega)) (hR2.co72 rfl rfl rfl rfl) ⟨ar_up (ar_co hg2 rfl) (p := 0) (by decide) (v := g 0 + 1) (by omega), ar_co (hz _ ?_) rfl⟩
          first
          | (rw [if_neg (by omega)] at ht; exact ht.symm)
          | (rw [if_pos (by omega)] at ht; exact ht.symm)
      · refine ev_aloadn_0 i212_173 ?_
        refine ev_getA i212_174 g212_174 rfl rfl (by decide) ?_
        refine ev_iloadn_3 i212_177 ?_
        refine ev_aloadn_0 i212_178 ?_
        refine ev_getA i212_179 g212_179 rfl rfl (by decide) ?_
        refine ev_iloadn_3 i212_182 ?_
        refine ew_iconst i212_183 ?_
        refine ew_isub i212_184 ?_
        refine ew_iaload i212_185 rfl (by omega) (by omega) (by omega) ((by have q := ha (k - 1) (by omega) (by omega); rw [show (fun i => if k < i then e.2 (i - 1) else e.2 i) (k - 1) = e.2 (k - 1) from if_neg (by omega)] at q; exact q)) (fun b185 => ?_)
        refine ew_iastore i212_186 rfl (by omega) (by omega) (by omega) ?_
        refine ew_iinc_3 i212_187 rfl ?_
        refine ev_goto i212_190 ?_
        refine ih (by omega) (by omega) (by omega) _ (fr_up hM rfl) (ar_cg (ar_up ha k0 b185) (fun i i0 i1 => ?_))
        unfold zu
        by_cases c : i = k
        · rw [if_pos c, if_pos (by omega), c]
        · rw [if_neg c]
          dsimp only
          by_cases c2 : k < i
          · rw [if_pos c2, if_pos (by omega)]
          · rw [if_neg c2, if_neg (by omega)]
    refine ew_iconst i212_167 ?_
    refine ev_istoren_3 i212_168 rfl ?_
    refine loop 5 (by decide) (by decide) J (fr_rfl _ _) (ar_cg hl (fun i i0 i1 => ?_))
    rw [if_neg (by omega)]
  unfold g_strF g_strE g_strA at hK
  have body : g_sOk f e p → ts_Ev X (ts_Cal X (d + 81)) 212 ts_S0 K 57 [.ref 72, .int (zI (p)), .int (zI (0)), .null] [] (I, L, ts_P0 sw, ts_S0) := by
    intro ok
    have n1 : ¬ (p = 16 ∧ ¬ f_men f = 0) := by omega
    have n2 : ¬ ¬ (0 ≤ p ∧ p ≤ 16) := by omega
    have n3 : ¬ f_men f = 0 := by omega
    have n4 : ¬ p = 16 := by omega
    have n5 : f_can f (d_now f e) p := ok.2.2
    simp only [if_pos ok, if_neg n1, if_neg n2, if_neg n3, if_neg n4, if_pos n5] at hK
    refine ev_aloadn_0 i212_57 ?_
    refine ev_virt0 i212_58 g212_58 rfl (by decide +kernel) (Nat.le_of_ble_eq_true rfl) (m_takesNow hM (fun J h1 h2 => ?_))
    have hMJ := hM.fcm h1
    have hDJ : RMd J B e := hD.co (fun a p0 p1 => fr_row h1 (fun k => by omega))
    have hWJ : RMw J w := hW.co (h1 72 12 (by omega)) (fr_row h1 (fun k => by omega))
    refine ev_aloadn_0 i212_61 ?_
    refine ev_iloadn_1 i212_62 ?_
    refine ev_aloadn_0 i212_63 ?_
    refine ev_getA i212_64 g212_64 rfl rfl (by decide) ?_
    refine ew_iconst i212_67 ?_
    refine ew_iaload i212_68 rfl (by omega) (by omega) (by omega) ((hDJ.1 0 (by decide) (by decide))) (fun b68 => ?_)
    refine ev_aloadn_0 i212_69 ?_
    refine ew_getI i212_70 g212_70 rfl (hMJ.men) (fun b70 => ?_)
    refine ew_iremB i212_73 (by omega) (by omega) (fun r73 => ?_)
    refine ev_aloadn_0 i212_74 ?_
    refine ev_getA i212_75 g212_75 rfl rfl (by decide) ?_
    refine ew_iconst i212_78 ?_
    refine ew_iaload i212_79 rfl (by omega) (by omega) (by omega) ((hDJ.1 0 (by decide) (by decide))) (fun b79 => ?_)
    refine ev_virt3 i212_80 g212_80 rfl (by decide +kernel) (Nat.le_of_ble_eq_true rfl) (m_loudOf hMJ hWJ hO h2 (by omega) (by omega) (by omega) (fun M h3 => ?_))
    have gl : 0 ≤ g_sld f w e p ∧ g_sld f w e p ≤ 9 := g_ld_r _ _ _ _ _ _ _
    rw [show g_ld w (f_tone f p) (f_corn f p) (f_road f) (e.1 0 % f_men f) (f_arm f (e.1 0 % f_men f)) (e.1 0 % 4) = g_sld f w e p from rfl]
    have hMM := hMJ.frv h3
    have hDM : RMd M B e := hDJ.co (fun a p0 p1 => fr_row h3 (fun k => by omega))
    refine ev_istoren_2 i212_83 rfl ?_
    refine ev_aloadn_0 i212_84 ?_
    refine ev_getA i212_85 g212_85 rfl rfl (by decide) ?_
    refine ew_iconst i212_88 ?_
    refine ev_dup2 i212_89 ?_
    refine ew_iaload i212_90 rfl (by omega) (by omega) (by omega) ((hDM.1 1 (by decide) (by decide))) (fun b90 => ?_)
    refine ew_iconst i212_91 ?_
    refine ew_iadd i212_92 ?_
    refine ew_iastore i212_93 rfl (by omega) (by omega) (by omega) ?_
    refine ev_aloadn_0 i212_94 ?_
    refine ev_getA i212_95 g212_95 rfl rfl (by decide) ?_
    refine ew_iconst i212_98 ?_
    refine ev_dup2 i212_99 ?_
    refine ew_iaload i212_100 rfl (by omega) (by omega) (by omega) ((hDM.1 2 (by decide) (by decide))) (fun b100 => ?_)
    refine ev_iloadn_2 i212_101 ?_
    refine ew_ifle i212_102 (by omega) (fun c102 => ?_) (fun c102 => ?_)
    · refine ew_iconst i212_109 ?_
      refine ew_iadd i212_110 ?_
      refine ew_iastore i212_111 rfl (by omega) (by omega) (by omega) ?_
      refine ev_aloadn_0 i212_112 ?_
      refine ev_getA i212_113 g212_113 rfl rfl (by decide) ?_
      refine ew_iconst i212_116 ?_
      refine ev_dup2 i212_117 ?_
      refine ew_iaload i212_118 rfl (by omega) (by omega) (by omega) ((hDM.1 3 (by decide) (by decide))) (fun b118 => ?_)
      refine ev_aloadn_0 i212_119 ?_
      refine ev_getA i212_120 g212_120 rfl rfl (by decide) ?_
      refine ew_bipush i212_123 (by decide) ?_
      refine ev_iloadn_1 i212_125 ?_
      refine ew_iadd i212_126 ?_
      refine ew_iaload i212_127 rfl (by omega) (by omega) (by omega) ((hMM.corn p (by omega) (by omega))) (fun b127 => ?_)
      refine ew_ifle i212_128 (by omega) (fun c128 => ?_) (fun c128 => ?_)
      · refine ew_iconst i212_135 ?_
        refine ew_iadd i212_136 ?_
        refine ew_iastore i212_137 rfl (by omega) (by omega) (by omega) ?_
        refine ev_aloadn_0 i212_138 ?_
        refine ev_getA i212_139 g212_139 rfl rfl (by decide) ?_
        refine ew_bipush i212_142 (by decide) ?_
        refine ev_iloadn_1 i212_144 ?_
        refine ew_iadd i212_145 ?_
        refine ev_dup2 i212_146 ?_
        refine ew_iaload i212_147 rfl (by omega) (by omega) (by omega) ((hMM.corn p (by omega) (by omega))) (fun b147 => ?_)
        refine ev_aloadn_0 i212_148 ?_
        refine ev_getA i212_149 g212_149 rfl rfl (by decide) ?_
        refine ew_bipush i212_152 (by decide) ?_
        refine ev_iloadn_1 i212_154 ?_
        refine ew_iadd i212_155 ?_
        refine ew_iaload i212_156 rfl (by omega) (by omega) (by omega) ((hMM.corn p (by omega) (by omega))) (fun b156 => ?_)
        refine ew_ifle i212_157 (by omega) (fun c157 => ?_) (fun c157 => ?_)
        · refine ew_iconst i212_164 ?_
          refine ew_isub i212_165 ?_
          refine ew_iastore i212_166 rfl (by omega) (by omega) (by omega) ?_
          have go : ∀ h k : Int, h = (if 0 < g_sld f w e p then 1 else 0) → k = tk (f_corn f) p → ts_Ev X (ts_Cal X (d + 81)) 212 ts_S0 K 167 [.ref 72, .int (zI (p)), .int (zI (g_sld f w e p)), .null] [] (ts_up (ts_up (ts_up (ts_up M 86 1 (zI (e.1 1 + 1))) 86 2 (zI (e.1 2 + h))) 86 3 (zI (e.1 3 + k))) 73 (16 + p).toNat (zI (f_corn f p - k)), L, ts_P0 sw, ts_S0) := by
            intro h k hh hk
            have tkk : tk (f_corn f) p = if 0 < f_corn f p then 1 else 0 := rfl
            have bc := (hMM.corn p (by omega) (by omega)).2
            have s1 := RM.sCorn (p := p) (v := f_corn f p - k) (RM.co72 (J := ts_up (ts_up (ts_up M 86 1 (zI (e.1 1 + 1))) 86 2 (zI (e.1 2 + h))) 86 3 (zI (e.1 3 + k))) hMM rfl rfl rfl rfl) (by omega) (by omega)
            have s2 := ar_up (ar_up (ar_up hDM.up.1 (p := 1) (by decide) (v := e.1 1 + 1) (by omega)) (p := 2) (by decide) (v := e.1 2 + h) (by omega)) (p := 3) (by decide) (v := e.1 3 + k) (by omega)
            refine tail _ _ _ (if 0 < g_sld f w e p then f_tone f p else 8) _ (by omega) (by omega) (fr_up (fr_up (fr_up (fr_up (fr_tr (fr_mo h1 (fun a k q => by omega)) (fr_mo h3 (fun a k q => by omega))) (by omega)) (by omega)) (by omega)) (by omega)) s1 (ar_co s2 rfl) b0.1 b0.2 (ar_co hDM.2 rfl) gl rfl (fun _ => by omega) (fun N q1 q2 q3 => ?_) _
            refine hK N q1 (by rw [← hk]; exact q2) ⟨ar_cg q3.1 (fun i i0 i1 => ?_), ar_cg q3.2 (fun i i0 i1 => ?_)⟩
            · rcases (show i = 0 ∨ i = 1 ∨ i = 2 ∨ i = 3 ∨ i = 4 by omega) with rfl | rfl | rfl | rfl | rfl
              · rfl
              · rfl
              · show e.1 2 + h = e.1 2 + (if 0 < g_sld f w e p then 1 else 0)
                rw [hh]
              · show e.1 3 + k = e.1 3 + (if 0 < f_corn f p then 1 else 0)
                rw [hk, tkk]
              · rfl
            · show zold e.2 (if 0 < g_sld f w e p then f_tone f p else 8) i = zold e.2 (if (if 0 < g_sld f w e p then (1 : Int) else 0) = 1 then f_tone f p else 8) i
              by_cases q : 0 < g_sld f w e p
              · simp only [if_pos q, if_true]
              · simp only [if_neg q]
                rfl
          have tkk : tk (f_corn f) p = if 0 < f_corn f p then 1 else 0 := rfl
          first | exact go _ _ (by omega) (by omega) | (exfalso; omega)
        · refine ew_iconst i212_160 ?_
          refine ev_goto i212_161 ?_
          refine ew_isub i212_165 ?_
          refine ew_iastore i212_166 rfl (by omega) (by omega) (by omega) ?_
          have go : ∀ h k : Int, h = (if 0 < g_sld f w e p then 1 else 0) → k = tk (f_corn f) p → ts_Ev X (ts_Cal X (d + 81)) 212 ts_S0 K 167 [.ref 72, .int (zI (p)), .int (zI (g_sld f w e p)), .null] [] (ts_up (ts_up (ts_up (ts_up M 86 1 (zI (e.1 1 + 1))) 86 2 (zI (e.1 2 + h))) 86 3 (zI (e.1 3 + k))) 73 (16 + p).toNat (zI (f_corn f p - k)), L, ts_P0 sw, ts_S0) := by
            intro h k hh hk
            have tkk : tk (f_corn f) p = if 0 < f_corn f p then 1 else 0 := rfl
            have bc := (hMM.corn p (by omega) (by omega)).2
            have s1 := RM.sCorn (p := p) (v := f_corn f p - k) (RM.co72 (J := ts_up (ts_up (ts_up M 86 1 (zI (e.1 1 + 1))) 86 2 (zI (e.1 2 + h))) 86 3 (zI (e.1 3 + k))) hMM rfl rfl rfl rfl) (by omega) (by omega)
            have s2 := ar_up (ar_up (ar_up hDM.up.1 (p := 1) (by decide) (v := e.1 1 + 1) (by omega)) (p := 2) (by decide) (v := e.1 2 + h) (by omega)) (p := 3) (by decide) (v := e.1 3 + k) (by omega)
            refine tail _ _ _ (if 0 < g_sld f w e p then f_tone f p else 8) _ (by omega) (by omega) (fr_up (fr_up (fr_up (fr_up (fr_tr (fr_mo h1 (fun a k q => by omega)) (fr_mo h3 (fun a k q => by omega))) (by omega)) (by omega)) (by omega)) (by omega)) s1 (ar_co s2 rfl) b0.1 b0.2 (ar_co hDM.2 rfl) gl rfl (fun _ => by omega) (fun N q1 q2 q3 => ?_) _
            refine hK N q1 (by rw [← hk]; exact q2) ⟨ar_cg q3.1 (fun i i0 i1 => ?_), ar_cg q3.2 (fun i i0 i1 => ?_)⟩
            · rcases (show i = 0 ∨ i = 1 ∨ i = 2 ∨ i = 3 ∨ i = 4 by omega) with rfl | rfl | rfl | rfl | rfl
              · rfl
              · rfl
              · show e.1 2 + h = e.1 2 + (if 0 < g_sld f w e p then 1 else 0)
                rw [hh]
              · show e.1 3 + k = e.1 3 + (if 0 < f_corn f p then 1 else 0)
                rw [hk, tkk]
              · rfl
            · show zold e.2 (if 0 < g_sld f w e p then f_tone f p else 8) i = zold e.2 (if (if 0 < g_sld f w e p then (1 : Int) else 0) = 1 then f_tone f p else 8) i
              by_cases q : 0 < g_sld f w e p
              · simp only [if_pos q, if_true]
              · simp only [if_neg q]
                rfl
          have tkk : tk (f_corn f) p = if 0 < f_corn f p then 1 else 0 := rfl
          first | exact go _ _ (by omega) (by omega) | (exfalso; omega)
      · refine ew_iconst i212_131 ?_
        refine ev_goto i212_132 ?_
        refine ew_iadd i212_136 ?_
        refine ew_iastore i212_137 rfl (by omega) (by omega) (by omega) ?_
        refine ev_aloadn_0 i212_138 ?_
        refine ev_getA i212_139 g212_139 rfl rfl (by decide) ?_
        refine ew_bipush i212_142 (by decide) ?_
        refine ev_iloadn_1 i212_144 ?_
        refine ew_iadd i212_145 ?_
        refine ev_dup2 i212_146 ?_
        refine ew_iaload i212_147 rfl (by omega) (by omega) (by omega) ((hMM.corn p (by omega) (by omega))) (fun b147 => ?_)
        refine ev_aloadn_0 i212_148 ?_
        refine ev_getA i212_149 g212_149 rfl rfl (by decide) ?_
        refine ew_bipush i212_152 (by decide) ?_
        refine ev_iloadn_1 i212_154 ?_
        refine ew_iadd i212_155 ?_
        refine ew_iaload i212_156 rfl (by omega) (by omega) (by omega) ((hMM.corn p (by omega) (by omega))) (fun b156 => ?_)
        refine ew_ifle i212_157 (by omega) (fun c157 => ?_) (fun c157 => ?_)
        · refine ew_iconst i212_164 ?_
          refine ew_isub i212_165 ?_
          refine ew_iastore i212_166 rfl (by omega) (by omega) (by omega) ?_
          have go : ∀ h k : Int, h = (if 0 < g_sld f w e p then 1 else 0) → k = tk (f_corn f) p → ts_Ev X (ts_Cal X (d + 81)) 212 ts_S0 K 167 [.ref 72, .int (zI (p)), .int (zI (g_sld f w e p)), .null] [] (ts_up (ts_up (ts_up (ts_up M 86 1 (zI (e.1 1 + 1))) 86 2 (zI (e.1 2 + h))) 86 3 (zI (e.1 3 + k))) 73 (16 + p).toNat (zI (f_corn f p - k)), L, ts_P0 sw, ts_S0) := by
            intro h k hh hk
            have tkk : tk (f_corn f) p = if 0 < f_corn f p then 1 else 0 := rfl
            have bc := (hMM.corn p (by omega) (by omega)).2
            have s1 := RM.sCorn (p := p) (v := f_corn f p - k) (RM.co72 (J := ts_up (ts_up (ts_up M 86 1 (zI (e.1 1 + 1))) 86 2 (zI (e.1 2 + h))) 86 3 (zI (e.1 3 + k))) hMM rfl rfl rfl rfl) (by omega) (by omega)
            have s2 := ar_up (ar_up (ar_up hDM.up.1 (p := 1) (by decide) (v := e.1 1 + 1) (by omega)) (p := 2) (by decide) (v := e.1 2 + h) (by omega)) (p := 3) (by decide) (v := e.1 3 + k) (by omega)
            refine tail _ _ _ (if 0 < g_sld f w e p then f_tone f p else 8) _ (by omega) (by omega) (fr_up (fr_up (fr_up (fr_up (fr_tr (fr_mo h1 (fun a k q => by omega)) (fr_mo h3 (fun a k q => by omega))) (by omega)) (by omega)) (by omega)) (by omega)) s1 (ar_co s2 rfl) b0.1 b0.2 (ar_co hDM.2 rfl) gl rfl (fun _ => by omega) (fun N q1 q2 q3 => ?_) _
            refine hK N q1 (by rw [← hk]; exact q2) ⟨ar_cg q3.1 (fun i i0 i1 => ?_), ar_cg q3.2 (fun i i0 i1 => ?_)⟩
            · rcases (show i = 0 ∨ i = 1 ∨ i = 2 ∨ i = 3 ∨ i = 4 by omega) with rfl | rfl | rfl | rfl | rfl
              · rfl
              · rfl
              · show e.1 2 + h = e.1 2 + (if 0 < g_sld f w e p then 1 else 0)
                rw [hh]
              · show e.1 3 + k = e.1 3 + (if 0 < f_corn f p then 1 else 0)
                rw [hk, tkk]
              · rfl
            · show zold e.2 (if 0 < g_sld f w e p then f_tone f p else 8) i = zold e.2 (if (if 0 < g_sld f w e p then (1 : Int) else 0) = 1 then f_tone f p else 8) i
              by_cases q : 0 < g_sld f w e p
              · simp only [if_pos q, if_true]
              · simp only [if_neg q]
                rfl
          have tkk : tk (f_corn f) p = if 0 < f_corn f p then 1 else 0 := rfl
          first | exact go _ _ (by omega) (by omega) | (exfalso; omega)
        · refine ew_iconst i212_160 ?_
          refine ev_goto i212_161 ?_
          refine ew_isub i212_165 ?_
          refine ew_iastore i212_166 rfl (by omega) (by omega) (by omega) ?_
          have go : ∀ h k : Int, h = (if 0 < g_sld f w e p then 1 else 0) → k = tk (f_corn f) p → ts_Ev X (ts_Cal X (d + 81)) 212 ts_S0 K 167 [.ref 72, .int (zI (p)), .int (zI (g_sld f w e p)), .null] [] (ts_up (ts_up (ts_up (ts_up M 86 1 (zI (e.1 1 + 1))) 86 2 (zI (e.1 2 + h))) 86 3 (zI (e.1 3 + k))) 73 (16 + p).toNat (zI (f_corn f p - k)), L, ts_P0 sw, ts_S0) := by
            intro h k hh hk
            have tkk : tk (f_corn f) p = if 0 < f_corn f p then 1 else 0 := rfl
            have bc := (hMM.corn p (by omega) (by omega)).2
            have s1 := RM.sCorn (p := p) (v := f_corn f p - k) (RM.co72 (J := ts_up (ts_up (ts_up M 86 1 (zI (e.1 1 + 1))) 86 2 (zI (e.1 2 + h))) 86 3 (zI (e.1 3 + k))) hMM rfl rfl rfl rfl) (by omega) (by omega)
            have s2 := ar_up (ar_up (ar_up hDM.up.1 (p := 1) (by decide) (v := e.1 1 + 1) (by omega)) (p := 2) (by decide) (v := e.1 2 + h) (by omega)) (p := 3) (by decide) (v := e.1 3 + k) (by omega)
            refine tail _ _ _ (if 0 < g_sld f w e p then f_tone f p else 8) _ (by omega) (by omega) (fr_up (fr_up (fr_up (fr_up (fr_tr (fr_mo h1 (fun a k q => by omega)) (fr_mo h3 (fun a k q => by omega))) (by omega)) (by omega)) (by omega)) (by omega)) s1 (ar_co s2 rfl) b0.1 b0.2 (ar_co hDM.2 rfl) gl rfl (fun _ => by omega) (fun N q1 q2 q3 => ?_) _
            refine hK N q1 (by rw [← hk]; exact q2) ⟨ar_cg q3.1 (fun i i0 i1 => ?_), ar_cg q3.2 (fun i i0 i1 => ?_)⟩
            · rcases (show i = 0 ∨ i = 1 ∨ i = 2 ∨ i = 3 ∨ i = 4 by omega) with rfl | rfl | rfl | rfl | rfl
              · rfl
              · rfl
              · show e.1 2 + h = e.1 2 + (if 0 < g_sld f w e p then 1 else 0)
                rw [hh]
              · show e.1 3 + k = e.1 3 + (if 0 < f_corn f p then 1 else 0)
                rw [hk, tkk]
              · rfl
            · show zold e.2 (if 0 < g_sld f w e p then f_tone f p else 8) i = zold e.2 (if (if 0 < g_sld f w e p then (1 : Int) else 0) = 1 then f_tone f p else 8) i
              by_cases q : 0 < g_sld f w e p
              · simp only [if_pos q, if_true]
              · simp only [if_neg q]
                rfl
          have tkk : tk (f_corn f) p = if 0 < f_corn f p then 1 else 0 := rfl
          first | exact go _ _ (by omega) (by omega) | (exfalso; omega)
    · refine ew_iconst i212_105 ?_
      refine ev_goto i212_106 ?_
      refine ew_iadd i212_110 ?_
      refine ew_iastore i212_111 rfl (by omega) (by omega) (by omega) ?_
      refine ev_aloadn_0 i212_112 ?_
      refine ev_getA i212_113 g212_113 rfl rfl (by decide) ?_
      refine ew_iconst i212_116 ?_
      refine ev_dup2 i212_117 ?_
      refine ew_iaload i212_118 rfl (by omega) (by omega) (by omega) ((hDM.1 3 (by decide) (by decide))) (fun b118 => ?_)
      refine ev_aloadn_0 i212_119 ?_
      refine ev_getA i212_120 g212_120 rfl rfl (by decide) ?_
      refine ew_bipush i212_123 (by decide) ?_
      refine ev_iloadn_1 i212_125 ?_
      refine ew_iadd i212_126 ?_
      refine ew_iaload i212_127 rfl (by omega) (by omega) (by omega) ((hMM.corn p (by omega) (by omega))) (fun b127 => ?_)
      refine ew_ifle i212_128 (by omega) (fun c128 => ?_) (fun c128 => ?_)
      · refine ew_iconst i212_135 ?_
        refine ew_iadd i212_136 ?_
        refine ew_iastore i212_137 rfl (by omega) (by omega) (by omega) ?_
        refine ev_aloadn_0 i212_138 ?_
        refine ev_getA i212_139 g212_139 rfl rfl (by decide) ?_
        refine ew_bipush i212_142 (by decide) ?_
        refine ev_iloadn_1 i212_144 ?_
        refine ew_iadd i212_145 ?_
        refine ev_dup2 i212_146 ?_
        refine ew_iaload i212_147 rfl (by omega) (by omega) (by omega) ((hMM.corn p (by omega) (by omega))) (fun b147 => ?_)
        refine ev_aloadn_0 i212_148 ?_
        refine ev_getA i212_149 g212_149 rfl rfl (by decide) ?_
        refine ew_bipush i212_152 (by decide) ?_
        refine ev_iloadn_1 i212_154 ?_
        refine ew_iadd i212_155 ?_
        refine ew_iaload i212_156 rfl (by omega) (by omega) (by omega) ((hMM.corn p (by omega) (by omega))) (fun b156 => ?_)
        refine ew_ifle i212_157 (by omega) (fun c157 => ?_) (fun c157 => ?_)
        · refine ew_iconst i212_164 ?_
          refine ew_isub i212_165 ?_
          refine ew_iastore i212_166 rfl (by omega) (by omega) (by omega) ?_
          have go : ∀ h k : Int, h = (if 0 < g_sld f w e p then 1 else 0) → k = tk (f_corn f) p → ts_Ev X (ts_Cal X (d + 81)) 212 ts_S0 K 167 [.ref 72, .int (zI (p)), .int (zI (g_sld f w e p)), .null] [] (ts_up (ts_up (ts_up (ts_up M 86 1 (zI (e.1 1 + 1))) 86 2 (zI (e.1 2 + h))) 86 3 (zI (e.1 3 + k))) 73 (16 + p).toNat (zI (f_corn f p - k)), L, ts_P0 sw, ts_S0) := by
            intro h k hh hk
            have tkk : tk (f_corn f) p = if 0 < f_corn f p then 1 else 0 := rfl
            have bc := (hMM.corn p (by omega) (by omega)).2
            have s1 := RM.sCorn (p := p) (v := f_corn f p - k) (RM.co72 (J := ts_up (ts_up (ts_up M 86 1 (zI (e.1 1 + 1))) 86 2 (zI (e.1 2 + h))) 86 3 (zI (e.1 3 + k))) hMM rfl rfl rfl rfl) (by omega) (by omega)
            have s2 := ar_up (ar_up (ar_up hDM.up.1 (p := 1) (by decide) (v := e.1 1 + 1) (by omega)) (p := 2) (by decide) (v := e.1 2 + h) (by omega)) (p := 3) (by decide) (v := e.1 3 + k) (by omega)
            refine tail _ _ _ (if 0 < g_sld f w e p then f_tone f p else 8) _ (by omega) (by omega) (fr_up (fr_up (fr_up (fr_up (fr_tr (fr_mo h1 (fun a k q => by omega)) (fr_mo h3 (fun a k q => by omega))) (by omega)) (by omega)) (by omega)) (by omega)) s1 (ar_co s2 rfl) b0.1 b0.2 (ar_co hDM.2 rfl) gl rfl (fun _ => by omega) (fun N q1 q2 q3 => ?_) _
            refine hK N q1 (by rw [← hk]; exact q2) ⟨ar_cg q3.1 (fun i i0 i1 => ?_), ar_cg q3.2 (fun i i0 i1 => ?_)⟩
            · rcases (show i = 0 ∨ i = 1 ∨ i = 2 ∨ i = 3 ∨ i = 4 by omega) with rfl | rfl | rfl | rfl | rfl
              · rfl
              · rfl
              · show e.1 2 + h = e.1 2 + (if 0 < g_sld f w e p then 1 else 0)
                rw [hh]
              · show e.1 3 + k = e.1 3 + (if 0 < f_corn f p then 1 else 0)
                rw [hk, tkk]
              · rfl
            · show zold e.2 (if 0 < g_sld f w e p then f_tone f p else 8) i = zold e.2 (if (if 0 < g_sld f w e p then (1 : Int) else 0) = 1 then f_tone f p else 8) i
              by_cases q : 0 < g_sld f w e p
              · simp only [if_pos q, if_true]
              · simp only [if_neg q]
                rfl
          have tkk : tk (f_corn f) p = if 0 < f_corn f p then 1 else 0 := rfl
          first | exact go _ _ (by omega) (by omega) | (exfalso; omega)
        · refine ew_iconst i212_160 ?_
          refine ev_goto i212_161 ?_
          refine ew_isub i212_165 ?_
          refine ew_iastore i212_166 rfl (by omega) (by omega) (by omega) ?_
          have go : ∀ h k : Int, h = (if 0 < g_sld f w e p then 1 else 0) → k = tk (f_corn f) p → ts_Ev X (ts_Cal X (d + 81)) 212 ts_S0 K 167 [.ref 72, .int (zI (p)), .int (zI (g_sld f w e p)), .null] [] (ts_up (ts_up (ts_up (ts_up M 86 1 (zI (e.1 1 + 1))) 86 2 (zI (e.1 2 + h))) 86 3 (zI (e.1 3 + k))) 73 (16 + p).toNat (zI (f_corn f p - k)), L, ts_P0 sw, ts_S0) := by
            intro h k hh hk
            have tkk : tk (f_corn f) p = if 0 < f_corn f p then 1 else 0 := rfl
            have bc := (hMM.corn p (by omega) (by omega)).2
            have s1 := RM.sCorn (p := p) (v := f_corn f p - k) (RM.co72 (J := ts_up (ts_up (ts_up M 86 1 (zI (e.1 1 + 1))) 86 2 (zI (e.1 2 + h))) 86 3 (zI (e.1 3 + k))) hMM rfl rfl rfl rfl) (by omega) (by omega)
            have s2 := ar_up (ar_up (ar_up hDM.up.1 (p := 1) (by decide) (v := e.1 1 + 1) (by omega)) (p := 2) (by decide) (v := e.1 2 + h) (by omega)) (p := 3) (by decide) (v := e.1 3 + k) (by omega)
            refine tail _ _ _ (if 0 < g_sld f w e p then f_tone f p else 8) _ (by omega) (by omega) (fr_up (fr_up (fr_up (fr_up (fr_tr (fr_mo h1 (fun a k q => by omega)) (fr_mo h3 (fun a k q => by omega))) (by omega)) (by omega)) (by omega)) (by omega)) s1 (ar_co s2 rfl) b0.1 b0.2 (ar_co hDM.2 rfl) gl rfl (fun _ => by omega) (fun N q1 q2 q3 => ?_) _
            refine hK N q1 (by rw [← hk]; exact q2) ⟨ar_cg q3.1 (fun i i0 i1 => ?_), ar_cg q3.2 (fun i i0 i1 => ?_)⟩
            · rcases (show i = 0 ∨ i = 1 ∨ i = 2 ∨ i = 3 ∨ i = 4 by omega) with rfl | rfl | rfl | rfl | rfl
              · rfl
              · rfl
              · show e.1 2 + h = e.1 2 + (if 0 < g_sld f w e p then 1 else 0)
                rw [hh]
              · show e.1 3 + k = e.1 3 + (if 0 < f_corn f p then 1 else 0)
                rw [hk, tkk]
              · rfl
            · show zold e.2 (if 0 < g_sld f w e p then f_tone f p else 8) i = zold e.2 (if (if 0 < g_sld f w e p then (1 : Int) else 0) = 1 then f_tone f p else 8) i
              by_cases q : 0 < g_sld f w e p
              · simp only [if_pos q, if_true]
              · simp only [if_neg q]
                rfl
          have tkk : tk (f_corn f) p = if 0 < f_corn f p then 1 else 0 := rfl
          first | exact go _ _ (by omega) (by omega) | (exfalso; omega)
      · refine ew_iconst i212_131 ?_
        refine ev_goto i212_132 ?_
        refine ew_iadd i212_136 ?_
        refine ew_iastore i212_137 rfl (by omega) (by omega) (by omega) ?_
        refine ev_aloadn_0 i212_138 ?_
        refine ev_getA i212_139 g212_139 rfl rfl (by decide) ?_
        refine ew_bipush i212_142 (by decide) ?_
        refine ev_iloadn_1 i212_144 ?_
        refine ew_iadd i212_145 ?_
        refine ev_dup2 i212_146 ?_
        refine ew_iaload i212_147 rfl (by omega) (by omega) (by omega) ((hMM.corn p (by omega) (by omega))) (fun b147 => ?_)
        refine ev_aloadn_0 i212_148 ?_
        refine ev_getA i212_149 g212_149 rfl rfl (by decide) ?_
        refine ew_bipush i212_152 (by decide) ?_
        refine ev_iloadn_1 i212_154 ?_
        refine ew_iadd i212_155 ?_
        refine ew_iaload i212_156 rfl (by omega) (by omega) (by omega) ((hMM.corn p (by omega) (by omega))) (fun b156 => ?_)
        refine ew_ifle i212_157 (by omega) (fun c157 => ?_) (fun c157 => ?_)
        · refine ew_iconst i212_164 ?_
          refine ew_isub i212_165 ?_
          refine ew_iastore i212_166 rfl (by omega) (by omega) (by omega) ?_
          have go : ∀ h k : Int, h = (if 0 < g_sld f w e p then 1 else 0) → k = tk (f_corn f) p → ts_Ev X (ts_Cal X (d + 81)) 212 ts_S0 K 167 [.ref 72, .int (zI (p)), .int (zI (g_sld f w e p)), .null] [] (ts_up (ts_up (ts_up (ts_up M 86 1 (zI (e.1 1 + 1))) 86 2 (zI (e.1 2 + h))) 86 3 (zI (e.1 3 + k))) 73 (16 + p).toNat (zI (f_corn f p - k)), L, ts_P0 sw, ts_S0) := by
            intro h k hh hk
            have tkk : tk (f_corn f) p = if 0 < f_corn f p then 1 else 0 := rfl
            have bc := (hMM.corn p (by omega) (by omega)).2
            have s1 := RM.sCorn (p := p) (v := f_corn f p - k) (RM.co72 (J := ts_up (ts_up (ts_up M 86 1 (zI (e.1 1 + 1))) 86 2 (zI (e.1 2 + h))) 86 3 (zI (e.1 3 + k))) hMM rfl rfl rfl rfl) (by omega) (by omega)
            have s2 := ar_up (ar_up (ar_up hDM.up.1 (p := 1) (by decide) (v := e.1 1 + 1) (by omega)) (p := 2) (by decide) (v := e.1 2 + h) (by omega)) (p := 3) (by decide) (v := e.1 3 + k) (by omega)
            refine tail _ _ _ (if 0 < g_sld f w e p then f_tone f p else 8) _ (by omega) (by omega) (fr_up (fr_up (fr_up (fr_up (fr_tr (fr_mo h1 (fun a k q => by omega)) (fr_mo h3 (fun a k q => by omega))) (by omega)) (by omega)) (by omega)) (by omega)) s1 (ar_co s2 rfl) b0.1 b0.2 (ar_co hDM.2 rfl) gl rfl (fun _ => by omega) (fun N q1 q2 q3 => ?_) _
            refine hK N q1 (by rw [← hk]; exact q2) ⟨ar_cg q3.1 (fun i i0 i1 => ?_), ar_cg q3.2 (fun i i0 i1 => ?_)⟩
            · rcases (show i = 0 ∨ i = 1 ∨ i = 2 ∨ i = 3 ∨ i = 4 by omega) with rfl | rfl | rfl | rfl | rfl
              · rfl
              · rfl
              · show e.1 2 + h = e.1 2 + (if 0 < g_sld f w e p then 1 else 0)
                rw [hh]
              · show e.1 3 + k = e.1 3 + (if 0 < f_corn f p then 1 else 0)
                rw [hk, tkk]
              · rfl
            · show zold e.2 (if 0 < g_sld f w e p then f_tone f p else 8) i = zold e.2 (if (if 0 < g_sld f w e p then (1 : Int) else 0) = 1 then f_tone f p else 8) i
              by_cases q : 0 < g_sld f w e p
              · simp only [if_pos q, if_true]
              · simp only [if_neg q]
                rfl
          have tkk : tk (f_corn f) p = if 0 < f_corn f p then 1 else 0 := rfl
          first | exact go _ _ (by omega) (by omega) | (exfalso; omega)
        · refine ew_iconst i212_160 ?_
          refine ev_goto i212_161 ?_
          refine ew_isub i212_165 ?_
          refine ew_iastore i212_166 rfl (by omega) (by omega) (by omega) ?_
          have go : ∀ h k : Int, h = (if 0 < g_sld f w e p then 1 else 0) → k = tk (f_corn f) p → ts_Ev X (ts_Cal X (d + 81)) 212 ts_S0 K 167 [.ref 72, .int (zI (p)), .int (zI (g_sld f w e p)), .null] [] (ts_up (ts_up (ts_up (ts_up M 86 1 (zI (e.1 1 + 1))) 86 2 (zI (e.1 2 + h))) 86 3 (zI (e.1 3 + k))) 73 (16 + p).toNat (zI (f_corn f p - k)), L, ts_P0 sw, ts_S0) := by
            intro h k hh hk
            have tkk : tk (f_corn f) p = if 0 < f_corn f p then 1 else 0 := rfl
            have bc := (hMM.corn p (by omega) (by omega)).2
            have s1 := RM.sCorn (p := p) (v := f_corn f p - k) (RM.co72 (J := ts_up (ts_up (ts_up M 86 1 (zI (e.1 1 + 1))) 86 2 (zI (e.1 2 + h))) 86 3 (zI (e.1 3 + k))) hMM rfl rfl rfl rfl) (by omega) (by omega)
            have s2 := ar_up (ar_up (ar_up hDM.up.1 (p := 1) (by decide) (v := e.1 1 + 1) (by omega)) (p := 2) (by decide) (v := e.1 2 + h) (by omega)) (p := 3) (by decide) (v := e.1 3 + k) (by omega)
            refine tail _ _ _ (if 0 < g_sld f w e p then f_tone f p else 8) _ (by omega) (by omega) (fr_up (fr_up (fr_up (fr_up (fr_tr (fr_mo h1 (fun a k q => by omega)) (fr_mo h3 (fun a k q => by omega))) (by omega)) (by omega)) (by omega)) (by omega)) s1 (ar_co s2 rfl) b0.1 b0.2 (ar_co hDM.2 rfl) gl rfl (fun _ => by omega) (fun N q1 q2 q3 => ?_) _
            refine hK N q1 (by rw [← hk]; exact q2) ⟨ar_cg q3.1 (fun i i0 i1 => ?_), ar_cg q3.2 (fun i i0 i1 => ?_)⟩
            · rcases (show i = 0 ∨ i = 1 ∨ i = 2 ∨ i = 3 ∨ i = 4 by omega) with rfl | rfl | rfl | rfl | rfl
              · rfl
              · rfl
              · show e.1 2 + h = e.1 2 + (if 0 < g_sld f w e p then 1 else 0)
                rw [hh]
              · show e.1 3 + k = e.1 3 + (if 0 < f_corn f p then 1 else 0)
                rw [hk, tkk]
              · rfl
            · show zold e.2 (if 0 < g_sld f w e p then f_tone f p else 8) i = zold e.2 (if (if 0 < g_sld f w e p then (1 : Int) else 0) = 1 then f_tone f p else 8) i
              by_cases q : 0 < g_sld f w e p
              · simp only [if_pos q, if_true]
              · simp only [if_neg q]
                rfl
          have tkk : tk (f_corn f) p = if 0 < f_corn f p then 1 else 0 := rfl
          first | exact go _ _ (by omega) (by omega) | (exfalso; omega)
  refine ev_enter (lv := [.ref 72, .int (zI (p)), .null, .null]) l212 rfl (Nat.le_of_ble_eq_true rfl) ?_
  refine ev_iloadn_1 i212_0 ?_
  refine ew_i2l i212_1 (by omega) ?_
  refine ew_lconst (z := 0) i212_2 (by decide) ?_
  refine ew_ldc2_w (z := (16)) i212_3 g212_3 (by decide) ?_
  refine ev_stat3 i212_6 g212_6 (by decide +kernel) (Nat.le_of_ble_eq_true rfl) (m_within (by omega) (by omega) (by omega) ?_)
  first
  | refine ew_ifneB i212_9 (fun c9 => ?_) (fun c9 => ?_)
  | refine ew_ifne i212_9 (by omega) (fun c9 => ?_) (fun c9 => ?_)
  · refine ev_aloadn_0 i212_14 ?_
    refine ew_getI i212_15 g212_15 rfl (by first | exact hD.1 0 (by decide) (by decide) | exact hM.men | exact hM.told | exact hM.road | exact hM.stand _ (by omega) (by omega) | exact hM.reach _ (by omega) (by omega) | exact hM.arm _ (by omega) (by omega) | exact hM.late _ (by omega) (by omega) | exact hM.len _ (by omega) (by omega) | exact hM.corn _ (by omega) (by omega) | exact hM.say (by omega) (by omega) _ (by omega) (by omega) | exact hM.tone _ (by omega) (by omega)) (fun b15 => ?_)
    first
    | refine ew_ifeqB i212_18 (fun c18 => ?_) (fun c18 => ?_)
    | refine ew_ifeq i212_18 (by omega) (fun c18 => ?_) (fun c18 => ?_)
    · refine ew_bipush i212_46 (by decide) ?_
      refine ev_ireturn i212_48 r212 ?_
      first
      | (rw [if_neg (by omega), if_neg (by omega), if_neg (by omega), if_neg (by omega), if_pos c18] at hK
         exact hK I (fr_rfl _ _) hM hD.up)
      | (rw [if_neg (fun r => c43 r.2.2), if_neg (by omega), if_neg (fun r => c43 r.2.2), if_neg (by omega), if_neg (by omega), if_neg (by omega), if_neg c43] at hK
         exact hK I (fr_rfl _ _) hM hD.up)
    · refine ev_iloadn_1 i212_21 ?_
      refine ew_bipush i212_22 (by decide) ?_
      refine ew_icmpeq i212_24 (by omega) (fun c24 => ?_) (fun c24 => ?_)
      · refine ew_iconst i212_49 ?_
        refine ev_istoren_2 i212_50 rfl ?_
        refine ev_iloadn_1 i212_51 ?_
        refine ew_bipush i212_52 (by decide) ?_
        refine ew_icmpeq i212_54 (by omega) (fun c54 => ?_) (fun c54 => ?_)
        · obtain rfl : p = 16 := by omega
          refine tail I f 0 8 e.1 (by decide) (by decide) (fr_rfl _ _) hM hD.up.1 b0.1 b0.2 hD.2 (by decide) rfl (fun q => absurd q (by decide)) (fun M h1 h2 h3 => ?_) _
          rw [if_neg (by omega), if_pos (by omega), if_neg (by omega), if_neg (by omega), if_pos rfl] at hK
          exact hK M h1 h2 h3
        · first
          | (exfalso; omega)
          | exact body ⟨by omega, by omega, c43⟩
      · refine ev_aloadn_0 i212_27 ?_
        refine ev_aloadn_0 i212_28 ?_
        refine ev_getA i212_29 g212_29 rfl rfl (by decide) ?_
        refine ew_iconst i212_32 ?_
        refine ew_iaload i212_33 rfl (by omega) (by omega) (by omega) (by first | exact hD.1 0 (by decide) (by decide) | exact hM.men | exact hM.told | exact hM.road | exact hM.stand _ (by omega) (by omega) | exact hM.reach _ (by omega) (by omega) | exact hM.arm _ (by omega) (by omega) | exact hM.late _ (by omega) (by omega) | exact hM.len _ (by omega) (by omega) | exact hM.corn _ (by omega) (by omega) | exact hM.say (by omega) (by omega) _ (by omega) (by omega) | exact hM.tone _ (by omega) (by omega)) (fun b33 => ?_)
        refine ev_aloadn_0 i212_34 ?_
        refine ew_getI i212_35 g212_35 rfl (by first | exact hD.1 0 (by decide) (by decide) | exact hM.men | exact hM.told | exact hM.road | exact hM.stand _ (by omega) (by omega) | exact hM.reach _ (by omega) (by omega) | exact hM.arm _ (by omega) (by omega) | exact hM.late _ (by omega) (by omega) | exact hM.len _ (by omega) (by omega) | exact hM.corn _ (by omega) (by omega) | exact hM.say (by omega) (by omega) _ (by omega) (by omega) | exact hM.tone _ (by omega) (by omega)) (fun b35 => ?_)
        refine ew_iremB i212_38 (by omega) (by omega) (fun r38 => ?_)
        refine ev_iloadn_1 i212_39 ?_
        refine ev_virt2 i212_40 g212_40 rfl (by decide +kernel) (Nat.le_of_ble_eq_true rfl) (m_reaches hM (by omega) (by omega) (by omega) (by omega) ?_)
        first
        | refine ew_ifneB i212_43 (fun c43 => ?_) (fun c43 => ?_)
        | refine ew_ifne i212_43 (by omega) (fun c43 => ?_) (fun c43 => ?_)
        · refine ew_iconst i212_49 ?_
          refine ev_istoren_2 i212_50 rfl ?_
          refine ev_iloadn_1 i212_51 ?_
          refine ew_bipush i212_52 (by decide) ?_
          refine ew_icmpeq i212_54 (by omega) (fun c54 => ?_) (fun c54 => ?_)
          · obtain rfl : p = 16 := by omega
            refine tail I f 0 8 e.1 (by decide) (by decide) (fr_rfl _ _) hM hD.up.1 b0.1 b0.2 hD.2 (by decide) rfl (fun q => absurd q (by decide)) (fun M h1 h2 h3 => ?_) _
            rw [if_neg (by omega), if_pos (by omega), if_neg (by omega), if_neg (by omega), if_pos rfl] at hK
            exact hK M h1 h2 h3
          · first
            | (exfalso; omega)
            | exact body ⟨by omega, by omega, c43⟩
        · refine ew_bipush i212_46 (by decide) ?_
          refine ev_ireturn i212_48 r212 ?_
          first
          | (rw [if_neg (by omega), if_neg (by omega), if_neg (by omega), if_neg (by omega), if_pos c18] at hK
             exact hK I (fr_rfl _ _) hM hD.up)
          | (rw [if_neg (fun r => c43 r.2.2), if_neg (by omega), if_neg (fun r => c43 r.2.2), if_neg (by omega), if_neg (by omega), if_neg (by omega), if_neg c43] at hK
             exact hK I (fr_rfl _ _) hM hD.up)
  · refine ew_iconst i212_12 ?_
    refine ev_ireturn i212_13 r212 ?_
    rw [if_neg (by omega), if_neg (by omega), if_neg (by omega), if_pos (by omega)] at hK
    exact hK I (fr_rfl _ _) hM hD.up
theorem m_sow (hM : RM I f) (hD : RMd I B e) (hB : B ≤ 1000) {p : Int} (hp : -2147483648 ≤ p ∧ p ≤ 2147483647) (hK : ∀ J, fr fmk I J → RM J (g_sowF f p) → RMd J (B + 1) (g_sowE e p) → K (some (.int (zI (g_sowA f p)))) (J, L, ts_P0 sw, ts_S0)) : ts_Cal X (d + 3) 213 [.ref 72, .int (zI (p))] (I, L, ts_P0 sw, ts_S0) K := by
  have b0 := (hD.1 4 (by decide) (by decide)).2
  unfold g_sowF g_sowE g_sowA at hK
  refine ev_enter (lv := [.ref 72, .int (zI (p))]) l213 rfl (Nat.le_of_ble_eq_true rfl) ?_
  refine ev_iloadn_1 i213_0 ?_
  refine ew_i2l i213_1 (by omega) ?_
  refine ev_stat1 i213_2 g213_2 (by decide +kernel) (Nat.le_of_ble_eq_true rfl) (m_isPlank (by omega) ?_)
  first
  | refine ew_ifneB i213_5 (fun c5 => ?_) (fun c5 => ?_)
  | refine ew_ifne i213_5 (by omega) (fun c5 => ?_) (fun c5 => ?_)
  · rw [if_pos c5, if_pos c5, if_pos c5] at hK
    have bc := (hM.corn p c5.1 c5.2).2
    refine ev_aloadn_0 i213_10 ?_
    refine ev_getA i213_11 g213_11 rfl rfl (by decide) ?_
    refine ew_bipush i213_14 (by decide) ?_
    refine ev_iloadn_1 i213_16 ?_
    refine ew_iadd i213_17 ?_
    refine ev_dup2 i213_18 ?_
    refine ew_iaload i213_19 rfl (by omega) (by omega) (by omega) ((hM.corn p c5.1 c5.2)) (fun b19 => ?_)
    refine ev_aloadn_0 i213_20 ?_
    refine ev_getA i213_21 g213_21 rfl rfl (by decide) ?_
    refine ew_bipush i213_24 (by decide) ?_
    refine ev_iloadn_1 i213_26 ?_
    refine ew_iadd i213_27 ?_
    refine ew_iaload i213_28 rfl (by omega) (by omega) (by omega) ((hM.corn p c5.1 c5.2)) (fun b28 => ?_)
    refine ew_bipush i213_29 (by decide) ?_
    refine ew_icmpge i213_31 (by omega) (fun c31 => ?_) (fun c31 => ?_)
    · refine ew_iconst i213_38 ?_
      refine ew_iadd i213_39 ?_
      refine ew_iastore i213_40 rfl (by omega) (by omega) (by omega) ?_
      first
      | rw [show f_corn f p + 1 = (if f_corn f p < 9 then f_corn f p + 1 else 9) from by omega]
      | rw [show f_corn f p + 0 = (if f_corn f p < 9 then f_corn f p + 1 else 9) from by omega]
      refine ev_aloadn_0 i213_41 ?_
      refine ev_getA i213_42 g213_42 rfl rfl (by decide) ?_
      refine ew_iconst i213_45 ?_
      refine ev_dup2 i213_46 ?_
      refine ew_iaload i213_47 rfl (by omega) (by omega) (by omega) (by first | exact hD.1 4 (by decide) (by decide) | exact hM.men | exact hM.told | exact hM.road | exact hM.stand _ (by omega) (by omega) | exact hM.reach _ (by omega) (by omega) | exact hM.arm _ (by omega) (by omega) | exact hM.late _ (by omega) (by omega) | exact hM.len _ (by omega) (by omega) | exact hM.corn _ (by omega) (by omega) | exact hM.say (by omega) (by omega) _ (by omega) (by omega) | exact hM.tone _ (by omega) (by omega)) (fun b47 => ?_)
      refine ew_iconst i213_48 ?_
      refine ew_iadd i213_49 ?_
      refine ew_iastore i213_50 rfl (by omega) (by omega) (by omega) ?_
      refine ev_aloadn_0 i213_51 ?_
      refine ev_getA i213_52 g213_52 rfl rfl (by decide) ?_
      refine ew_bipush i213_55 (by decide) ?_
      refine ev_iloadn_1 i213_57 ?_
      refine ew_iadd i213_58 ?_
      refine ew_iaload i213_59 rfl (by omega) (by omega) (by omega) ((by show rd (ts_up (ts_up I 73 (16 + p).toNat (zI (if f_corn f p < 9 then f_corn f p + 1 else 9))) 86 4 (zI (e.1 4 + 1)) 73 (16 + p).toNat) _ _ _; rw [ts_up_na (by decide), ts_up_e]; exact rd_zI (lo := 0) (hi := 9) (by omega))) (fun b59 => ?_)
      refine ev_ireturn i213_60 r213 ?_
      exact hK _ (by repeat' (first | exact fr_rfl _ _ | refine fr_up ?_ (by omega))) (RM.co72 (hM.sCorn (p := p) (v := if f_corn f p < 9 then f_corn f p + 1 else 9) c5 (by omega)) rfl rfl rfl rfl) ⟨ar_up (ar_co hD.up.1 rfl) (p := 4) (by decide) (v := e.1 4 + 1) (by omega), ar_co hD.2 rfl⟩
    · refine ew_iconst i213_34 ?_
      refine ev_goto i213_35 ?_
      refine ew_iadd i213_39 ?_
      refine ew_iastore i213_40 rfl (by omega) (by omega) (by omega) ?_
      first
      | rw [show f_corn f p + 1 = (if f_corn f p < 9 then f_corn f p + 1 else 9) from by omega]
      | rw [show f_corn f p + 0 = (if f_corn f p < 9 then f_corn f p + 1 else 9) from by omega]
      refine ev_aloadn_0 i213_41 ?_
      refine ev_getA i213_42 g213_42 rfl rfl (by decide) ?_
      refine ew_iconst i213_45 ?_
      refine ev_dup2 i213_46 ?_
      refine ew_iaload i213_47 rfl (by omega) (by omega) (by omega) (by first | exact hD.1 4 (by decide) (by decide) | exact hM.men | exact hM.told | exact hM.road | exact hM.stand _ (by omega) (by omega) | exact hM.reach _ (by omega) (by omega) | exact hM.arm _ (by omega) (by omega) | exact hM.late _ (by omega) (by omega) | exact hM.len _ (by omega) (by omega) | exact hM.corn _ (by omega) (by omega) | exact hM.say (by omega) (by omega) _ (by omega) (by omega) | exact hM.tone _ (by omega) (by omega)) (fun b47 => ?_)
      refine ew_iconst i213_48 ?_
      refine ew_iadd i213_49 ?_
      refine ew_iastore i213_50 rfl (by omega) (by omega) (by omega) ?_
      refine ev_aloadn_0 i213_51 ?_
      refine ev_getA i213_52 g213_52 rfl rfl (by decide) ?_
      refine ew_bipush i213_55 (by decide) ?_
      refine ev_iloadn_1 i213_57 ?_
      refine ew_iadd i213_58 ?_
      refine ew_iaload i213_59 rfl (by omega) (by omega) (by omega) ((by show rd (ts_up (ts_up I 73 (16 + p).toNat (zI (if f_corn f p < 9 then f_corn f p + 1 else 9))) 86 4 (zI (e.1 4 + 1)) 73 (16 + p).toNat) _ _ _; rw [ts_up_na (by decide), ts_up_e]; exact rd_zI (lo := 0) (hi := 9) (by omega))) (fun b59 => ?_)
      refine ev_ireturn i213_60 r213 ?_
      exact hK _ (by repeat' (first | exact fr_rfl _ _ | refine fr_up ?_ (by omega))) (RM.co72 (hM.sCorn (p := p) (v := if f_corn f p < 9 then f_corn f p + 1 else 9) c5 (by omega)) rfl rfl rfl rfl) ⟨ar_up (ar_co hD.up.1 rfl) (p := 4) (by decide) (v := e.1 4 + 1) (by omega), ar_co hD.2 rfl⟩
  · refine ew_iconst i213_8 ?_
    refine ev_ireturn i213_9 r213 ?_
    rw [if_neg c5, if_neg c5, if_neg c5] at hK
    exact hK I (fr_rfl _ _) hM hD.up
theorem m_led (hD : RMd I B e) (hB : B ≤ 1000) {x : Int} (hx : -2147483648 ≤ x ∧ x ≤ 2147483647) (hK : K (some (.int (zI (g_ledA e x)))) (I, L, ts_P0 sw, ts_S0)) : ts_Cal X (d + 2) 214 [.ref 72, .int (zI (x))] (I, L, ts_P0 sw, ts_S0) K := by
  have b0 := (hD.1 0 (by decide) (by decide)).2
  unfold g_ledA at hK
  refine ev_enter (lv := [.ref 72, .int (zI (x))]) l214 rfl (Nat.le_of_ble_eq_true rfl) ?_
  refine ev_iloadn_1 i214_0 ?_
  refine ew_i2l i214_1 (by omega) ?_
  refine ew_lconst (z := 0) i214_2 (by decide) ?_
  refine ew_ldc2_w (z := (4)) i214_3 g214_3 (by decide) ?_
  refine ev_stat3 i214_6 g214_6 (by decide +kernel) (Nat.le_of_ble_eq_true rfl) (m_within (by omega) (by omega) (by omega) ?_)
  first
  | refine ew_ifeqB i214_9 (fun c9 => ?_) (fun c9 => ?_)
  | refine ew_ifeq i214_9 (by omega) (fun c9 => ?_) (fun c9 => ?_)
  · refine ev_iloadn_1 i214_19 ?_
    refine ew_i2l i214_20 (by omega) ?_
    refine ew_ldc2_w (z := (10)) i214_21 g214_21 (by decide) ?_
    refine ew_ldc2_w (z := (15)) i214_24 g214_24 (by decide) ?_
    refine ev_stat3 i214_27 g214_27 (by decide +kernel) (Nat.le_of_ble_eq_true rfl) (m_within (by omega) (by omega) (by omega) ?_)
    first
    | refine ew_ifneB i214_30 (fun c30 => ?_) (fun c30 => ?_)
    | refine ew_ifne i214_30 (by omega) (fun c30 => ?_) (fun c30 => ?_)
    · refine ev_iloadn_1 i214_37 ?_
      refine ew_bipush i214_38 (by decide) ?_
      refine ew_isub i214_40 ?_
      refine ev_aloadn_0 i214_41 ?_
      refine ev_getA i214_42 g214_42 rfl rfl (by decide) ?_
      refine ew_iconst i214_45 ?_
      refine ew_iaload i214_46 rfl (by omega) (by omega) (by omega) (by first | exact hD.1 _ (by omega) (by omega) | exact hD.2 _ (by omega) (by omega) | exact hM.men | exact hM.told | exact hM.road | exact hM.stand _ (by omega) (by omega) | exact hM.reach _ (by omega) (by omega) | exact hM.arm _ (by omega) (by omega) | exact hM.late _ (by omega) (by omega) | exact hM.len _ (by omega) (by omega) | exact hM.corn _ (by omega) (by omega) | exact hM.say (by omega) (by omega) _ (by omega) (by omega) | exact hM.tone _ (by omega) (by omega)) (fun b46 => ?_)
      refine ew_icmplt i214_47 (by omega) (fun c47 => ?_) (fun c47 => ?_)
      · refine ev_aloadn_0 i214_55 ?_
        refine ev_getA i214_56 g214_56 rfl rfl (by decide) ?_
        refine ev_iloadn_1 i214_59 ?_
        refine ew_bipush i214_60 (by decide) ?_
        refine ew_isub i214_62 ?_
        refine ew_iaload i214_63 rfl (by omega) (by omega) (by omega) (by first | exact hD.1 _ (by omega) (by omega) | exact hD.2 _ (by omega) (by omega) | exact hM.men | exact hM.told | exact hM.road | exact hM.stand _ (by omega) (by omega) | exact hM.reach _ (by omega) (by omega) | exact hM.arm _ (by omega) (by omega) | exact hM.late _ (by omega) (by omega) | exact hM.len _ (by omega) (by omega) | exact hM.corn _ (by omega) (by omega) | exact hM.say (by omega) (by omega) _ (by omega) (by omega) | exact hM.tone _ (by omega) (by omega)) (fun b63 => ?_)
        refine ev_ireturn i214_64 r214 ?_
        first | exact hK | exact zK hK (by omega)
      · refine ew_bipush i214_50 (by decide) ?_
        refine ev_goto i214_52 ?_
        refine ev_ireturn i214_64 r214 ?_
        first | exact hK | exact zK hK (by omega)
    · refine ew_iconst i214_33 ?_
      refine ev_goto i214_34 ?_
      refine ev_ireturn i214_64 r214 ?_
      first | exact hK | exact zK hK (by omega)
  · refine ev_aloadn_0 i214_12 ?_
    refine ev_getA i214_13 g214_13 rfl rfl (by decide) ?_
    refine ev_iloadn_1 i214_16 ?_
    refine ew_iaload i214_17 rfl (by omega) (by omega) (by omega) (by first | exact hD.1 _ (by omega) (by omega) | exact hD.2 _ (by omega) (by omega) | exact hM.men | exact hM.told | exact hM.road | exact hM.stand _ (by omega) (by omega) | exact hM.reach _ (by omega) (by omega) | exact hM.arm _ (by omega) (by omega) | exact hM.late _ (by omega) (by omega) | exact hM.len _ (by omega) (by omega) | exact hM.corn _ (by omega) (by omega) | exact hM.say (by omega) (by omega) _ (by omega) (by omega) | exact hM.tone _ (by omega) (by omega)) (fun b17 => ?_)
    refine ev_ireturn i214_18 r214 ?_
    first | exact hK | exact zK hK (by omega)
end SM2
