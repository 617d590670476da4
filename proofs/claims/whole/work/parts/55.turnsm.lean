theorem i209_0 : ts_ins 209 0 = some (.iload_n 3, 1, 0) := by decide +kernel
theorem i209_1 : ts_ins 209 1 = some (.iload 4, 3, 0) := by decide +kernel
theorem i209_3 : ts_ins 209 3 = some (.if_icmp .ne 5, 6, 8) := by decide +kernel
theorem i209_6 : ts_ins 209 6 = some (.iconst 0, 7, 0) := by decide +kernel
theorem i209_7 : ts_ins 209 7 = some (.ireturn, 8, 0) := by decide +kernel
theorem i209_8 : ts_ins 209 8 = some (.iload_n 3, 9, 0) := by decide +kernel
theorem i209_9 : ts_ins 209 9 = some (.iconst 2, 10, 0) := by decide +kernel
theorem i209_10 : ts_ins 209 10 = some (.irem, 11, 0) := by decide +kernel
theorem i209_11 : ts_ins 209 11 = some (.ifCond .ne 7, 14, 18) := by decide +kernel
theorem i209_14 : ts_ins 209 14 = some (.iload_n 1, 15, 0) := by decide +kernel
theorem i209_15 : ts_ins 209 15 = some (.goto 4, 18, 19) := by decide +kernel
theorem i209_18 : ts_ins 209 18 = some (.iload_n 2, 19, 0) := by decide +kernel
theorem i209_19 : ts_ins 209 19 = some (.istore 5, 21, 0) := by decide +kernel
theorem i209_21 : ts_ins 209 21 = some (.aload_n 0, 22, 0) := by decide +kernel
theorem i209_22 : ts_ins 209 22 = some (.iload_n 1, 23, 0) := by decide +kernel
theorem i209_23 : ts_ins 209 23 = some (.iload_n 2, 24, 0) := by decide +kernel
theorem i209_24 : ts_ins 209 24 = some (.iload_n 3, 25, 0) := by decide +kernel
theorem i209_25 : ts_ins 209 25 = some (.iconst 1, 26, 0) := by decide +kernel
theorem i209_26 : ts_ins 209 26 = some (.iadd, 27, 0) := by decide +kernel
theorem i209_27 : ts_ins 209 27 = some (.iload 4, 29, 0) := by decide +kernel
theorem i209_29 : ts_ins 209 29 = some (.invokevirtual 280, 32, 0) := by decide +kernel
theorem g209_29 : ts_cal (ts_mc 209) 280 = some (0, 209, 4) := by decide +kernel
theorem i209_32 : ts_ins 209 32 = some (.istore 6, 34, 0) := by decide +kernel
theorem i209_34 : ts_ins 209 34 = some (.iconst 0, 35, 0) := by decide +kernel
theorem i209_35 : ts_ins 209 35 = some (.istore 7, 37, 0) := by decide +kernel
theorem i209_37 : ts_ins 209 37 = some (.iload 7, 39, 0) := by decide +kernel
theorem i209_39 : ts_ins 209 39 = some (.bipush 16, 41, 0) := by decide +kernel
theorem i209_41 : ts_ins 209 41 = some (.if_icmp .ge 128, 44, 169) := by decide +kernel
theorem i209_44 : ts_ins 209 44 = some (.aload_n 0, 45, 0) := by decide +kernel
theorem i209_45 : ts_ins 209 45 = some (.iload 5, 47, 0) := by decide +kernel
theorem i209_47 : ts_ins 209 47 = some (.iload 7, 49, 0) := by decide +kernel
theorem i209_49 : ts_ins 209 49 = some (.invokevirtual 201, 52, 0) := by decide +kernel
theorem g209_49 : ts_cal (ts_mc 209) 201 = some (0, 173, 2) := by decide +kernel
theorem i209_52 : ts_ins 209 52 = some (.ifCond .eq 111, 55, 163) := by decide +kernel
theorem i209_55 : ts_ins 209 55 = some (.aload_n 0, 56, 0) := by decide +kernel
theorem i209_56 : ts_ins 209 56 = some (.getfield 34, 59, 0) := by decide +kernel
theorem g209_56 : ts_fm 209 34 = some (12, 19, 2) := by decide +kernel
theorem i209_59 : ts_ins 209 59 = some (.iload 7, 61, 0) := by decide +kernel
theorem i209_61 : ts_ins 209 61 = some (.iaload, 62, 0) := by decide +kernel
theorem i209_62 : ts_ins 209 62 = some (.ifCond .le 7, 65, 69) := by decide +kernel
theorem i209_65 : ts_ins 209 65 = some (.iconst 1, 66, 0) := by decide +kernel
theorem i209_66 : ts_ins 209 66 = some (.goto 4, 69, 70) := by decide +kernel
theorem i209_69 : ts_ins 209 69 = some (.iconst 0, 70, 0) := by decide +kernel
theorem i209_70 : ts_ins 209 70 = some (.istore 8, 72, 0) := by decide +kernel
theorem i209_72 : ts_ins 209 72 = some (.aload_n 0, 73, 0) := by decide +kernel
theorem i209_73 : ts_ins 209 73 = some (.getfield 34, 76, 0) := by decide +kernel
theorem g209_73 : ts_fm 209 34 = some (12, 19, 2) := by decide +kernel
theorem i209_76 : ts_ins 209 76 = some (.iload 7, 78, 0) := by decide +kernel
theorem i209_78 : ts_ins 209 78 = some (.dup2, 79, 0) := by decide +kernel
theorem i209_79 : ts_ins 209 79 = some (.iaload, 80, 0) := by decide +kernel
theorem i209_80 : ts_ins 209 80 = some (.iload 8, 82, 0) := by decide +kernel
theorem i209_82 : ts_ins 209 82 = some (.isub, 83, 0) := by decide +kernel
theorem i209_83 : ts_ins 209 83 = some (.iastore, 84, 0) := by decide +kernel
theorem i209_84 : ts_ins 209 84 = some (.aload_n 0, 85, 0) := by decide +kernel
theorem i209_85 : ts_ins 209 85 = some (.iload_n 1, 86, 0) := by decide +kernel
theorem i209_86 : ts_ins 209 86 = some (.iload_n 2, 87, 0) := by decide +kernel
theorem i209_87 : ts_ins 209 87 = some (.iload_n 3, 88, 0) := by decide +kernel
theorem i209_88 : ts_ins 209 88 = some (.iconst 1, 89, 0) := by decide +kernel
theorem i209_89 : ts_ins 209 89 = some (.iadd, 90, 0) := by decide +kernel
theorem i209_90 : ts_ins 209 90 = some (.iload 4, 92, 0) := by decide +kernel
theorem i209_92 : ts_ins 209 92 = some (.invokevirtual 280, 95, 0) := by decide +kernel
theorem g209_92 : ts_cal (ts_mc 209) 280 = some (0, 209, 4) := by decide +kernel
theorem i209_95 : ts_ins 209 95 = some (.iload_n 3, 96, 0) := by decide +kernel
theorem i209_96 : ts_ins 209 96 = some (.iconst 2, 97, 0) := by decide +kernel
theorem i209_97 : ts_ins 209 97 = some (.irem, 98, 0) := by decide +kernel
theorem i209_98 : ts_ins 209 98 = some (.ifCond .ne 8, 101, 106) := by decide +kernel
theorem i209_101 : ts_ins 209 101 = some (.iload 8, 103, 0) := by decide +kernel
theorem i209_103 : ts_ins 209 103 = some (.goto 6, 106, 109) := by decide +kernel
theorem i209_106 : ts_ins 209 106 = some (.iload 8, 108, 0) := by decide +kernel
theorem i209_108 : ts_ins 209 108 = some (.ineg, 109, 0) := by decide +kernel
theorem i209_109 : ts_ins 209 109 = some (.iadd, 110, 0) := by decide +kernel
theorem i209_110 : ts_ins 209 110 = some (.istore 9, 112, 0) := by decide +kernel
theorem i209_112 : ts_ins 209 112 = some (.aload_n 0, 113, 0) := by decide +kernel
theorem i209_113 : ts_ins 209 113 = some (.getfield 34, 116, 0) := by decide +kernel
theorem g209_113 : ts_fm 209 34 = some (12, 19, 2) := by decide +kernel
theorem i209_116 : ts_ins 209 116 = some (.iload 7, 118, 0) := by decide +kernel
theorem i209_118 : ts_ins 209 118 = some (.dup2, 119, 0) := by decide +kernel
theorem i209_119 : ts_ins 209 119 = some (.iaload, 120, 0) := by decide +kernel
theorem i209_120 : ts_ins 209 120 = some (.iload 8, 122, 0) := by decide +kernel
theorem i209_122 : ts_ins 209 122 = some (.iadd, 123, 0) := by decide +kernel
theorem i209_123 : ts_ins 209 123 = some (.iastore, 124, 0) := by decide +kernel
theorem i209_124 : ts_ins 209 124 = some (.iload_n 3, 125, 0) := by decide +kernel
theorem i209_125 : ts_ins 209 125 = some (.iconst 2, 126, 0) := by decide +kernel
theorem i209_126 : ts_ins 209 126 = some (.irem, 127, 0) := by decide +kernel
theorem i209_127 : ts_ins 209 127 = some (.ifCond .ne 20, 130, 147) := by decide +kernel
theorem i209_130 : ts_ins 209 130 = some (.iload 9, 132, 0) := by decide +kernel
theorem i209_132 : ts_ins 209 132 = some (.iload 6, 134, 0) := by decide +kernel
theorem i209_134 : ts_ins 209 134 = some (.if_icmp .le 8, 137, 142) := by decide +kernel
theorem i209_137 : ts_ins 209 137 = some (.iload 9, 139, 0) := by decide +kernel
theorem i209_139 : ts_ins 209 139 = some (.goto 22, 142, 161) := by decide +kernel
theorem i209_142 : ts_ins 209 142 = some (.iload 6, 144, 0) := by decide +kernel
theorem i209_144 : ts_ins 209 144 = some (.goto 17, 147, 161) := by decide +kernel
theorem i209_147 : ts_ins 209 147 = some (.iload 9, 149, 0) := by decide +kernel
theorem i209_149 : ts_ins 209 149 = some (.iload 6, 151, 0) := by decide +kernel
theorem i209_151 : ts_ins 209 151 = some (.if_icmp .ge 8, 154, 159) := by decide +kernel
theorem i209_154 : ts_ins 209 154 = some (.iload 9, 156, 0) := by decide +kernel
theorem i209_156 : ts_ins 209 156 = some (.goto 5, 159, 161) := by decide +kernel
theorem i209_159 : ts_ins 209 159 = some (.iload 6, 161, 0) := by decide +kernel
theorem i209_161 : ts_ins 209 161 = some (.istore 6, 163, 0) := by decide +kernel
theorem i209_163 : ts_ins 209 163 = some (.iinc 7 1, 166, 0) := by decide +kernel
theorem i209_166 : ts_ins 209 166 = some (.goto (-129), 169, 37) := by decide +kernel
theorem i209_169 : ts_ins 209 169 = some (.iload 6, 171, 0) := by decide +kernel
theorem i209_171 : ts_ins 209 171 = some (.ireturn, 172, 0) := by decide +kernel
theorem r209 : ts_rt 209 = ((some .int), 0, 0) := by decide +kernel
theorem l209 : ts_ml 209 = 10 := by decide +kernel
theorem i210_0 : ts_ins 210 0 = some (.iload_n 1, 1, 0) := by decide +kernel
theorem i210_1 : ts_ins 210 1 = some (.ifCond .lt 60, 4, 61) := by decide +kernel
theorem i210_4 : ts_ins 210 4 = some (.aload_n 0, 5, 0) := by decide +kernel
theorem i210_5 : ts_ins 210 5 = some (.iload_n 1, 6, 0) := by decide +kernel
theorem i210_6 : ts_ins 210 6 = some (.bipush 10, 8, 0) := by decide +kernel
theorem i210_8 : ts_ins 210 8 = some (.idiv, 9, 0) := by decide +kernel
theorem i210_9 : ts_ins 210 9 = some (.i2l, 10, 0) := by decide +kernel
theorem i210_10 : ts_ins 210 10 = some (.invokevirtual 128, 13, 0) := by decide +kernel
theorem g210_10 : ts_cal (ts_mc 210) 128 = some (0, 149, 1) := by decide +kernel
theorem i210_13 : ts_ins 210 13 = some (.ifCond .eq 48, 16, 61) := by decide +kernel
theorem i210_16 : ts_ins 210 16 = some (.aload_n 0, 17, 0) := by decide +kernel
theorem i210_17 : ts_ins 210 17 = some (.iload_n 1, 18, 0) := by decide +kernel
theorem i210_18 : ts_ins 210 18 = some (.bipush 10, 20, 0) := by decide +kernel
theorem i210_20 : ts_ins 210 20 = some (.irem, 21, 0) := by decide +kernel
theorem i210_21 : ts_ins 210 21 = some (.i2l, 22, 0) := by decide +kernel
theorem i210_22 : ts_ins 210 22 = some (.invokevirtual 128, 25, 0) := by decide +kernel
theorem g210_22 : ts_cal (ts_mc 210) 128 = some (0, 149, 1) := by decide +kernel
theorem i210_25 : ts_ins 210 25 = some (.ifCond .eq 36, 28, 61) := by decide +kernel
theorem i210_28 : ts_ins 210 28 = some (.iload_n 1, 29, 0) := by decide +kernel
theorem i210_29 : ts_ins 210 29 = some (.bipush 10, 31, 0) := by decide +kernel
theorem i210_31 : ts_ins 210 31 = some (.idiv, 32, 0) := by decide +kernel
theorem i210_32 : ts_ins 210 32 = some (.iload_n 1, 33, 0) := by decide +kernel
theorem i210_33 : ts_ins 210 33 = some (.bipush 10, 35, 0) := by decide +kernel
theorem i210_35 : ts_ins 210 35 = some (.irem, 36, 0) := by decide +kernel
theorem i210_36 : ts_ins 210 36 = some (.if_icmp .eq 25, 39, 61) := by decide +kernel
theorem i210_39 : ts_ins 210 39 = some (.iload_n 2, 40, 0) := by decide +kernel
theorem i210_40 : ts_ins 210 40 = some (.i2l, 41, 0) := by decide +kernel
theorem i210_41 : ts_ins 210 41 = some (.lconst 1, 42, 0) := by decide +kernel
theorem i210_42 : ts_ins 210 42 = some (.ldc2_w 220, 45, 0) := by decide +kernel
theorem g210_42 : ts_lc (ts_mc 210) 220 = some (.long (4)) := by decide +kernel
theorem i210_45 : ts_ins 210 45 = some (.invokestatic 95, 48, 0) := by decide +kernel
theorem g210_45 : ts_cal (ts_mc 210) 95 = some (1, 143, 3) := by decide +kernel
theorem i210_48 : ts_ins 210 48 = some (.ifCond .eq 13, 51, 61) := by decide +kernel
theorem i210_51 : ts_ins 210 51 = some (.iload_n 3, 52, 0) := by decide +kernel
theorem i210_52 : ts_ins 210 52 = some (.i2l, 53, 0) := by decide +kernel
theorem i210_53 : ts_ins 210 53 = some (.lconst 0, 54, 0) := by decide +kernel
theorem i210_54 : ts_ins 210 54 = some (.lconst 1, 55, 0) := by decide +kernel
theorem i210_55 : ts_ins 210 55 = some (.invokestatic 95, 58, 0) := by decide +kernel
theorem g210_55 : ts_cal (ts_mc 210) 95 = some (1, 143, 3) := by decide +kernel
theorem i210_58 : ts_ins 210 58 = some (.ifCond .ne 7, 61, 65) := by decide +kernel
theorem i210_61 : ts_ins 210 61 = some (.ldc_w 284, 64, 0) := by decide +kernel
theorem g210_61 : ts_lc (ts_mc 210) 284 = some (.int (-2000000000)) := by decide +kernel
theorem i210_64 : ts_ins 210 64 = some (.ireturn, 65, 0) := by decide +kernel
theorem i210_65 : ts_ins 210 65 = some (.iload_n 1, 66, 0) := by decide +kernel
theorem i210_66 : ts_ins 210 66 = some (.bipush 10, 68, 0) := by decide +kernel
theorem i210_68 : ts_ins 210 68 = some (.idiv, 69, 0) := by decide +kernel
theorem i210_69 : ts_ins 210 69 = some (.istore 4, 71, 0) := by decide +kernel
theorem i210_71 : ts_ins 210 71 = some (.iload_n 1, 72, 0) := by decide +kernel
theorem i210_72 : ts_ins 210 72 = some (.bipush 10, 74, 0) := by decide +kernel
theorem i210_74 : ts_ins 210 74 = some (.irem, 75, 0) := by decide +kernel
theorem i210_75 : ts_ins 210 75 = some (.istore 5, 77, 0) := by decide +kernel
theorem i210_77 : ts_ins 210 77 = some (.aload_n 0, 78, 0) := by decide +kernel
theorem i210_78 : ts_ins 210 78 = some (.invokevirtual 205, 81, 0) := by decide +kernel
theorem g210_78 : ts_cal (ts_mc 210) 205 = some (0, 175, 0) := by decide +kernel
theorem i210_81 : ts_ins 210 81 = some (.aload_n 0, 82, 0) := by decide +kernel
theorem i210_82 : ts_ins 210 82 = some (.iload 4, 84, 0) := by decide +kernel
theorem i210_84 : ts_ins 210 84 = some (.iload 5, 86, 0) := by decide +kernel
theorem i210_86 : ts_ins 210 86 = some (.iconst 0, 87, 0) := by decide +kernel
theorem i210_87 : ts_ins 210 87 = some (.iload_n 2, 88, 0) := by decide +kernel
theorem i210_88 : ts_ins 210 88 = some (.invokevirtual 280, 91, 0) := by decide +kernel
theorem g210_88 : ts_cal (ts_mc 210) 280 = some (0, 209, 4) := by decide +kernel
theorem i210_91 : ts_ins 210 91 = some (.istore 6, 93, 0) := by decide +kernel
theorem i210_93 : ts_ins 210 93 = some (.iload_n 3, 94, 0) := by decide +kernel
theorem i210_94 : ts_ins 210 94 = some (.ifCond .ne 6, 97, 100) := by decide +kernel
theorem i210_97 : ts_ins 210 97 = some (.iload 6, 99, 0) := by decide +kernel
theorem i210_99 : ts_ins 210 99 = some (.ireturn, 100, 0) := by decide +kernel
theorem i210_100 : ts_ins 210 100 = some (.aload_n 0, 101, 0) := by decide +kernel
theorem i210_101 : ts_ins 210 101 = some (.iload 4, 103, 0) := by decide +kernel
theorem i210_103 : ts_ins 210 103 = some (.iload 5, 105, 0) := by decide +kernel
theorem i210_105 : ts_ins 210 105 = some (.iconst 1, 106, 0) := by decide +kernel
theorem i210_106 : ts_ins 210 106 = some (.iload_n 2, 107, 0) := by decide +kernel
theorem i210_107 : ts_ins 210 107 = some (.invokevirtual 280, 110, 0) := by decide +kernel
theorem g210_107 : ts_cal (ts_mc 210) 280 = some (0, 209, 4) := by decide +kernel
theorem i210_110 : ts_ins 210 110 = some (.iload 6, 112, 0) := by decide +kernel
theorem i210_112 : ts_ins 210 112 = some (.if_icmp .ne 8, 115, 120) := by decide +kernel
theorem i210_115 : ts_ins 210 115 = some (.bipush 16, 117, 0) := by decide +kernel
theorem i210_117 : ts_ins 210 117 = some (.goto 4, 120, 121) := by decide +kernel
theorem i210_120 : ts_ins 210 120 = some (.iconst (-1), 121, 0) := by decide +kernel
theorem i210_121 : ts_ins 210 121 = some (.istore 7, 123, 0) := by decide +kernel
theorem i210_123 : ts_ins 210 123 = some (.iconst 0, 124, 0) := by decide +kernel
theorem i210_124 : ts_ins 210 124 = some (.istore 8, 126, 0) := by decide +kernel
theorem i210_126 : ts_ins 210 126 = some (.iload 8, 128, 0) := by decide +kernel
theorem i210_128 : ts_ins 210 128 = some (.bipush 16, 130, 0) := by decide +kernel
theorem i210_130 : ts_ins 210 130 = some (.if_icmp .ge 92, 133, 222) := by decide +kernel
theorem i210_133 : ts_ins 210 133 = some (.iload 7, 135, 0) := by decide +kernel
theorem i210_135 : ts_ins 210 135 = some (.ifCond .ge 87, 138, 222) := by decide +kernel
theorem i210_138 : ts_ins 210 138 = some (.aload_n 0, 139, 0) := by decide +kernel
theorem i210_139 : ts_ins 210 139 = some (.iload 4, 141, 0) := by decide +kernel
theorem i210_141 : ts_ins 210 141 = some (.iload 8, 143, 0) := by decide +kernel
theorem i210_143 : ts_ins 210 143 = some (.invokevirtual 201, 146, 0) := by decide +kernel
theorem g210_143 : ts_cal (ts_mc 210) 201 = some (0, 173, 2) := by decide +kernel
theorem i210_146 : ts_ins 210 146 = some (.ifCond .eq 70, 149, 216) := by decide +kernel
theorem i210_149 : ts_ins 210 149 = some (.aload_n 0, 150, 0) := by decide +kernel
theorem i210_150 : ts_ins 210 150 = some (.getfield 34, 153, 0) := by decide +kernel
theorem g210_150 : ts_fm 210 34 = some (12, 19, 2) := by decide +kernel
theorem i210_153 : ts_ins 210 153 = some (.iload 8, 155, 0) := by decide +kernel
theorem i210_155 : ts_ins 210 155 = some (.iaload, 156, 0) := by decide +kernel
theorem i210_156 : ts_ins 210 156 = some (.ifCond .le 7, 159, 163) := by decide +kernel
theorem i210_159 : ts_ins 210 159 = some (.iconst 1, 160, 0) := by decide +kernel
theorem i210_160 : ts_ins 210 160 = some (.goto 4, 163, 164) := by decide +kernel
theorem i210_163 : ts_ins 210 163 = some (.iconst 0, 164, 0) := by decide +kernel
theorem i210_164 : ts_ins 210 164 = some (.istore 9, 166, 0) := by decide +kernel
theorem i210_166 : ts_ins 210 166 = some (.aload_n 0, 167, 0) := by decide +kernel
theorem i210_167 : ts_ins 210 167 = some (.getfield 34, 170, 0) := by decide +kernel
theorem g210_167 : ts_fm 210 34 = some (12, 19, 2) := by decide +kernel
theorem i210_170 : ts_ins 210 170 = some (.iload 8, 172, 0) := by decide +kernel
theorem i210_172 : ts_ins 210 172 = some (.dup2, 173, 0) := by decide +kernel
theorem i210_173 : ts_ins 210 173 = some (.iaload, 174, 0) := by decide +kernel
theorem i210_174 : ts_ins 210 174 = some (.iload 9, 176, 0) := by decide +kernel
theorem i210_176 : ts_ins 210 176 = some (.isub, 177, 0) := by decide +kernel
theorem i210_177 : ts_ins 210 177 = some (.iastore, 178, 0) := by decide +kernel
theorem i210_178 : ts_ins 210 178 = some (.aload_n 0, 179, 0) := by decide +kernel
theorem i210_179 : ts_ins 210 179 = some (.iload 4, 181, 0) := by decide +kernel
theorem i210_181 : ts_ins 210 181 = some (.iload 5, 183, 0) := by decide +kernel
theorem i210_183 : ts_ins 210 183 = some (.iconst 1, 184, 0) := by decide +kernel
theorem i210_184 : ts_ins 210 184 = some (.iload_n 2, 185, 0) := by decide +kernel
theorem i210_185 : ts_ins 210 185 = some (.invokevirtual 280, 188, 0) := by decide +kernel
theorem g210_185 : ts_cal (ts_mc 210) 280 = some (0, 209, 4) := by decide +kernel
theorem i210_188 : ts_ins 210 188 = some (.iload 9, 190, 0) := by decide +kernel
theorem i210_190 : ts_ins 210 190 = some (.iadd, 191, 0) := by decide +kernel
theorem i210_191 : ts_ins 210 191 = some (.iload 6, 193, 0) := by decide +kernel
theorem i210_193 : ts_ins 210 193 = some (.if_icmp .ne 8, 196, 201) := by decide +kernel
theorem i210_196 : ts_ins 210 196 = some (.iload 8, 198, 0) := by decide +kernel
theorem i210_198 : ts_ins 210 198 = some (.goto 4, 201, 202) := by decide +kernel
theorem i210_201 : ts_ins 210 201 = some (.iconst (-1), 202, 0) := by decide +kernel
theorem i210_202 : ts_ins 210 202 = some (.istore 7, 204, 0) := by decide +kernel
theorem i210_204 : ts_ins 210 204 = some (.aload_n 0, 205, 0) := by decide +kernel
theorem i210_205 : ts_ins 210 205 = some (.getfield 34, 208, 0) := by decide +kernel
theorem g210_205 : ts_fm 210 34 = some (12, 19, 2) := by decide +kernel
theorem i210_208 : ts_ins 210 208 = some (.iload 8, 210, 0) := by decide +kernel
theorem i210_210 : ts_ins 210 210 = some (.dup2, 211, 0) := by decide +kernel
theorem i210_211 : ts_ins 210 211 = some (.iaload, 212, 0) := by decide +kernel
theorem i210_212 : ts_ins 210 212 = some (.iload 9, 214, 0) := by decide +kernel
theorem i210_214 : ts_ins 210 214 = some (.iadd, 215, 0) := by decide +kernel
theorem i210_215 : ts_ins 210 215 = some (.iastore, 216, 0) := by decide +kernel
theorem i210_216 : ts_ins 210 216 = some (.iinc 8 1, 219, 0) := by decide +kernel
theorem i210_219 : ts_ins 210 219 = some (.goto (-93), 222, 126) := by decide +kernel
theorem i210_222 : ts_ins 210 222 = some (.iload 7, 224, 0) := by decide +kernel
theorem i210_224 : ts_ins 210 224 = some (.ireturn, 225, 0) := by decide +kernel
theorem r210 : ts_rt 210 = ((some .int), 0, 0) := by decide +kernel
theorem l210 : ts_ml 210 = 10 := by decide +kernel
theorem i92_0 : ts_ins 92 0 = some (.iload_n 3, 1, 0) := by decide +kernel
theorem i92_1 : ts_ins 92 1 = some (.ifCond .gt 5, 4, 6) := by decide +kernel
theorem i92_4 : ts_ins 92 4 = some (.iconst 0, 5, 0) := by decide +kernel
theorem i92_5 : ts_ins 92 5 = some (.ireturn, 6, 0) := by decide +kernel
theorem i92_6 : ts_ins 92 6 = some (.iload_n 1, 7, 0) := by decide +kernel
theorem i92_7 : ts_ins 92 7 = some (.iload_n 0, 8, 0) := by decide +kernel
theorem i92_8 : ts_ins 92 8 = some (.iload_n 2, 9, 0) := by decide +kernel
theorem i92_9 : ts_ins 92 9 = some (.iload_n 3, 10, 0) := by decide +kernel
theorem i92_10 : ts_ins 92 10 = some (.iconst 1, 11, 0) := by decide +kernel
theorem i92_11 : ts_ins 92 11 = some (.isub, 12, 0) := by decide +kernel
theorem i92_12 : ts_ins 92 12 = some (.invokestatic 60, 15, 0) := by decide +kernel
theorem g92_12 : ts_cal (ts_mc 92) 60 = some (1, 92, 4) := by decide +kernel
theorem i92_15 : ts_ins 92 15 = some (.ineg, 16, 0) := by decide +kernel
theorem i92_16 : ts_ins 92 16 = some (.istore 4, 18, 0) := by decide +kernel
theorem i92_18 : ts_ins 92 18 = some (.iload_n 0, 19, 0) := by decide +kernel
theorem i92_19 : ts_ins 92 19 = some (.ifCond .le 23, 22, 42) := by decide +kernel
theorem i92_22 : ts_ins 92 22 = some (.iload 4, 24, 0) := by decide +kernel
theorem i92_24 : ts_ins 92 24 = some (.iconst 1, 25, 0) := by decide +kernel
theorem i92_25 : ts_ins 92 25 = some (.iload_n 1, 26, 0) := by decide +kernel
theorem i92_26 : ts_ins 92 26 = some (.iload_n 0, 27, 0) := by decide +kernel
theorem i92_27 : ts_ins 92 27 = some (.iconst 1, 28, 0) := by decide +kernel
theorem i92_28 : ts_ins 92 28 = some (.isub, 29, 0) := by decide +kernel
theorem i92_29 : ts_ins 92 29 = some (.iload_n 2, 30, 0) := by decide +kernel
theorem i92_30 : ts_ins 92 30 = some (.iload_n 3, 31, 0) := by decide +kernel
theorem i92_31 : ts_ins 92 31 = some (.iconst 1, 32, 0) := by decide +kernel
theorem i92_32 : ts_ins 92 32 = some (.isub, 33, 0) := by decide +kernel
theorem i92_33 : ts_ins 92 33 = some (.invokestatic 60, 36, 0) := by decide +kernel
theorem g92_33 : ts_cal (ts_mc 92) 60 = some (1, 92, 4) := by decide +kernel
theorem i92_36 : ts_ins 92 36 = some (.isub, 37, 0) := by decide +kernel
theorem i92_37 : ts_ins 92 37 = some (.invokestatic 45, 40, 0) := by decide +kernel
theorem g92_37 : ts_cal (ts_mc 92) 45 = some (5, 0, 2) := by decide +kernel
theorem i92_40 : ts_ins 92 40 = some (.istore 4, 42, 0) := by decide +kernel
theorem i92_42 : ts_ins 92 42 = some (.iload_n 2, 43, 0) := by decide +kernel
theorem i92_43 : ts_ins 92 43 = some (.ifCond .le 23, 46, 66) := by decide +kernel
theorem i92_46 : ts_ins 92 46 = some (.iload 4, 48, 0) := by decide +kernel
theorem i92_48 : ts_ins 92 48 = some (.iconst 1, 49, 0) := by decide +kernel
theorem i92_49 : ts_ins 92 49 = some (.iload_n 1, 50, 0) := by decide +kernel
theorem i92_50 : ts_ins 92 50 = some (.iload_n 0, 51, 0) := by decide +kernel
theorem i92_51 : ts_ins 92 51 = some (.iload_n 2, 52, 0) := by decide +kernel
theorem i92_52 : ts_ins 92 52 = some (.iconst 1, 53, 0) := by decide +kernel
theorem i92_53 : ts_ins 92 53 = some (.isub, 54, 0) := by decide +kernel
theorem i92_54 : ts_ins 92 54 = some (.iload_n 3, 55, 0) := by decide +kernel
theorem i92_55 : ts_ins 92 55 = some (.iconst 1, 56, 0) := by decide +kernel
theorem i92_56 : ts_ins 92 56 = some (.isub, 57, 0) := by decide +kernel
theorem i92_57 : ts_ins 92 57 = some (.invokestatic 60, 60, 0) := by decide +kernel
theorem g92_57 : ts_cal (ts_mc 92) 60 = some (1, 92, 4) := by decide +kernel
theorem i92_60 : ts_ins 92 60 = some (.isub, 61, 0) := by decide +kernel
theorem i92_61 : ts_ins 92 61 = some (.invokestatic 45, 64, 0) := by decide +kernel
theorem g92_61 : ts_cal (ts_mc 92) 45 = some (5, 0, 2) := by decide +kernel
theorem i92_64 : ts_ins 92 64 = some (.istore 4, 66, 0) := by decide +kernel
theorem i92_66 : ts_ins 92 66 = some (.iload 4, 68, 0) := by decide +kernel
theorem i92_68 : ts_ins 92 68 = some (.ireturn, 69, 0) := by decide +kernel
theorem r92 : ts_rt 92 = ((some .int), 0, 0) := by decide +kernel
theorem l92 : ts_ml 92 = 5 := by decide +kernel
/-! BY TURNS: both sides -/
/-- what it answers: that, and the first plank -/
def g_rest (f : ts_Fl) (a b n : Int) : Int := pv f a b (n - 1).toNat 1 (f_corn f)
def g_pl (f : ts_Fl) (a b n p : Int) : Int := pv f a b (n - 1).toNat 1 (cm (f_corn f) p) + tk (f_corn f) p
def g_byO (f : ts_Fl) (a b n w : Int) : Int := if w = 0 then pv f a b n.toNat 0 (f_corn f) else if g_rest f a b n = pv f a b n.toNat 0 (f_corn f) then 16 else zfd 16 (fun p => f_can f a p ∧ g_pl f a b n p = pv f a b n.toNat 0 (f_corn f)) (-1) 0
def g_byA (f : ts_Fl) (ab n w : Int) : Int := if ¬ (0 ≤ ab ∧ (1 ≤ n ∧ n ≤ 4) ∧ (0 ≤ w ∧ w ≤ 1) ∧ ¬ ab / 10 = ab % 10 ∧ ab / 10 < f_men f ∧ ab % 10 < f_men f) then -2000000000 else g_byO f (ab / 10) (ab % 10) n w
section BT
variable {X : ts_X} {I J : Nat → Nat → Int32} {L : Nat → Nat → Int64} {sw : Bool} {K : Option Value → ts_H → Prop} {d : Nat} {f : ts_Fl}
theorem cm_back {c : Int → Int} {p : Int} : zu (cm c p) p (c p - tk c p + tk c p) = c := by
  funext q
  unfold cm zu
  by_cases e : q = p
  · rw [if_pos e, e]; omega
  · rw [if_neg e, if_neg e]
theorem m_playsFrom (hM : RM I f) {a b n : Int} (ha : 0 ≤ a ∧ a < 4) (hb : 0 ≤ b ∧ b < 4) (hn : 0 ≤ n ∧ n ≤ 4) : ∀ t : Nat, ∀ k : Int, ∀ c J K, 0 ≤ k → k + t = n → fr fcm I J → ar J 81 16 0 9 c → (∀ M, fr fcm I M → ar M 81 16 0 9 c → K (some (.int (zI (pv f a b t k c)))) (M, L, ts_P0 sw, ts_S0)) → ts_Cal X (d + t + 3) 209 [.ref 72, .int (zI (a)), .int (zI (b)), .int (zI (k)), .int (zI (n))] (J, L, ts_P0 sw, ts_S0) K := by
  intro t
  induction t with
  | zero =>
    intro k c J K hk hkt hJ hc hK
    refine ev_enter (lv := [.ref 72, .int (zI (a)), .int (zI (b)), .int (zI (k)), .int (zI (n)), .null, .null, .null, .null, .null]) l209 rfl (Nat.le_of_ble_eq_true rfl) ?_
    refine ev_iloadn_3 i209_0 ?_
    refine ev_iload_4 i209_1 ?_
    refine ew_icmpne i209_3 (by omega) (fun c3 => ?_) (fun c3 => ?_)
    · exfalso; omega
    · refine ew_iconst i209_6 ?_
      refine ev_ireturn i209_7 r209 ?_
      exact hK J hJ hc
  | succ t ih =>
    intro k c J K hk hkt hJ hc hK
    have c0 : ∀ p, 0 ≤ p → p < 16 → 0 ≤ c p := fun p p0 p1 => (hc p p0 p1).2.1
    have go : ∀ m, m = (if k % 2 = 0 then a else b) → (0 ≤ m ∧ m < 4) → ts_Ev X (ts_Cal X (d + (t + 1) + 2)) 209 ts_S0 K 21 [.ref 72, .int (zI (a)), .int (zI (b)), .int (zI (k)), .int (zI (n)), .int (zI (m)), .null, .null, .null, .null] [] (J, L, ts_P0 sw, ts_S0) := by
      intro m hm hm4
      have hpv : pv f a b (t + 1) k c = zwh 16 (fun p best => if f_can f m p then (if k % 2 = 0 then (if best < pv f a b t (k + 1) (cm c p) + tk c p then pv f a b t (k + 1) (cm c p) + tk c p else best) else (if pv f a b t (k + 1) (cm c p) + -tk c p < best then pv f a b t (k + 1) (cm c p) + -tk c p else best)) else best) 0 (pv f a b t (k + 1) c) := by rw [hm]; rfl
      have loop : ∀ p : Int, 0 ≤ p → p ≤ 16 → ∀ best M o o2, -5 ≤ best → best ≤ 5 → fr fcm I M → ar M 81 16 0 9 c → zwh 16 (fun p best => if f_can f m p then (if k % 2 = 0 then (if best < pv f a b t (k + 1) (cm c p) + tk c p then pv f a b t (k + 1) (cm c p) + tk c p else best) else (if pv f a b t (k + 1) (cm c p) + -tk c p < best then pv f a b t (k + 1) (cm c p) + -tk c p else best)) else best) p best = pv f a b (t + 1) k c → ts_Ev X (ts_Cal X (d + (t + 1) + 2)) 209 ts_S0 K 37 [.ref 72, .int (zI (a)), .int (zI (b)), .int (zI (k)), .int (zI (n)), .int (zI (m)), .int (zI (best)), .int (zI (p)), o, o2] [] (M, L, ts_P0 sw, ts_S0) := by
        refine ts_ind 16 (fun p ihp p0 p1 best M o o2 b0 b1 hM1 hc1 hz => ?_)
        have hM2 := hM.fcm hM1
        have ct : tk c p = if 0 < c p then 1 else 0 := rfl
        have pr := pv_r (f := f) (a := a) (b := b) t (k + 1) (cm c p) (by omega) (cm_nn c0)
        have tr := tk_r c p
        have body : p < 16 → f_can f m p → ∀ v, v = tk c p → ts_Ev X (ts_Cal X (d + (t + 1) + 2)) 209 ts_S0 K 72 [.ref 72, .int (zI (a)), .int (zI (b)), .int (zI (k)), .int (zI (n)), .int (zI (m)), .int (zI (best)), .int (zI (p)), .int (zI (v)), o2] [] (M, L, ts_P0 sw, ts_S0) := by
          intro hp16 hcan v hv
          subst hv
          have cr := (hc1 p p0 hp16).2
          have hc2 : ar (ts_up M 81 p.toNat (zI (c p - tk c p))) 81 16 0 9 (cm c p) := ar_up hc1 p0 (by omega)
          rw [zwh_1 (by omega), if_pos hcan] at hz
          refine ev_aloadn_0 i209_72 ?_
          refine ev_getA i209_73 g209_73 rfl rfl (by decide) ?_
          refine ev_iload_7 i209_76 ?_
          refine ev_dup2 i209_78 ?_
          refine ew_iaload i209_79 rfl (by omega) (by omega) (by omega) ((hc1 p p0 hp16)) (fun b79 => ?_)
          refine ev_iload_8 i209_80 ?_
          refine ew_isub i209_82 ?_
          refine ew_iastore i209_83 rfl (by omega) (by omega) (by omega) ?_
          refine ev_aloadn_0 i209_84 ?_
          refine ev_iloadn_1 i209_85 ?_
          refine ev_iloadn_2 i209_86 ?_
          refine ev_iloadn_3 i209_87 ?_
          refine ew_iconst i209_88 ?_
          refine ew_iadd i209_89 ?_
          refine ev_iload_4 i209_90 ?_
          refine ev_virt4 i209_92 g209_92 rfl (by decide +kernel) (Nat.le_of_ble_eq_true rfl) (ih (k + 1) (cm c p) _ _ (by omega) (by omega) (fr_up hM1 (by omega)) hc2 (fun N h3 h4 => ?_))
          refine ev_iloadn_3 i209_95 ?_
          refine ew_iconst i209_96 ?_
          refine ew_irem i209_97 (by omega) (by omega) ?_
          first
          | refine ew_ifneB i209_98 (fun c98 => ?_) (fun c98 => ?_)
          | refine ew_ifne i209_98 (by omega) (fun c98 => ?_) (fun c98 => ?_)
          · refine ev_iload_8 i209_106 ?_
            refine ew_ineg i209_108 ?_
            refine ew_iadd i209_109 ?_
            refine ev_istore_9 i209_110 rfl ?_
            refine ev_aloadn_0 i209_112 ?_
            refine ev_getA i209_113 g209_113 rfl rfl (by decide) ?_
            refine ev_iload_7 i209_116 ?_
            refine ev_dup2 i209_118 ?_
            refine ew_iaload i209_119 rfl (by omega) (by omega) (by omega) ((by have q := h4 p p0 hp16; rw [show cm c p p = c p - tk c p from zu_e _ _ _] at q; exact q)) (fun b119 => ?_)
            refine ev_iload_8 i209_120 ?_
            refine ew_iadd i209_122 ?_
            refine ew_iastore i209_123 rfl (by omega) (by omega) (by omega) ?_
            refine ev_iloadn_3 i209_124 ?_
            refine ew_iconst i209_125 ?_
            refine ew_irem i209_126 (by omega) (by omega) ?_
            first
            | refine ew_ifneB i209_127 (fun c127 => ?_) (fun c127 => ?_)
            | refine ew_ifne i209_127 (by omega) (fun c127 => ?_) (fun c127 => ?_)
            · refine ev_iload_9 i209_147 ?_
              refine ev_iload_6 i209_149 ?_
              refine ew_icmpge i209_151 (by omega) (fun c151 => ?_) (fun c151 => ?_)
              · refine ev_iload_6 i209_159 ?_
                refine ev_istore_6 i209_161 rfl ?_
                have h5 : ar (ts_up N 81 p.toNat (zI (c p - tk c p + tk c p))) 81 16 0 9 c := by
                  have q := ar_up h4 p0 (v := c p - tk c p + tk c p) (by omega)
                  rw [cm_back] at q
                  exact q
                refine ew_iinc_7 i209_163 rfl ?_
                refine ev_goto i209_166 ?_
                first
                | (rw [if_pos c98, if_pos (by omega)] at hz
                   exact ihp (by omega) (by omega) (by omega) _ _ _ _ (by omega) (by omega) (fr_up h3 (by omega)) h5 hz)
                | (rw [if_pos c98, if_neg (by omega)] at hz
                   exact ihp (by omega) (by omega) (by omega) _ _ _ _ (by omega) (by omega) (fr_up h3 (by omega)) h5 hz)
                | (rw [if_neg c98, if_pos (by omega)] at hz
                   exact ihp (by omega) (by omega) (by omega) _ _ _ _ (by omega) (by omega) (fr_up h3 (by omega)) h5 hz)
                | (rw [if_neg c98, if_neg (by omega)] at hz
                   exact ihp (by omega) (by omega) (by omega) _ _ _ _ (by omega) (by omega) (fr_up h3 (by omega)) h5 hz)
                | (exfalso; omega)
              · refine ev_iload_9 i209_154 ?_
                refine ev_goto i209_156 ?_
                refine ev_istore_6 i209_161 rfl ?_
                have h5 : ar (ts_up N 81 p.toNat (zI (c p - tk c p + tk c p))) 81 16 0 9 c := by
                  have q := ar_up h4 p0 (v := c p - tk c p + tk c p) (by omega)
                  rw [cm_back] at q
                  exact q
                refine ew_iinc_7 i209_163 rfl ?_
                refine ev_goto i209_166 ?_
                first
                | (rw [if_pos c98, if_pos (by omega)] at hz
                   exact ihp (by omega) (by omega) (by omega) _ _ _ _ (by omega) (by omega) (fr_up h3 (by omega)) h5 hz)
                | (rw [if_pos c98, if_neg (by omega)] at hz
                   exact ihp (by omega) (by omega) (by omega) _ _ _ _ (by omega) (by omega) (fr_up h3 (by omega)) h5 hz)
                | (rw [if_neg c98, if_pos (by omega)] at hz
                   exact ihp (by omega) (by omega) (by omega) _ _ _ _ (by omega) (by omega) (fr_up h3 (by omega)) h5 hz)
                | (rw [if_neg c98, if_neg (by omega)] at hz
                   exact ihp (by omega) (by omega) (by omega) _ _ _ _ (by omega) (by omega) (fr_up h3 (by omega)) h5 hz)
                | (exfalso; omega)
            · refine ev_iload_9 i209_130 ?_
              refine ev_iload_6 i209_132 ?_
              refine ew_icmple i209_134 (by omega) (fun c134 => ?_) (fun c134 => ?_)
              · refine ev_iload_6 i209_142 ?_
                refine ev_goto i209_144 ?_
                refine ev_istore_6 i209_161 rfl ?_
                have h5 : ar (ts_up N 81 p.toNat (zI (c p - tk c p + tk c p))) 81 16 0 9 c := by
                  have q := ar_up h4 p0 (v := c p - tk c p + tk c p) (by omega)
                  rw [cm_back] at q
                  exact q
                refine ew_iinc_7 i209_163 rfl ?_
                refine ev_goto i209_166 ?_
                first
                | (rw [if_pos c98, if_pos (by omega)] at hz
                   exact ihp (by omega) (by omega) (by omega) _ _ _ _ (by omega) (by omega) (fr_up h3 (by omega)) h5 hz)
                | (rw [if_pos c98, if_neg (by omega)] at hz
                   exact ihp (by omega) (by omega) (by omega) _ _ _ _ (by omega) (by omega) (fr_up h3 (by omega)) h5 hz)
                | (rw [if_neg c98, if_pos (by omega)] at hz
                   exact ihp (by omega) (by omega) (by omega) _ _ _ _ (by omega) (by omega) (fr_up h3 (by omega)) h5 hz)
                | (rw [if_neg c98, if_neg (by omega)] at hz
                   exact ihp (by omega) (by omega) (by omega) _ _ _ _ (by omega) (by omega) (fr_up h3 (by omega)) h5 hz)
                | (exfalso; omega)
              · refine ev_iload_9 i209_137 ?_
                refine ev_goto i209_139 ?_
                refine ev_istore_6 i209_161 rfl ?_
                have h5 : ar (ts_up N 81 p.toNat (zI (c p - tk c p + tk c p))) 81 16 0 9 c := by
                  have q := ar_up h4 p0 (v := c p - tk c p + tk c p) (by omega)
                  rw [cm_back] at q
                  exact q
                refine ew_iinc_7 i209_163 rfl ?_
                refine ev_goto i209_166 ?_
                first
                | (rw [if_pos c98, if_pos (by omega)] at hz
                   exact ihp (by omega) (by omega) (by omega) _ _ _ _ (by omega) (by omega) (fr_up h3 (by omega)) h5 hz)
                | (rw [if_pos c98, if_neg (by omega)] at hz
                   exact ihp (by omega) (by omega) (by omega) _ _ _ _ (by omega) (by omega) (fr_up h3 (by omega)) h5 hz)
                | (rw [if_neg c98, if_pos (by omega)] at hz
                   exact ihp (by omega) (by omega) (by omega) _ _ _ _ (by omega) (by omega) (fr_up h3 (by omega)) h5 hz)
                | (rw [if_neg c98, if_neg (by omega)] at hz
                   exact ihp (by omega) (by omega) (by omega) _ _ _ _ (by omega) (by omega) (fr_up h3 (by omega)) h5 hz)
                | (exfalso; omega)
          · refine ev_iload_8 i209_101 ?_
            refine ev_goto i209_103 ?_
            refine ew_iadd i209_109 ?_
            refine ev_istore_9 i209_110 rfl ?_
            refine ev_aloadn_0 i209_112 ?_
            refine ev_getA i209_113 g209_113 rfl rfl (by decide) ?_
            refine ev_iload_7 i209_116 ?_
            refine ev_dup2 i209_118 ?_
            refine ew_iaload i209_119 rfl (by omega) (by omega) (by omega) ((by have q := h4 p p0 hp16; rw [show cm c p p = c p - tk c p from zu_e _ _ _] at q; exact q)) (fun b119 => ?_)
            refine ev_iload_8 i209_120 ?_
            refine ew_iadd i209_122 ?_
            refine ew_iastore i209_123 rfl (by omega) (by omega) (by omega) ?_
            refine ev_iloadn_3 i209_124 ?_
            refine ew_iconst i209_125 ?_
            refine ew_irem i209_126 (by omega) (by omega) ?_
            first
            | refine ew_ifneB i209_127 (fun c127 => ?_) (fun c127 => ?_)
            | refine ew_ifne i209_127 (by omega) (fun c127 => ?_) (fun c127 => ?_)
            · refine ev_iload_9 i209_147 ?_
              refine ev_iload_6 i209_149 ?_
              refine ew_icmpge i209_151 (by omega) (fun c151 => ?_) (fun c151 => ?_)
              · refine ev_iload_6 i209_159 ?_
                refine ev_istore_6 i209_161 rfl ?_
                have h5 : ar (ts_up N 81 p.toNat (zI (c p - tk c p + tk c p))) 81 16 0 9 c := by
                  have q := ar_up h4 p0 (v := c p - tk c p + tk c p) (by omega)
                  rw [cm_back] at q
                  exact q
                refine ew_iinc_7 i209_163 rfl ?_
                refine ev_goto i209_166 ?_
                first
                | (rw [if_pos c98, if_pos (by omega)] at hz
                   exact ihp (by omega) (by omega) (by omega) _ _ _ _ (by omega) (by omega) (fr_up h3 (by omega)) h5 hz)
                | (rw [if_pos c98, if_neg (by omega)] at hz
                   exact ihp (by omega) (by omega) (by omega) _ _ _ _ (by omega) (by omega) (fr_up h3 (by omega)) h5 hz)
                | (rw [if_neg c98, if_pos (by omega)] at hz
                   exact ihp (by omega) (by omega) (by omega) _ _ _ _ (by omega) (by omega) (fr_up h3 (by omega)) h5 hz)
                | (rw [if_neg c98, if_neg (by omega)] at hz
                   exact ihp (by omega) (by omega) (by omega) _ _ _ _ (by omega) (by omega) (fr_up h3 (by omega)) h5 hz)
                | (exfalso; omega)
              · refine ev_iload_9 i209_154 ?_
                refine ev_goto i209_156 ?_
                refine ev_istore_6 i209_161 rfl ?_
                have h5 : ar (ts_up N 81 p.toNat (zI (c p - tk c p + tk c p))) 81 16 0 9 c := by
                  have q := ar_up h4 p0 (v := c p - tk c p + tk c p) (by omega)
                  rw [cm_back] at q
                  exact q
                refine ew_iinc_7 i209_163 rfl ?_
                refine ev_goto i209_166 ?_
                first
                | (rw [if_pos c98, if_pos (by omega)] at hz
                   exact ihp (by omega) (by omega) (by omega) _ _ _ _ (by omega) (by omega) (fr_up h3 (by omega)) h5 hz)
                | (rw [if_pos c98, if_neg (by omega)] at hz
                   exact ihp (by omega) (by omega) (by omega) _ _ _ _ (by omega) (by omega) (fr_up h3 (by omega)) h5 hz)
                | (rw [if_neg c98, if_pos (by omega)] at hz
                   exact ihp (by omega) (by omega) (by omega) _ _ _ _ (by omega) (by omega) (fr_up h3 (by omega)) h5 hz)
                | (rw [if_neg c98, if_neg (by omega)] at hz
                   exact ihp (by omega) (by omega) (by omega) _ _ _ _ (by omega) (by omega) (fr_up h3 (by omega)) h5 hz)
                | (exfalso; omega)
            · refine ev_iload_9 i209_130 ?_
              refine ev_iload_6 i209_132 ?_
              refine ew_icmple i209_134 (by omega) (fun c134 => ?_) (fun c134 => ?_)
              · refine ev_iload_6 i209_142 ?_
                refine ev_goto i209_144 ?_
                refine ev_istore_6 i209_161 rfl ?_
                have h5 : ar (ts_up N 81 p.toNat (zI (c p - tk c p + tk c p))) 81 16 0 9 c := by
                  have q := ar_up h4 p0 (v := c p - tk c p + tk c p) (by omega)
                  rw [cm_back] at q
                  exact q
                refine ew_iinc_7 i209_163 rfl ?_
                refine ev_goto i209_166 ?_
                first
                | (rw [if_pos c98, if_pos (by omega)] at hz
                   exact ihp (by omega) (by omega) (by omega) _ _ _ _ (by omega) (by omega) (fr_up h3 (by omega)) h5 hz)
                | (rw [if_pos c98, if_neg (by omega)] at hz
                   exact ihp (by omega) (by omega) (by omega) _ _ _ _ (by omega) (by omega) (fr_up h3 (by omega)) h5 hz)
                | (rw [if_neg c98, if_pos (by omega)] at hz
                   exact ihp (by omega) (by omega) (by omega) _ _ _ _ (by omega) (by omega) (fr_up h3 (by omega)) h5 hz)
                | (rw [if_neg c98, if_neg (by omega)] at hz
                   exact ihp (by omega) (by omega) (by omega) _ _ _ _ (by omega) (by omega) (fr_up h3 (by omega)) h5 hz)
                | (exfalso; omega)
              · refine ev_iload_9 i209_137 ?_
                refine ev_goto i209_139 ?_
                refine ev_istore_6 i209_161 rfl ?_
                have h5 : ar (ts_up N 81 p.toNat (zI (c p - tk c p + tk c p))) 81 16 0 9 c := by
                  have q := ar_up h4 p0 (v := c p - tk c p + tk c p) (by omega)
                  rw [cm_back] at q
                  exact q
                refine ew_iinc_7 i209_163 rfl ?_
                refine ev_goto i209_166 ?_
                first
                | (rw [if_pos c98, if_pos (by omega)] at hz
                   exact ihp (by omega) (by omega) (by omega) _ _ _ _ (by omega) (by omega) (fr_up h3 (by omega)) h5 hz)
                | (rw [if_pos c98, if_neg (by omega)] at hz
                   exact ihp (by omega) (by omega) (by omega) _ _ _ _ (by omega) (by omega) (fr_up h3 (by omega)) h5 hz)
                | (rw [if_neg c98, if_pos (by omega)] at hz
                   exact ihp (by omega) (by omega) (by omega) _ _ _ _ (by omega) (by omega) (fr_up h3 (by omega)) h5 hz)
                | (rw [if_neg c98, if_neg (by omega)] at hz
                   exact ihp (by omega) (by omega) (by omega) _ _ _ _ (by omega) (by omega) (fr_up h3 (by omega)) h5 hz)
                | (exfalso; omega)
        refine ev_iload_7 i209_37 ?_
        refine ew_bipush i209_39 (by decide) ?_
        refine ew_icmpge i209_41 (by omega) (fun c41 => ?_) (fun c41 => ?_)
        · refine ev_iload_6 i209_169 ?_
          refine ev_ireturn i209_171 r209 ?_
          rw [zwh_0 (by omega)] at hz
          rw [hz]
          exact hK M hM1 hc1
        · refine ev_aloadn_0 i209_44 ?_
          refine ev_iload_5 i209_45 ?_
          refine ev_iload_7 i209_47 ?_
          refine ev_virt2 i209_49 g209_49 rfl (by decide +kernel) (Nat.le_of_ble_eq_true rfl) (m_reaches hM2 hm4.1 hm4.2 p0 (by omega) ?_)
          first
          | refine ew_ifeqB i209_52 (fun c52 => ?_) (fun c52 => ?_)
          | refine ew_ifeq i209_52 (by omega) (fun c52 => ?_) (fun c52 => ?_)
          · rw [zwh_1 (by omega), if_neg c52] at hz
            refine ew_iinc_7 i209_163 rfl ?_
            refine ev_goto i209_166 ?_
            exact ihp (by omega) (by omega) (by omega) _ _ _ _ (by omega) (by omega) hM1 hc1 hz
          · refine ev_aloadn_0 i209_55 ?_
            refine ev_getA i209_56 g209_56 rfl rfl (by decide) ?_
            refine ev_iload_7 i209_59 ?_
            refine ew_iaload i209_61 rfl (by omega) (by omega) (by omega) ((hc1 p p0 (by omega))) (fun b61 => ?_)
            refine ew_ifle i209_62 (by omega) (fun c62 => ?_) (fun c62 => ?_)
            · refine ew_iconst i209_69 ?_
              refine ev_istore_8 i209_70 rfl ?_
              first
              | exact body (by omega) c52 1 (by omega)
              | exact body (by omega) c52 0 (by omega)
            · refine ew_iconst i209_65 ?_
              refine ev_goto i209_66 ?_
              refine ev_istore_8 i209_70 rfl ?_
              first
              | exact body (by omega) c52 1 (by omega)
              | exact body (by omega) c52 0 (by omega)
      have pr0 := pv_r (f := f) (a := a) (b := b) t (k + 1) c (by omega) c0
      refine ev_aloadn_0 i209_21 ?_
      refine ev_iloadn_1 i209_22 ?_
      refine ev_iloadn_2 i209_23 ?_
      refine ev_iloadn_3 i209_24 ?_
      refine ew_iconst i209_25 ?_
      refine ew_iadd i209_26 ?_
      refine ev_iload_4 i209_27 ?_
      refine ev_virt4 i209_29 g209_29 rfl (by decide +kernel) (Nat.le_of_ble_eq_true rfl) (ih (k + 1) c J _ (by omega) (by omega) hJ hc (fun M h1 h2 => ?_))
      refine ev_istore_6 i209_32 rfl ?_
      refine ew_iconst i209_34 ?_
      refine ev_istore_7 i209_35 rfl ?_
      exact loop 0 (by decide) (by decide) _ M _ _ (by omega) (by omega) h1 h2 hpv.symm
    refine ev_enter (lv := [.ref 72, .int (zI (a)), .int (zI (b)), .int (zI (k)), .int (zI (n)), .null, .null, .null, .null, .null]) l209 rfl (Nat.le_of_ble_eq_true rfl) ?_
    refine ev_iloadn_3 i209_0 ?_
    refine ev_iload_4 i209_1 ?_
    refine ew_icmpne i209_3 (by omega) (fun c3 => ?_) (fun c3 => ?_)
    · refine ev_iloadn_3 i209_8 ?_
      refine ew_iconst i209_9 ?_
      refine ew_irem i209_10 (by omega) (by omega) ?_
      first
      | refine ew_ifneB i209_11 (fun c11 => ?_) (fun c11 => ?_)
      | refine ew_ifne i209_11 (by omega) (fun c11 => ?_) (fun c11 => ?_)
      · refine ev_iloadn_2 i209_18 ?_
        refine ev_istore_5 i209_19 rfl ?_
        first
        | exact go a (by omega) ha
        | exact go b (by omega) hb
      · refine ev_iloadn_1 i209_14 ?_
        refine ev_goto i209_15 ?_
        refine ev_istore_5 i209_19 rfl ?_
        first
        | exact go a (by omega) ha
        | exact go b (by omega) hb
    · exfalso; omega
theorem m_plays (hM : RM I f) {a b n : Int} (ha : 0 ≤ a ∧ a < 4) (hb : 0 ≤ b ∧ b < 4) (hn : 0 ≤ n ∧ n ≤ 4) {t : Nat} {k : Int} {c : Int → Int} (hk : 0 ≤ k) (hkt : k + t = n) (hJ : fr fcm I J) (hc : ar J 81 16 0 9 c) (hK : ∀ M, fr fcm I M → ar M 81 16 0 9 c → K (some (.int (zI (pv f a b t k c)))) (M, L, ts_P0 sw, ts_S0)) : ts_Cal X (d + 7) 209 [.ref 72, .int (zI (a)), .int (zI (b)), .int (zI (k)), .int (zI (n))] (J, L, ts_P0 sw, ts_S0) K := by
  have h := m_playsFrom (X := X) (L := L) (sw := sw) (d := d + (4 - t)) hM ha hb hn t k c J K hk hkt hJ hc hK
  rw [show d + (4 - t) + t + 3 = d + 7 from by omega] at h
  exact h
theorem m_byTurns (hM : RM I f) {ab n w : Int} (hab : -2147483648 ≤ ab ∧ ab ≤ 2147483647) (hn : -2147483648 ≤ n ∧ n ≤ 2147483647) (hw : -2147483648 ≤ w ∧ w ≤ 2147483647) (hK : ∀ J, fr fcm I J → K (some (.int (zI (g_byA f ab n w)))) (J, L, ts_P0 sw, ts_S0)) : ts_Cal X (d + 8) 210 [.ref 72, .int (zI (ab)), .int (zI (n)), .int (zI (w))] (I, L, ts_P0 sw, ts_S0) K := by
  have b1 := hM.men.2
  unfold g_byA at hK
  have loop : ∀ a b, (0 ≤ a ∧ a < 4) → (0 ≤ b ∧ b < 4) → (1 ≤ n ∧ n ≤ 4) → (∀ J, fr fcm I J → K (some (.int (zI (zfd 16 (fun p => f_can f a p ∧ g_pl f a b n p = pv f a b n.toNat 0 (f_corn f)) (-1) 0)))) (J, L, ts_P0 sw, ts_S0)) → ∀ p : Int, 0 ≤ p → p ≤ 16 → ∀ best J o, fr fcm I J → ar J 81 16 0 9 (f_corn f) → ((best = -1 ∧ zfd 16 (fun p => f_can f a p ∧ g_pl f a b n p = pv f a b n.toNat 0 (f_corn f)) (-1) p = zfd 16 (fun p => f_can f a p ∧ g_pl f a b n p = pv f a b n.toNat 0 (f_corn f)) (-1) 0) ∨ (0 ≤ best ∧ best < 16 ∧ best = zfd 16 (fun p => f_can f a p ∧ g_pl f a b n p = pv f a b n.toNat 0 (f_corn f)) (-1) 0)) → ts_Ev X (ts_Cal X (d + 7)) 210 ts_S0 K 126 [.ref 72, .int (zI (ab)), .int (zI (n)), .int (zI (w)), .int (zI (a)), .int (zI (b)), .int (zI (pv f a b n.toNat 0 (f_corn f))), .int (zI (best)), .int (zI (p)), o] [] (J, L, ts_P0 sw, ts_S0) := by
    intro a b ha hb hn2 hKK
    refine ts_ind 16 (fun p ih p0 p1 best J o hJ hc hz => ?_)
    have c0 : ∀ p, 0 ≤ p → p < 16 → 0 ≤ f_corn f p := fun p p0 p1 => (hc p p0 p1).2.1
    have W := pv_r (f := f) (a := a) (b := b) n.toNat 0 (f_corn f) (by decide) c0
    have V := pv_r (f := f) (a := a) (b := b) (n - 1).toNat 1 (cm (f_corn f) p) (by decide) (cm_nn c0)
    have tr := tk_r (f_corn f) p
    have ct : tk (f_corn f) p = if 0 < f_corn f p then 1 else 0 := rfl
    have pl : g_pl f a b n p = pv f a b (n - 1).toNat 1 (cm (f_corn f) p) + tk (f_corn f) p := rfl
    have body : p < 16 → best = -1 → f_can f a p → ∀ v, v = tk (f_corn f) p → ts_Ev X (ts_Cal X (d + 7)) 210 ts_S0 K 166 [.ref 72, .int (zI (ab)), .int (zI (n)), .int (zI (w)), .int (zI (a)), .int (zI (b)), .int (zI (pv f a b n.toNat 0 (f_corn f))), .int (zI (best)), .int (zI (p)), .int (zI (v))] [] (J, L, ts_P0 sw, ts_S0) := by
      intro hp hbest hcan v hv
      subst hv
      have cr := (hc p p0 hp).2
      have hc2 : ar (ts_up J 81 p.toNat (zI (f_corn f p - tk (f_corn f) p))) 81 16 0 9 (cm (f_corn f) p) := ar_up hc p0 (by omega)
      refine ev_aloadn_0 i210_166 ?_
      refine ev_getA i210_167 g210_167 rfl rfl (by decide) ?_
      refine ev_iload_8 i210_170 ?_
      refine ev_dup2 i210_172 ?_
      refine ew_iaload i210_173 rfl (by omega) (by omega) (by omega) ((hc p p0 hp)) (fun b173 => ?_)
      refine ev_iload_9 i210_174 ?_
      refine ew_isub i210_176 ?_
      refine ew_iastore i210_177 rfl (by omega) (by omega) (by omega) ?_
      refine ev_aloadn_0 i210_178 ?_
      refine ev_iload_4 i210_179 ?_
      refine ev_iload_5 i210_181 ?_
      refine ew_iconst i210_183 ?_
      refine ev_iloadn_2 i210_184 ?_
      refine ev_virt4 i210_185 g210_185 rfl (by decide +kernel) (Nat.le_of_ble_eq_true rfl) (m_plays hM ha hb (by omega) (t := (n - 1).toNat) (c := cm (f_corn f) p) (by decide) (by omega) (fr_up hJ (by omega)) hc2 (fun N h3 h4 => ?_))
      refine ev_iload_9 i210_188 ?_
      refine ew_iadd i210_190 ?_
      refine ev_iload_6 i210_191 ?_
      refine ew_icmpne i210_193 (by omega) (fun c193 => ?_) (fun c193 => ?_)
      · refine ew_iconst i210_201 ?_
        refine ev_istore_7 i210_202 rfl ?_
        refine ev_aloadn_0 i210_204 ?_
        refine ev_getA i210_205 g210_205 rfl rfl (by decide) ?_
        refine ev_iload_8 i210_208 ?_
        refine ev_dup2 i210_210 ?_
        refine ew_iaload i210_211 rfl (by omega) (by omega) (by omega) ((by have q := h4 p p0 hp; rw [show cm (f_corn f) p p = f_corn f p - tk (f_corn f) p from zu_e _ _ _] at q; exact q)) (fun b211 => ?_)
        refine ev_iload_9 i210_212 ?_
        refine ew_iadd i210_214 ?_
        refine ew_iastore i210_215 rfl (by omega) (by omega) (by omega) ?_
        have h5 : ar (ts_up N 81 p.toNat (zI (f_corn f p - tk (f_corn f) p + tk (f_corn f) p))) 81 16 0 9 (f_corn f) := by
          have q := ar_up h4 p0 (v := f_corn f p - tk (f_corn f) p + tk (f_corn f) p) (by omega)
          rw [cm_back] at q
          exact q
        have hz2 := hz.elim (fun q => q.2) (fun q => by omega)
        rw [zfd_1 hp] at hz2
        refine ew_iinc_8 i210_216 rfl ?_
        refine ev_goto i210_219 ?_
        first
        | (rw [if_pos ⟨hcan, by omega⟩] at hz2
           exact ih (by omega) (by omega) (by omega) _ _ _ (fr_up h3 (by omega)) h5 (Or.inr ⟨p0, hp, hz2⟩))
        | (rw [if_neg (fun r => by have r2 := r.2; omega)] at hz2
           exact ih (by omega) (by omega) (by omega) _ _ _ (fr_up h3 (by omega)) h5 (Or.inl ⟨rfl, hz2⟩))
      · refine ev_iload_8 i210_196 ?_
        refine ev_goto i210_198 ?_
        refine ev_istore_7 i210_202 rfl ?_
        refine ev_aloadn_0 i210_204 ?_
        refine ev_getA i210_205 g210_205 rfl rfl (by decide) ?_
        refine ev_iload_8 i210_208 ?_
        refine ev_dup2 i210_210 ?_
        refine ew_iaload i210_211 rfl (by omega) (by omega) (by omega) ((by have q := h4 p p0 hp; rw [show cm (f_corn f) p p = f_corn f p - tk (f_corn f) p from zu_e _ _ _] at q; exact q)) (fun b211 => ?_)
        refine ev_iload_9 i210_212 ?_
        refine ew_iadd i210_214 ?_
        refine ew_iastore i210_215 rfl (by omega) (by omega) (by omega) ?_
        have h5 : ar (ts_up N 81 p.toNat (zI (f_corn f p - tk (f_corn f) p + tk (f_corn f) p))) 81 16 0 9 (f_corn f) := by
          have q := ar_up h4 p0 (v := f_corn f p - tk (f_corn f) p + tk (f_corn f) p) (by omega)
          rw [cm_back] at q
          exact q
        have hz2 := hz.elim (fun q => q.2) (fun q => by omega)
        rw [zfd_1 hp] at hz2
        refine ew_iinc_8 i210_216 rfl ?_
        refine ev_goto i210_219 ?_
        first
        | (rw [if_pos ⟨hcan, by omega⟩] at hz2
           exact ih (by omega) (by omega) (by omega) _ _ _ (fr_up h3 (by omega)) h5 (Or.inr ⟨p0, hp, hz2⟩))
        | (rw [if_neg (fun r => by have r2 := r.2; omega)] at hz2
           exact ih (by omega) (by omega) (by omega) _ _ _ (fr_up h3 (by omega)) h5 (Or.inl ⟨rfl, hz2⟩))
    refine ev_iload_8 i210_126 ?_
    refine ew_bipush i210_128 (by decide) ?_
    refine ew_icmpge i210_130 (by omega) (fun c130 => ?_) (fun c130 => ?_)
    · refine ev_iload_7 i210_222 ?_
      refine ev_ireturn i210_224 r210 ?_
      have e : best = zfd 16 (fun p => f_can f a p ∧ g_pl f a b n p = pv f a b n.toNat 0 (f_corn f)) (-1) 0 := by
        rcases hz with q | q
        · rw [← q.2, zfd_0 (by omega)]
          exact q.1
        · exact q.2.2
      rw [e]
      exact hKK J hJ
    · refine ev_iload_7 i210_133 ?_
      refine ew_ifge i210_135 (by omega) (fun c135 => ?_) (fun c135 => ?_)
      · refine ev_iload_7 i210_222 ?_
        refine ev_ireturn i210_224 r210 ?_
        have e : best = zfd 16 (fun p => f_can f a p ∧ g_pl f a b n p = pv f a b n.toNat 0 (f_corn f)) (-1) 0 := by
          rcases hz with q | q
          · rw [← q.2, zfd_0 (by omega)]
            exact q.1
          · exact q.2.2
        rw [e]
        exact hKK J hJ
      · refine ev_aloadn_0 i210_138 ?_
        refine ev_iload_4 i210_139 ?_
        refine ev_iload_8 i210_141 ?_
        refine ev_virt2 i210_143 g210_143 rfl (by decide +kernel) (Nat.le_of_ble_eq_true rfl) (m_reaches (hM.fcm hJ) ha.1 ha.2 p0 (by omega) ?_)
        first
        | refine ew_ifeqB i210_146 (fun c146 => ?_) (fun c146 => ?_)
        | refine ew_ifeq i210_146 (by omega) (fun c146 => ?_) (fun c146 => ?_)
        · have hz2 := hz.elim (fun q => q.2) (fun q => by omega)
          rw [zfd_1 (by omega), if_neg (fun r => c146 r.1)] at hz2
          refine ew_iinc_8 i210_216 rfl ?_
          refine ev_goto i210_219 ?_
          exact ih (by omega) (by omega) (by omega) _ _ _ hJ hc (Or.inl ⟨by omega, hz2⟩)
        · refine ev_aloadn_0 i210_149 ?_
          refine ev_getA i210_150 g210_150 rfl rfl (by decide) ?_
          refine ev_iload_8 i210_153 ?_
          refine ew_iaload i210_155 rfl (by omega) (by omega) (by omega) ((hc p p0 (by omega))) (fun b155 => ?_)
          refine ew_ifle i210_156 (by omega) (fun c156 => ?_) (fun c156 => ?_)
          · refine ew_iconst i210_163 ?_
            refine ev_istore_9 i210_164 rfl ?_
            first
            | exact body (by omega) (by omega) c146 1 (by omega)
            | exact body (by omega) (by omega) c146 0 (by omega)
          · refine ew_iconst i210_159 ?_
            refine ev_goto i210_160 ?_
            refine ev_istore_9 i210_164 rfl ?_
            first
            | exact body (by omega) (by omega) c146 1 (by omega)
            | exact body (by omega) (by omega) c146 0 (by omega)
  refine ev_enter (lv := [.ref 72, .int (zI (ab)), .int (zI (n)), .int (zI (w)), .null, .null, .null, .null, .null, .null]) l210 rfl (Nat.le_of_ble_eq_true rfl) ?_
  refine ev_iloadn_1 i210_0 ?_
  refine ew_iflt i210_1 (by omega) (fun c1 => ?_) (fun c1 => ?_)
  · refine ew_ldc_w (z := (-2000000000)) i210_61 g210_61 (by decide) ?_
    refine ev_ireturn i210_64 r210 ?_
    rw [if_pos (by omega)] at hK
    exact hK I (fr_rfl _ _)
  · refine ev_aloadn_0 i210_4 ?_
    refine ev_iloadn_1 i210_5 ?_
    refine ew_bipush i210_6 (by decide) ?_
    refine ew_idiv i210_8 (by omega) (by omega) ?_
    refine ew_i2l i210_9 (by omega) ?_
    refine ev_virt1 i210_10 g210_10 rfl (by decide +kernel) (Nat.le_of_ble_eq_true rfl) (m_isMan hM (by omega) ?_)
    first
    | refine ew_ifeqB i210_13 (fun c13 => ?_) (fun c13 => ?_)
    | refine ew_ifeq i210_13 (by omega) (fun c13 => ?_) (fun c13 => ?_)
    · refine ew_ldc_w (z := (-2000000000)) i210_61 g210_61 (by decide) ?_
      refine ev_ireturn i210_64 r210 ?_
      rw [if_pos (by omega)] at hK
      exact hK I (fr_rfl _ _)
    · refine ev_aloadn_0 i210_16 ?_
      refine ev_iloadn_1 i210_17 ?_
      refine ew_bipush i210_18 (by decide) ?_
      refine ew_irem i210_20 (by omega) (by omega) ?_
      refine ew_i2l i210_21 (by omega) ?_
      refine ev_virt1 i210_22 g210_22 rfl (by decide +kernel) (Nat.le_of_ble_eq_true rfl) (m_isMan hM (by omega) ?_)
      first
      | refine ew_ifeqB i210_25 (fun c25 => ?_) (fun c25 => ?_)
      | refine ew_ifeq i210_25 (by omega) (fun c25 => ?_) (fun c25 => ?_)
      · refine ew_ldc_w (z := (-2000000000)) i210_61 g210_61 (by decide) ?_
        refine ev_ireturn i210_64 r210 ?_
        rw [if_pos (by omega)] at hK
        exact hK I (fr_rfl _ _)
      · refine ev_iloadn_1 i210_28 ?_
        refine ew_bipush i210_29 (by decide) ?_
        refine ew_idiv i210_31 (by omega) (by omega) ?_
        refine ev_iloadn_1 i210_32 ?_
        refine ew_bipush i210_33 (by decide) ?_
        refine ew_irem i210_35 (by omega) (by omega) ?_
        refine ew_icmpeq i210_36 (by omega) (fun c36 => ?_) (fun c36 => ?_)
        · refine ew_ldc_w (z := (-2000000000)) i210_61 g210_61 (by decide) ?_
          refine ev_ireturn i210_64 r210 ?_
          rw [if_pos (by omega)] at hK
          exact hK I (fr_rfl _ _)
        · refine ev_iloadn_2 i210_39 ?_
          refine ew_i2l i210_40 (by omega) ?_
          refine ew_lconst (z := 1) i210_41 (by decide) ?_
          refine ew_ldc2_w (z := (4)) i210_42 g210_42 (by decide) ?_
          refine ev_stat3 i210_45 g210_45 (by decide +kernel) (Nat.le_of_ble_eq_true rfl) (m_within (by omega) (by omega) (by omega) ?_)
          first
          | refine ew_ifeqB i210_48 (fun c48 => ?_) (fun c48 => ?_)
          | refine ew_ifeq i210_48 (by omega) (fun c48 => ?_) (fun c48 => ?_)
          · refine ew_ldc_w (z := (-2000000000)) i210_61 g210_61 (by decide) ?_
            refine ev_ireturn i210_64 r210 ?_
            rw [if_pos (by omega)] at hK
            exact hK I (fr_rfl _ _)
          · refine ev_iloadn_3 i210_51 ?_
            refine ew_i2l i210_52 (by omega) ?_
            refine ew_lconst (z := 0) i210_53 (by decide) ?_
            refine ew_lconst (z := 1) i210_54 (by decide) ?_
            refine ev_stat3 i210_55 g210_55 (by decide +kernel) (Nat.le_of_ble_eq_true rfl) (m_within (by omega) (by omega) (by omega) ?_)
            first
            | refine ew_ifneB i210_58 (fun c58 => ?_) (fun c58 => ?_)
            | refine ew_ifne i210_58 (by omega) (fun c58 => ?_) (fun c58 => ?_)
            · rw [if_neg (by omega)] at hK
              unfold g_byO at hK
              refine ev_iloadn_1 i210_65 ?_
              refine ew_bipush i210_66 (by decide) ?_
              refine ew_idiv i210_68 (by omega) (by omega) ?_
              refine ev_istore_4 i210_69 rfl ?_
              refine ev_iloadn_1 i210_71 ?_
              refine ew_bipush i210_72 (by decide) ?_
              refine ew_irem i210_74 (by omega) (by omega) ?_
              refine ev_istore_5 i210_75 rfl ?_
              refine ev_aloadn_0 i210_77 ?_
              refine ev_virt0 i210_78 g210_78 rfl (by decide +kernel) (Nat.le_of_ble_eq_true rfl) (m_takesNow hM (fun J h1 h2 => ?_))
              have c0 : ∀ p, 0 ≤ p → p < 16 → 0 ≤ f_corn f p := fun p p0 p1 => (h2 p p0 p1).2.1
              have W := pv_r (f := f) (a := ab / 10) (b := ab % 10) n.toNat 0 (f_corn f) (by decide) c0
              have R := pv_r (f := f) (a := ab / 10) (b := ab % 10) (n - 1).toNat 1 (f_corn f) (by decide) c0
              refine ev_aloadn_0 i210_81 ?_
              refine ev_iload_4 i210_82 ?_
              refine ev_iload_5 i210_84 ?_
              refine ew_iconst i210_86 ?_
              refine ev_iloadn_2 i210_87 ?_
              refine ev_virt4 i210_88 g210_88 rfl (by decide +kernel) (Nat.le_of_ble_eq_true rfl) (m_plays hM (by omega) (by omega) (by omega) (t := n.toNat) (c := f_corn f) (by decide) (by omega) h1 h2 (fun M h3 h4 => ?_))
              refine ev_istore_6 i210_91 rfl ?_
              refine ev_iloadn_3 i210_93 ?_
              first
              | refine ew_ifneB i210_94 (fun c94 => ?_) (fun c94 => ?_)
              | refine ew_ifne i210_94 (by omega) (fun c94 => ?_) (fun c94 => ?_)
              · rw [if_neg c94] at hK
                refine ev_aloadn_0 i210_100 ?_
                refine ev_iload_4 i210_101 ?_
                refine ev_iload_5 i210_103 ?_
                refine ew_iconst i210_105 ?_
                refine ev_iloadn_2 i210_106 ?_
                refine ev_virt4 i210_107 g210_107 rfl (by decide +kernel) (Nat.le_of_ble_eq_true rfl) (m_plays hM (by omega) (by omega) (by omega) (t := (n - 1).toNat) (c := f_corn f) (by decide) (by omega) h3 h4 (fun N h5 h6 => ?_))
                refine ev_iload_6 i210_110 ?_
                refine ew_icmpne i210_112 (by omega) (fun c112 => ?_) (fun c112 => ?_)
                · refine ew_iconst i210_120 ?_
                  refine ev_istore_7 i210_121 rfl ?_
                  refine ew_iconst i210_123 ?_
                  refine ev_istore_8 i210_124 rfl ?_
                  first
                  | (rw [if_neg (show ¬ g_rest f (ab / 10) (ab % 10) n = pv f (ab / 10) (ab % 10) n.toNat 0 (f_corn f) from c112)] at hK
                     exact loop (ab / 10) (ab % 10) (by omega) (by omega) (by omega) hK 0 (by decide) (by decide) _ _ _ h5 h6 (Or.inl ⟨rfl, rfl⟩))
                  | (rw [if_pos (show g_rest f (ab / 10) (ab % 10) n = pv f (ab / 10) (ab % 10) n.toNat 0 (f_corn f) from c112)] at hK
                     refine ev_iload_8 i210_126 ?_
                     refine ew_bipush i210_128 (by decide) ?_
                     refine ew_icmpge i210_130 (by omega) (fun c130 => ?_) (fun c130 => ?_)
                     · refine ev_iload_7 i210_222 ?_
                       refine ev_ireturn i210_224 r210 ?_
                       exact hK N h5
                     · refine ev_iload_7 i210_133 ?_
                       refine ew_ifge i210_135 (by omega) (fun c135 => ?_) (fun c135 => ?_)
                       · refine ev_iload_7 i210_222 ?_
                         refine ev_ireturn i210_224 r210 ?_
                         exact hK N h5
                       · exfalso; omega
                     )
                · refine ew_bipush i210_115 (by decide) ?_
                  refine ev_goto i210_117 ?_
                  refine ev_istore_7 i210_121 rfl ?_
                  refine ew_iconst i210_123 ?_
                  refine ev_istore_8 i210_124 rfl ?_
                  first
                  | (rw [if_neg (show ¬ g_rest f (ab / 10) (ab % 10) n = pv f (ab / 10) (ab % 10) n.toNat 0 (f_corn f) from c112)] at hK
                     exact loop (ab / 10) (ab % 10) (by omega) (by omega) (by omega) hK 0 (by decide) (by decide) _ _ _ h5 h6 (Or.inl ⟨rfl, rfl⟩))
                  | (rw [if_pos (show g_rest f (ab / 10) (ab % 10) n = pv f (ab / 10) (ab % 10) n.toNat 0 (f_corn f) from c112)] at hK
                     refine ev_iload_8 i210_126 ?_
                     refine ew_bipush i210_128 (by decide) ?_
                     refine ew_icmpge i210_130 (by omega) (fun c130 => ?_) (fun c130 => ?_)
                     · refine ev_iload_7 i210_222 ?_
                       refine ev_ireturn i210_224 r210 ?_
                       exact hK N h5
                     · refine ev_iload_7 i210_133 ?_
                       refine ew_ifge i210_135 (by omega) (fun c135 => ?_) (fun c135 => ?_)
                       · refine ev_iload_7 i210_222 ?_
                         refine ev_ireturn i210_224 r210 ?_
                         exact hK N h5
                       · exfalso; omega
                     )
              · refine ev_iload_6 i210_97 ?_
                refine ev_ireturn i210_99 r210 ?_
                rw [if_pos c94] at hK
                exact hK M h3
            · refine ew_ldc_w (z := (-2000000000)) i210_61 g210_61 (by decide) ?_
              refine ev_ireturn i210_64 r210 ?_
              rw [if_pos (by omega)] at hK
              exact hK I (fr_rfl _ _)
theorem x_gain : ∀ t : Nat, t ≤ 4 → ∀ m y o : Int, ∀ K : Option Value → ts_H → Prop, (-5 ≤ m ∧ m ≤ 200) → (-5 ≤ y ∧ y ≤ 200) → (-5 ≤ o ∧ o ≤ 200) → K (some (.int (zI (zgn t m y o)))) (I, L, ts_P0 sw, ts_S0) → ts_Cal X (d + t + 1) 92 [.int (zI (m)), .int (zI (y)), .int (zI (o)), .int (zI ((t : Int)))] (I, L, ts_P0 sw, ts_S0) K := by
  intro t
  induction t with
  | zero =>
    intro _ m y o K hm hy ho hK
    refine ev_enter (lv := [.int (zI (m)), .int (zI (y)), .int (zI (o)), .int (zI (((0 : Nat) : Int))), .null]) l92 rfl (Nat.le_of_ble_eq_true rfl) ?_
    refine ev_iloadn_3 i92_0 ?_
    refine ew_ifgt i92_1 (by omega) (fun c1 => ?_) (fun c1 => ?_)
    · exfalso; omega
    · refine ew_iconst i92_4 ?_
      refine ev_ireturn i92_5 r92 ?_
      exact hK
  | succ t ih =>
    intro ht m y o K hm hy ho hK
    have e1 : ((t + 1 : Nat) : Int) - 1 = (t : Int) := by omega
    have r1 := zgn_r t y m o
    have r2 := zgn_r t y (m - 1) o
    have r3 := zgn_r t y m (o - 1)
    have ez : zgn (t + 1) m y o = (if 0 < o then (if (if 0 < m then (if -zgn t y m o < 1 - zgn t y (m - 1) o then 1 - zgn t y (m - 1) o else -zgn t y m o) else -zgn t y m o) < 1 - zgn t y m (o - 1) then 1 - zgn t y m (o - 1) else (if 0 < m then (if -zgn t y m o < 1 - zgn t y (m - 1) o then 1 - zgn t y (m - 1) o else -zgn t y m o) else -zgn t y m o)) else (if 0 < m then (if -zgn t y m o < 1 - zgn t y (m - 1) o then 1 - zgn t y (m - 1) o else -zgn t y m o) else -zgn t y m o)) := rfl
    rw [ez] at hK
    refine ev_enter (lv := [.int (zI (m)), .int (zI (y)), .int (zI (o)), .int (zI (((t + 1 : Nat) : Int))), .null]) l92 rfl (Nat.le_of_ble_eq_true rfl) ?_
    refine ev_iloadn_3 i92_0 ?_
    refine ew_ifgt i92_1 (by omega) (fun c1 => ?_) (fun c1 => ?_)
    · refine ev_iloadn_1 i92_6 ?_
      refine ev_iloadn_0 i92_7 ?_
      refine ev_iloadn_2 i92_8 ?_
      refine ev_iloadn_3 i92_9 ?_
      refine ew_iconst i92_10 ?_
      refine ew_isub i92_11 ?_
      rw [e1]
      refine ev_stat4 i92_12 g92_12 (by decide +kernel) (Nat.le_of_ble_eq_true rfl) (ih (by omega) y m o _ hy hm ho ?_)
      refine ew_ineg i92_15 ?_
      refine ev_istore_4 i92_16 rfl ?_
      refine ev_iloadn_0 i92_18 ?_
      refine ew_ifle i92_19 (by omega) (fun c19 => ?_) (fun c19 => ?_)
      · refine ev_iloadn_2 i92_42 ?_
        refine ew_ifle i92_43 (by omega) (fun c43 => ?_) (fun c43 => ?_)
        · refine ev_iload_4 i92_66 ?_
          refine ev_ireturn i92_68 r92 ?_
          exact zK hK (by omega)
        · refine ev_iload_4 i92_46 ?_
          refine ew_iconst i92_48 ?_
          refine ev_iloadn_1 i92_49 ?_
          refine ev_iloadn_0 i92_50 ?_
          refine ev_iloadn_2 i92_51 ?_
          refine ew_iconst i92_52 ?_
          refine ew_isub i92_53 ?_
          refine ev_iloadn_3 i92_54 ?_
          refine ew_iconst i92_55 ?_
          refine ew_isub i92_56 ?_
          rw [e1]
          refine ev_stat4 i92_57 g92_57 (by decide +kernel) (Nat.le_of_ble_eq_true rfl) (ih (by omega) y m (o - 1) _ hy hm (by omega) ?_)
          refine ew_isub i92_60 ?_
          refine ew_mmax i92_61 g92_61 (Nat.le_of_ble_eq_true rfl) (by omega) ?_
          refine ev_istore_4 i92_64 rfl ?_
          refine ev_iload_4 i92_66 ?_
          refine ev_ireturn i92_68 r92 ?_
          exact zK hK (by omega)
      · refine ev_iload_4 i92_22 ?_
        refine ew_iconst i92_24 ?_
        refine ev_iloadn_1 i92_25 ?_
        refine ev_iloadn_0 i92_26 ?_
        refine ew_iconst i92_27 ?_
        refine ew_isub i92_28 ?_
        refine ev_iloadn_2 i92_29 ?_
        refine ev_iloadn_3 i92_30 ?_
        refine ew_iconst i92_31 ?_
        refine ew_isub i92_32 ?_
        rw [e1]
        refine ev_stat4 i92_33 g92_33 (by decide +kernel) (Nat.le_of_ble_eq_true rfl) (ih (by omega) y (m - 1) o _ hy (by omega) ho ?_)
        refine ew_isub i92_36 ?_
        refine ew_mmax i92_37 g92_37 (Nat.le_of_ble_eq_true rfl) (by omega) ?_
        refine ev_istore_4 i92_40 rfl ?_
        refine ev_iloadn_2 i92_42 ?_
        refine ew_ifle i92_43 (by omega) (fun c43 => ?_) (fun c43 => ?_)
        · refine ev_iload_4 i92_66 ?_
          refine ev_ireturn i92_68 r92 ?_
          exact zK hK (by omega)
        · refine ev_iload_4 i92_46 ?_
          refine ew_iconst i92_48 ?_
          refine ev_iloadn_1 i92_49 ?_
          refine ev_iloadn_0 i92_50 ?_
          refine ev_iloadn_2 i92_51 ?_
          refine ew_iconst i92_52 ?_
          refine ew_isub i92_53 ?_
          refine ev_iloadn_3 i92_54 ?_
          refine ew_iconst i92_55 ?_
          refine ew_isub i92_56 ?_
          rw [e1]
          refine ev_stat4 i92_57 g92_57 (by decide +kernel) (Nat.le_of_ble_eq_true rfl) (ih (by omega) y m (o - 1) _ hy hm (by omega) ?_)
          refine ew_isub i92_60 ?_
          refine ew_mmax i92_61 g92_61 (Nat.le_of_ble_eq_true rfl) (by omega) ?_
          refine ev_istore_4 i92_64 rfl ?_
          refine ev_iload_4 i92_66 ?_
          refine ev_ireturn i92_68 r92 ?_
          exact zK hK (by omega)
    · exfalso; omega
end BT
