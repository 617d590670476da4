theorem i178_0 : ts_ins 178 0 = some (.aload_n 0, 1, 0) := by decide +kernel
theorem i178_1 : ts_ins 178 1 = some (.invokevirtual 205, 4, 0) := by decide +kernel
theorem g178_1 : ts_cal (ts_mc 178) 205 = some (0, 175, 0) := by decide +kernel
theorem i178_4 : ts_ins 178 4 = some (.aload_n 0, 5, 0) := by decide +kernel
theorem i178_5 : ts_ins 178 5 = some (.iconst 0, 6, 0) := by decide +kernel
theorem i178_6 : ts_ins 178 6 = some (.putfield 208, 9, 0) := by decide +kernel
theorem g178_6 : ts_fmm 178 208 = some (12, 22, 0, false) := by decide +kernel
theorem i178_9 : ts_ins 178 9 = some (.aload_n 0, 10, 0) := by decide +kernel
theorem i178_10 : ts_ins 178 10 = some (.getfield 40, 13, 0) := by decide +kernel
theorem g178_10 : ts_fm 178 40 = some (12, 21, 2) := by decide +kernel
theorem i178_13 : ts_ins 178 13 = some (.iconst 0, 14, 0) := by decide +kernel
theorem i178_14 : ts_ins 178 14 = some (.aload_n 0, 15, 0) := by decide +kernel
theorem i178_15 : ts_ins 178 15 = some (.invokevirtual 211, 18, 0) := by decide +kernel
theorem g178_15 : ts_cal (ts_mc 178) 211 = some (0, 176, 0) := by decide +kernel
theorem i178_18 : ts_ins 178 18 = some (.iastore, 19, 0) := by decide +kernel
theorem i178_19 : ts_ins 178 19 = some (.aload_n 0, 20, 0) := by decide +kernel
theorem i178_20 : ts_ins 178 20 = some (.getfield 99, 23, 0) := by decide +kernel
theorem g178_20 : ts_fm 178 99 = some (12, 6, 0) := by decide +kernel
theorem i178_23 : ts_ins 178 23 = some (.ifCond .le 7, 26, 30) := by decide +kernel
theorem i178_26 : ts_ins 178 26 = some (.iconst 1, 27, 0) := by decide +kernel
theorem i178_27 : ts_ins 178 27 = some (.goto 4, 30, 31) := by decide +kernel
theorem i178_30 : ts_ins 178 30 = some (.iconst 0, 31, 0) := by decide +kernel
theorem i178_31 : ts_ins 178 31 = some (.istore_n 2, 32, 0) := by decide +kernel
theorem i178_32 : ts_ins 178 32 = some (.iload_n 2, 33, 0) := by decide +kernel
theorem i178_33 : ts_ins 178 33 = some (.ifCond .eq 191, 36, 224) := by decide +kernel
theorem i178_36 : ts_ins 178 36 = some (.aload_n 0, 37, 0) := by decide +kernel
theorem i178_37 : ts_ins 178 37 = some (.getfield 208, 40, 0) := by decide +kernel
theorem g178_37 : ts_fm 178 208 = some (12, 22, 0) := by decide +kernel
theorem i178_40 : ts_ins 178 40 = some (.bipush 40, 42, 0) := by decide +kernel
theorem i178_42 : ts_ins 178 42 = some (.if_icmp .ge 182, 45, 224) := by decide +kernel
theorem i178_45 : ts_ins 178 45 = some (.aload_n 0, 46, 0) := by decide +kernel
theorem i178_46 : ts_ins 178 46 = some (.getfield 208, 49, 0) := by decide +kernel
theorem g178_46 : ts_fm 178 208 = some (12, 22, 0) := by decide +kernel
theorem i178_49 : ts_ins 178 49 = some (.aload_n 0, 50, 0) := by decide +kernel
theorem i178_50 : ts_ins 178 50 = some (.getfield 73, 53, 0) := by decide +kernel
theorem g178_50 : ts_fm 178 73 = some (12, 39, 2) := by decide +kernel
theorem i178_53 : ts_ins 178 53 = some (.iload_n 1, 54, 0) := by decide +kernel
theorem i178_54 : ts_ins 178 54 = some (.iaload, 55, 0) := by decide +kernel
theorem i178_55 : ts_ins 178 55 = some (.if_icmp .ge 169, 58, 224) := by decide +kernel
theorem i178_58 : ts_ins 178 58 = some (.aload_n 0, 59, 0) := by decide +kernel
theorem i178_59 : ts_ins 178 59 = some (.getfield 76, 62, 0) := by decide +kernel
theorem g178_59 : ts_fm 178 76 = some (12, 40, 2) := by decide +kernel
theorem i178_62 : ts_ins 178 62 = some (.bipush 60, 64, 0) := by decide +kernel
theorem i178_64 : ts_ins 178 64 = some (.iload_n 1, 65, 0) := by decide +kernel
theorem i178_65 : ts_ins 178 65 = some (.imul, 66, 0) := by decide +kernel
theorem i178_66 : ts_ins 178 66 = some (.aload_n 0, 67, 0) := by decide +kernel
theorem i178_67 : ts_ins 178 67 = some (.getfield 208, 70, 0) := by decide +kernel
theorem g178_67 : ts_fm 178 208 = some (12, 22, 0) := by decide +kernel
theorem i178_70 : ts_ins 178 70 = some (.iadd, 71, 0) := by decide +kernel
theorem i178_71 : ts_ins 178 71 = some (.laload, 72, 0) := by decide +kernel
theorem i178_72 : ts_ins 178 72 = some (.lstore_n 3, 73, 0) := by decide +kernel
theorem i178_73 : ts_ins 178 73 = some (.aload_n 0, 74, 0) := by decide +kernel
theorem i178_74 : ts_ins 178 74 = some (.getfield 208, 77, 0) := by decide +kernel
theorem g178_74 : ts_fm 178 208 = some (12, 22, 0) := by decide +kernel
theorem i178_77 : ts_ins 178 77 = some (.aload_n 0, 78, 0) := by decide +kernel
theorem i178_78 : ts_ins 178 78 = some (.getfield 99, 81, 0) := by decide +kernel
theorem g178_78 : ts_fm 178 99 = some (12, 6, 0) := by decide +kernel
theorem i178_81 : ts_ins 178 81 = some (.irem, 82, 0) := by decide +kernel
theorem i178_82 : ts_ins 178 82 = some (.istore 5, 84, 0) := by decide +kernel
theorem i178_84 : ts_ins 178 84 = some (.lload_n 3, 85, 0) := by decide +kernel
theorem i178_85 : ts_ins 178 85 = some (.ldc2_w 214, 88, 0) := by decide +kernel
theorem g178_85 : ts_lc (ts_mc 178) 214 = some (.long (16)) := by decide +kernel
theorem i178_88 : ts_ins 178 88 = some (.lcmp, 89, 0) := by decide +kernel
theorem i178_89 : ts_ins 178 89 = some (.ifCond .eq 21, 92, 110) := by decide +kernel
theorem i178_92 : ts_ins 178 92 = some (.lload_n 3, 93, 0) := by decide +kernel
theorem i178_93 : ts_ins 178 93 = some (.invokestatic 107, 96, 0) := by decide +kernel
theorem g178_93 : ts_cal (ts_mc 178) 107 = some (1, 148, 1) := by decide +kernel
theorem i178_96 : ts_ins 178 96 = some (.ifCond .eq 18, 99, 114) := by decide +kernel
theorem i178_99 : ts_ins 178 99 = some (.aload_n 0, 100, 0) := by decide +kernel
theorem i178_100 : ts_ins 178 100 = some (.iload 5, 102, 0) := by decide +kernel
theorem i178_102 : ts_ins 178 102 = some (.lload_n 3, 103, 0) := by decide +kernel
theorem i178_103 : ts_ins 178 103 = some (.l2i, 104, 0) := by decide +kernel
theorem i178_104 : ts_ins 178 104 = some (.invokevirtual 201, 107, 0) := by decide +kernel
theorem g178_104 : ts_cal (ts_mc 178) 201 = some (0, 173, 2) := by decide +kernel
theorem i178_107 : ts_ins 178 107 = some (.ifCond .eq 7, 110, 114) := by decide +kernel
theorem i178_110 : ts_ins 178 110 = some (.iconst 1, 111, 0) := by decide +kernel
theorem i178_111 : ts_ins 178 111 = some (.goto 4, 114, 115) := by decide +kernel
theorem i178_114 : ts_ins 178 114 = some (.iconst 0, 115, 0) := by decide +kernel
theorem i178_115 : ts_ins 178 115 = some (.istore_n 2, 116, 0) := by decide +kernel
theorem i178_116 : ts_ins 178 116 = some (.iload_n 2, 117, 0) := by decide +kernel
theorem i178_117 : ts_ins 178 117 = some (.ifCond .eq 104, 120, 221) := by decide +kernel
theorem i178_120 : ts_ins 178 120 = some (.aload_n 0, 121, 0) := by decide +kernel
theorem i178_121 : ts_ins 178 121 = some (.getfield 37, 124, 0) := by decide +kernel
theorem g178_121 : ts_fm 178 37 = some (12, 20, 2) := by decide +kernel
theorem i178_124 : ts_ins 178 124 = some (.aload_n 0, 125, 0) := by decide +kernel
theorem i178_125 : ts_ins 178 125 = some (.getfield 208, 128, 0) := by decide +kernel
theorem g178_125 : ts_fm 178 208 = some (12, 22, 0) := by decide +kernel
theorem i178_128 : ts_ins 178 128 = some (.iconst (-1), 129, 0) := by decide +kernel
theorem i178_129 : ts_ins 178 129 = some (.iastore, 130, 0) := by decide +kernel
theorem i178_130 : ts_ins 178 130 = some (.lload_n 3, 131, 0) := by decide +kernel
theorem i178_131 : ts_ins 178 131 = some (.ldc2_w 214, 134, 0) := by decide +kernel
theorem g178_131 : ts_lc (ts_mc 178) 214 = some (.long (16)) := by decide +kernel
theorem i178_134 : ts_ins 178 134 = some (.lcmp, 135, 0) := by decide +kernel
theorem i178_135 : ts_ins 178 135 = some (.ifCond .eq 63, 138, 198) := by decide +kernel
theorem i178_138 : ts_ins 178 138 = some (.aload_n 0, 139, 0) := by decide +kernel
theorem i178_139 : ts_ins 178 139 = some (.getfield 37, 142, 0) := by decide +kernel
theorem g178_139 : ts_fm 178 37 = some (12, 20, 2) := by decide +kernel
theorem i178_142 : ts_ins 178 142 = some (.aload_n 0, 143, 0) := by decide +kernel
theorem i178_143 : ts_ins 178 143 = some (.getfield 208, 146, 0) := by decide +kernel
theorem g178_143 : ts_fm 178 208 = some (12, 22, 0) := by decide +kernel
theorem i178_146 : ts_ins 178 146 = some (.aload_n 0, 147, 0) := by decide +kernel
theorem i178_147 : ts_ins 178 147 = some (.lload_n 3, 148, 0) := by decide +kernel
theorem i178_148 : ts_ins 178 148 = some (.l2i, 149, 0) := by decide +kernel
theorem i178_149 : ts_ins 178 149 = some (.iload 5, 151, 0) := by decide +kernel
theorem i178_151 : ts_ins 178 151 = some (.aload_n 0, 152, 0) := by decide +kernel
theorem i178_152 : ts_ins 178 152 = some (.getfield 208, 155, 0) := by decide +kernel
theorem g178_152 : ts_fm 178 208 = some (12, 22, 0) := by decide +kernel
theorem i178_155 : ts_ins 178 155 = some (.invokevirtual 216, 158, 0) := by decide +kernel
theorem g178_155 : ts_cal (ts_mc 178) 216 = some (0, 177, 3) := by decide +kernel
theorem i178_158 : ts_ins 178 158 = some (.ifCond .le 13, 161, 171) := by decide +kernel
theorem i178_161 : ts_ins 178 161 = some (.aload_n 0, 162, 0) := by decide +kernel
theorem i178_162 : ts_ins 178 162 = some (.getfield 9, 165, 0) := by decide +kernel
theorem g178_162 : ts_fm 178 9 = some (12, 0, 2) := by decide +kernel
theorem i178_165 : ts_ins 178 165 = some (.lload_n 3, 166, 0) := by decide +kernel
theorem i178_166 : ts_ins 178 166 = some (.l2i, 167, 0) := by decide +kernel
theorem i178_167 : ts_ins 178 167 = some (.iaload, 168, 0) := by decide +kernel
theorem i178_168 : ts_ins 178 168 = some (.goto 4, 171, 172) := by decide +kernel
theorem i178_171 : ts_ins 178 171 = some (.iconst (-1), 172, 0) := by decide +kernel
theorem i178_172 : ts_ins 178 172 = some (.iastore, 173, 0) := by decide +kernel
theorem i178_173 : ts_ins 178 173 = some (.aload_n 0, 174, 0) := by decide +kernel
theorem i178_174 : ts_ins 178 174 = some (.getfield 34, 177, 0) := by decide +kernel
theorem g178_174 : ts_fm 178 34 = some (12, 19, 2) := by decide +kernel
theorem i178_177 : ts_ins 178 177 = some (.lload_n 3, 178, 0) := by decide +kernel
theorem i178_178 : ts_ins 178 178 = some (.l2i, 179, 0) := by decide +kernel
theorem i178_179 : ts_ins 178 179 = some (.dup2, 180, 0) := by decide +kernel
theorem i178_180 : ts_ins 178 180 = some (.iaload, 181, 0) := by decide +kernel
theorem i178_181 : ts_ins 178 181 = some (.aload_n 0, 182, 0) := by decide +kernel
theorem i178_182 : ts_ins 178 182 = some (.getfield 34, 185, 0) := by decide +kernel
theorem g178_182 : ts_fm 178 34 = some (12, 19, 2) := by decide +kernel
theorem i178_185 : ts_ins 178 185 = some (.lload_n 3, 186, 0) := by decide +kernel
theorem i178_186 : ts_ins 178 186 = some (.l2i, 187, 0) := by decide +kernel
theorem i178_187 : ts_ins 178 187 = some (.iaload, 188, 0) := by decide +kernel
theorem i178_188 : ts_ins 178 188 = some (.ifCond .le 7, 191, 195) := by decide +kernel
theorem i178_191 : ts_ins 178 191 = some (.iconst 1, 192, 0) := by decide +kernel
theorem i178_192 : ts_ins 178 192 = some (.goto 4, 195, 196) := by decide +kernel
theorem i178_195 : ts_ins 178 195 = some (.iconst 0, 196, 0) := by decide +kernel
theorem i178_196 : ts_ins 178 196 = some (.isub, 197, 0) := by decide +kernel
theorem i178_197 : ts_ins 178 197 = some (.iastore, 198, 0) := by decide +kernel
theorem i178_198 : ts_ins 178 198 = some (.aload_n 0, 199, 0) := by decide +kernel
theorem i178_199 : ts_ins 178 199 = some (.dup, 200, 0) := by decide +kernel
theorem i178_200 : ts_ins 178 200 = some (.getfield 208, 203, 0) := by decide +kernel
theorem g178_200 : ts_fm 178 208 = some (12, 22, 0) := by decide +kernel
theorem i178_203 : ts_ins 178 203 = some (.iconst 1, 204, 0) := by decide +kernel
theorem i178_204 : ts_ins 178 204 = some (.iadd, 205, 0) := by decide +kernel
theorem i178_205 : ts_ins 178 205 = some (.putfield 208, 208, 0) := by decide +kernel
theorem g178_205 : ts_fmm 178 208 = some (12, 22, 0, false) := by decide +kernel
theorem i178_208 : ts_ins 178 208 = some (.aload_n 0, 209, 0) := by decide +kernel
theorem i178_209 : ts_ins 178 209 = some (.getfield 40, 212, 0) := by decide +kernel
theorem g178_209 : ts_fm 178 40 = some (12, 21, 2) := by decide +kernel
theorem i178_212 : ts_ins 178 212 = some (.aload_n 0, 213, 0) := by decide +kernel
theorem i178_213 : ts_ins 178 213 = some (.getfield 208, 216, 0) := by decide +kernel
theorem g178_213 : ts_fm 178 208 = some (12, 22, 0) := by decide +kernel
theorem i178_216 : ts_ins 178 216 = some (.aload_n 0, 217, 0) := by decide +kernel
theorem i178_217 : ts_ins 178 217 = some (.invokevirtual 211, 220, 0) := by decide +kernel
theorem g178_217 : ts_cal (ts_mc 178) 211 = some (0, 176, 0) := by decide +kernel
theorem i178_220 : ts_ins 178 220 = some (.iastore, 221, 0) := by decide +kernel
theorem i178_221 : ts_ins 178 221 = some (.goto (-189), 224, 32) := by decide +kernel
theorem i178_224 : ts_ins 178 224 = some (.return_, 225, 0) := by decide +kernel
theorem r178 : ts_rt 178 = (none, 0, 0) := by decide +kernel
theorem l178 : ts_ml 178 = 6 := by decide +kernel
theorem i179_0 : ts_ins 179 0 = some (.aload_n 0, 1, 0) := by decide +kernel
theorem i179_1 : ts_ins 179 1 = some (.getfield 22, 4, 0) := by decide +kernel
theorem g179_1 : ts_fm 179 22 = some (12, 8, 2) := by decide +kernel
theorem i179_4 : ts_ins 179 4 = some (.iload_n 1, 5, 0) := by decide +kernel
theorem i179_5 : ts_ins 179 5 = some (.iaload, 6, 0) := by decide +kernel
theorem i179_6 : ts_ins 179 6 = some (.iconst 1, 7, 0) := by decide +kernel
theorem i179_7 : ts_ins 179 7 = some (.isub, 8, 0) := by decide +kernel
theorem i179_8 : ts_ins 179 8 = some (.istore_n 2, 9, 0) := by decide +kernel
theorem i179_9 : ts_ins 179 9 = some (.iload_n 2, 10, 0) := by decide +kernel
theorem i179_10 : ts_ins 179 10 = some (.aload_n 0, 11, 0) := by decide +kernel
theorem i179_11 : ts_ins 179 11 = some (.getfield 208, 14, 0) := by decide +kernel
theorem g179_11 : ts_fm 179 208 = some (12, 22, 0) := by decide +kernel
theorem i179_14 : ts_ins 179 14 = some (.if_icmp .ge 83, 17, 97) := by decide +kernel
theorem i179_17 : ts_ins 179 17 = some (.iconst 1, 18, 0) := by decide +kernel
theorem i179_18 : ts_ins 179 18 = some (.istore_n 3, 19, 0) := by decide +kernel
theorem i179_19 : ts_ins 179 19 = some (.iconst 0, 20, 0) := by decide +kernel
theorem i179_20 : ts_ins 179 20 = some (.istore 4, 22, 0) := by decide +kernel
theorem i179_22 : ts_ins 179 22 = some (.iload 4, 24, 0) := by decide +kernel
theorem i179_24 : ts_ins 179 24 = some (.aload_n 0, 25, 0) := by decide +kernel
theorem i179_25 : ts_ins 179 25 = some (.getfield 22, 28, 0) := by decide +kernel
theorem g179_25 : ts_fm 179 22 = some (12, 8, 2) := by decide +kernel
theorem i179_28 : ts_ins 179 28 = some (.iload_n 1, 29, 0) := by decide +kernel
theorem i179_29 : ts_ins 179 29 = some (.iaload, 30, 0) := by decide +kernel
theorem i179_30 : ts_ins 179 30 = some (.if_icmp .ge 55, 33, 85) := by decide +kernel
theorem i179_33 : ts_ins 179 33 = some (.iload_n 3, 34, 0) := by decide +kernel
theorem i179_34 : ts_ins 179 34 = some (.ifCond .eq 43, 37, 77) := by decide +kernel
theorem i179_37 : ts_ins 179 37 = some (.aload_n 0, 38, 0) := by decide +kernel
theorem i179_38 : ts_ins 179 38 = some (.getfield 37, 41, 0) := by decide +kernel
theorem g179_38 : ts_fm 179 37 = some (12, 20, 2) := by decide +kernel
theorem i179_41 : ts_ins 179 41 = some (.iload_n 2, 42, 0) := by decide +kernel
theorem i179_42 : ts_ins 179 42 = some (.aload_n 0, 43, 0) := by decide +kernel
theorem i179_43 : ts_ins 179 43 = some (.getfield 22, 46, 0) := by decide +kernel
theorem g179_43 : ts_fm 179 22 = some (12, 8, 2) := by decide +kernel
theorem i179_46 : ts_ins 179 46 = some (.iload_n 1, 47, 0) := by decide +kernel
theorem i179_47 : ts_ins 179 47 = some (.iaload, 48, 0) := by decide +kernel
theorem i179_48 : ts_ins 179 48 = some (.isub, 49, 0) := by decide +kernel
theorem i179_49 : ts_ins 179 49 = some (.iconst 1, 50, 0) := by decide +kernel
theorem i179_50 : ts_ins 179 50 = some (.iadd, 51, 0) := by decide +kernel
theorem i179_51 : ts_ins 179 51 = some (.iload 4, 53, 0) := by decide +kernel
theorem i179_53 : ts_ins 179 53 = some (.iadd, 54, 0) := by decide +kernel
theorem i179_54 : ts_ins 179 54 = some (.iaload, 55, 0) := by decide +kernel
theorem i179_55 : ts_ins 179 55 = some (.aload_n 0, 56, 0) := by decide +kernel
theorem i179_56 : ts_ins 179 56 = some (.getfield 9, 59, 0) := by decide +kernel
theorem g179_56 : ts_fm 179 9 = some (12, 0, 2) := by decide +kernel
theorem i179_59 : ts_ins 179 59 = some (.bipush 49, 61, 0) := by decide +kernel
theorem i179_61 : ts_ins 179 61 = some (.bipush 6, 63, 0) := by decide +kernel
theorem i179_63 : ts_ins 179 63 = some (.iload_n 1, 64, 0) := by decide +kernel
theorem i179_64 : ts_ins 179 64 = some (.imul, 65, 0) := by decide +kernel
theorem i179_65 : ts_ins 179 65 = some (.iadd, 66, 0) := by decide +kernel
theorem i179_66 : ts_ins 179 66 = some (.iload 4, 68, 0) := by decide +kernel
theorem i179_68 : ts_ins 179 68 = some (.iadd, 69, 0) := by decide +kernel
theorem i179_69 : ts_ins 179 69 = some (.iaload, 70, 0) := by decide +kernel
theorem i179_70 : ts_ins 179 70 = some (.if_icmp .ne 7, 73, 77) := by decide +kernel
theorem i179_73 : ts_ins 179 73 = some (.iconst 1, 74, 0) := by decide +kernel
theorem i179_74 : ts_ins 179 74 = some (.goto 4, 77, 78) := by decide +kernel
theorem i179_77 : ts_ins 179 77 = some (.iconst 0, 78, 0) := by decide +kernel
theorem i179_78 : ts_ins 179 78 = some (.istore_n 3, 79, 0) := by decide +kernel
theorem i179_79 : ts_ins 179 79 = some (.iinc 4 1, 82, 0) := by decide +kernel
theorem i179_82 : ts_ins 179 82 = some (.goto (-60), 85, 22) := by decide +kernel
theorem i179_85 : ts_ins 179 85 = some (.iload_n 3, 86, 0) := by decide +kernel
theorem i179_86 : ts_ins 179 86 = some (.ifCond .eq 5, 89, 91) := by decide +kernel
theorem i179_89 : ts_ins 179 89 = some (.iload_n 2, 90, 0) := by decide +kernel
theorem i179_90 : ts_ins 179 90 = some (.ireturn, 91, 0) := by decide +kernel
theorem i179_91 : ts_ins 179 91 = some (.iinc 2 1, 94, 0) := by decide +kernel
theorem i179_94 : ts_ins 179 94 = some (.goto (-85), 97, 9) := by decide +kernel
theorem i179_97 : ts_ins 179 97 = some (.bipush (-2), 99, 0) := by decide +kernel
theorem i179_99 : ts_ins 179 99 = some (.ireturn, 100, 0) := by decide +kernel
theorem r179 : ts_rt 179 = ((some .int), 0, 0) := by decide +kernel
theorem l179 : ts_ml 179 = 5 := by decide +kernel
/-! PLANS: the reference -/
abbrev fmp : Nat → Nat → Prop := fun a k => (a = 72 ∧ (13 ≤ k ∧ k ≤ 17 ∨ k = 22)) ∨ a = 80 ∨ a = 81 ∨ a = 82 ∨ a = 83
/-- a tone, -1 for what is not heard -/
abbrev g_hm1 (f : ts_Fl) (w : ts_Lw) (it : Int → Int) (b : Int) : Int := if g_hd f w it b = -2 then -1 else g_hd f w it b
def RMp (I : Nat → Nat → Int32) (f : ts_Fl) (w : ts_Lw) (it : Int → Int) (n : Int) : Prop := rd (I 72 22) 0 40 n ∧ ar I 82 n (-1) 7 (g_hm1 f w it) ∧ ar I 83 (n + 1) 0 144 (g_pc f it) ∧ ar I 81 16 0 9 (pcn f it n.toNat)
section PM
variable {X : ts_X} {I J : Nat → Nat → Int32} {L : Nat → Nat → Int64} {sw : Bool} {K : Option Value → ts_H → Prop} {d : Nat} {f : ts_Fl} {w : ts_Lw} {s : ts_Sh} {it c : Int → Int} {n : Int}
theorem RM.fmp (h : RM I f) (e : fr fmp I J) : RM J f := h.co72 (fr_row e (fun k => by omega)) (fr_row e (fun k => by omega)) (e 72 6 (by omega)) (e 72 7 (by omega))
theorem RMw.fmp (h : RMw I w) (e : fr fmp I J) : RMw J w := h.co (e 72 12 (by omega)) (fr_row e (fun k => by omega))
theorem g_hd_m (hM : RM I f) {b : Int} (h : it b = 16 ∨ (0 ≤ it b ∧ it b < 16)) : -2 ≤ g_hd f w it b ∧ g_hd f w it b ≤ 7 ∧ ¬ g_hd f w it b = -1 := by
  unfold g_hd
  by_cases c : it b = 16
  · rw [if_pos c]; decide
  · rw [if_neg c]
    have := (hM.tone (it b) (by omega) (by omega)).2
    split <;> omega
theorem m_goesPlan (hM : RM I f) (hW : RMw I w) (hO : ROw w) (hS : RMs I L s) (hQ : ROs s) {x : Int} (hx : 0 ≤ x ∧ x < 6) (h50 : s.1 x = 50) (hK : ∀ J, fr fmp I J → RMp J f w (s.2.2 x) (g_pb s f x) → K none (J, L, ts_P0 sw, ts_S0)) : ts_Cal X (d + 82) 178 [.ref 72, .int (zI (x))] (I, L, ts_P0 sw, ts_S0) K := by
  have b1 := hM.men.2
  have hz := (hS.2.1 x hx.1 hx.2).2
  have hm : 0 ≤ g_pm s x ∧ g_pm s x ≤ 40 ∧ g_pm s x ≤ s.2.1 x ∧ (g_pm s x < 40 → g_pm s x = s.2.1 x) := by unfold g_pm; omega
  have hby : ∀ k : Int, 0 ≤ k → k < 60 → -128 ≤ s.2.2 x k ∧ s.2.2 x k ≤ 127 := fun k k0 k1 => (hQ x hx.1 hx.2).2.2.2 h50 k k0 k1
  have done : ∀ b J o o2 o3, fr fmp I J → RMp J f w (s.2.2 x) b → b = g_pb s f x → ts_Ev X (ts_Cal X (d + 81)) 178 ts_S0 K 32 [.ref 72, .int (zI (x)), .int (zI (0)), o, o2, o3] [] (J, L, ts_P0 sw, ts_S0) := by
    intro b J o o2 o3 hJ hR hb
    refine ev_iloadn_2 i178_32 ?_
    first
    | refine ew_ifeqB i178_33 (fun c33 => ?_) (fun c33 => ?_)
    | refine ew_ifeq i178_33 (by omega) (fun c33 => ?_) (fun c33 => ?_)
    · refine ev_return i178_224 r178 ?_
      rw [hb] at hR
      exact hK J hJ hR
    · exact absurd rfl c33
  have loop : 0 < f_men f → ∀ b : Int, 0 ≤ b → b ≤ g_pm s x → ∀ J o o2 o3, fr fmp I J → RMp J f w (s.2.2 x) b → zfd (g_pm s x) (fun b => ¬ g_pok f (s.2.2 x) b) (g_pm s x) b = g_pb s f x → ts_Ev X (ts_Cal X (d + 81)) 178 ts_S0 K 32 [.ref 72, .int (zI (x)), .int (zI (1)), o, o2, o3] [] (J, L, ts_P0 sw, ts_S0) := by
    intro hmen
    refine ts_ind (g_pm s x) (fun b ih h0 h1 J o o2 o3 hJ hR hZ => ?_)
    have hMJ := hM.fmp hJ
    have hWJ := hW.fmp hJ
    have hSJ : RMs J L s := hS.co (fun a p0 p1 => ⟨fr_row hJ (fun k => by omega), rfl⟩)
    have rb : 0 ≤ b % f_men f ∧ b % f_men f < f_men f := ⟨Int.emod_nonneg _ (by omega), Int.emod_lt_of_pos _ hmen⟩
    have pcs := pcn_s (f := f) (it := s.2.2 x) h0
    have fin : b < g_pm s x → g_pok f (s.2.2 x) b → ∀ J1 o2 o3, fr fmp I J1 → rd (J1 72 22) 0 40 b → rd (J1 82 b.toNat) (-1) 7 (g_hm1 f w (s.2.2 x) b) → ar J1 82 b (-1) 7 (g_hm1 f w (s.2.2 x)) → ar J1 83 (b + 1) 0 144 (g_pc f (s.2.2 x)) → ar J1 81 16 0 9 (pcn f (s.2.2 x) (b + 1).toNat) → ts_Ev X (ts_Cal X (d + 81)) 178 ts_S0 K 198 [.ref 72, .int (zI (x)), .int (zI (1)), .long (zL (s.2.2 x b)), o2, o3] [] (J1, L, ts_P0 sw, ts_S0) := by
      intro hb ok J1 o2 o3 hJ1 r22 v82 a82 a83 a81
      have a82' : ar J1 82 (b + 1) (-1) 7 (g_hm1 f w (s.2.2 x)) := fun p p0 p1 => by
        by_cases e : p = b
        · subst e; exact v82
        · exact a82 p p0 (by omega)
      rw [zfd_1 hb, if_neg (fun r => r ok)] at hZ
      refine ev_aloadn_0 i178_198 ?_
      refine ev_dup i178_199 rfl ?_
      refine ew_getI i178_200 g178_200 rfl (by first | exact r22 | exact hM.men | exact hM.told | exact hM.road | exact hM.stand _ (by omega) (by omega) | exact hM.reach _ (by omega) (by omega) | exact hM.arm _ (by omega) (by omega) | exact hM.late _ (by omega) (by omega) | exact hM.len _ (by omega) (by omega) | exact hM.corn _ (by omega) (by omega) | exact hM.say (by omega) (by omega) _ (by omega) (by omega) | exact hM.tone _ (by omega) (by omega)) (fun b200 => ?_)
      refine ew_iconst i178_203 ?_
      refine ew_iadd i178_204 ?_
      refine ev_putI i178_205 g178_205 rfl ?_
      refine ev_aloadn_0 i178_208 ?_
      refine ev_getA i178_209 g178_209 rfl rfl (by decide) ?_
      refine ev_aloadn_0 i178_212 ?_
      refine ew_getI i178_213 g178_213 rfl ((rd_zI (lo := 0) (hi := 40) (v := b + 1) (by omega))) (fun b213 => ?_)
      refine ev_aloadn_0 i178_216 ?_
      refine ev_virt0 i178_217 g178_217 rfl (by decide +kernel) (Nat.le_of_ble_eq_true rfl) (m_cornAll (c := pcn f (s.2.2 x) (b + 1).toNat) (ar_co a81 rfl) (fun z0 z1 => ?_))
      refine ew_iastore i178_220 rfl (by omega) (by omega) (by omega) ?_
      refine ev_goto i178_221 ?_
      refine ih (by omega) (by omega) (by omega) _ _ _ _ (fr_up (fr_up hJ1 (by omega)) (by omega)) ⟨rd_zI (by omega), ar_co a82' rfl, ?_, ar_co a81 rfl⟩ hZ
      exact ar_ext2 (ar_co a83 rfl) (by omega) ⟨z0, z1⟩
    refine ev_iloadn_2 i178_32 ?_
    first
    | refine ew_ifeqB i178_33 (fun c33 => ?_) (fun c33 => ?_)
    | refine ew_ifeq i178_33 (by omega) (fun c33 => ?_) (fun c33 => ?_)
    · have e : b = g_pb s f x := by
        rw [← hZ, zfd_0 (by omega)]
        omega
      first
      | (exfalso; omega)
      | (rw [e] at hR
         refine ev_return i178_224 r178 ?_
         exact hK J hJ hR)
    · refine ev_aloadn_0 i178_36 ?_
      refine ew_getI i178_37 g178_37 rfl (by first | exact hR.1 | exact hMJ.men | exact hSJ.2.1 _ hx.1 hx.2 | exact hM.men | exact hM.told | exact hM.road | exact hM.stand _ (by omega) (by omega) | exact hM.reach _ (by omega) (by omega) | exact hM.arm _ (by omega) (by omega) | exact hM.late _ (by omega) (by omega) | exact hM.len _ (by omega) (by omega) | exact hM.corn _ (by omega) (by omega) | exact hM.say (by omega) (by omega) _ (by omega) (by omega) | exact hM.tone _ (by omega) (by omega)) (fun b37 => ?_)
      refine ew_bipush i178_40 (by decide) ?_
      refine ew_icmpge i178_42 (by omega) (fun c42 => ?_) (fun c42 => ?_)
      · have e : b = g_pb s f x := by
          rw [← hZ, zfd_0 (by omega)]
          omega
        first
        | (exfalso; omega)
        | (rw [e] at hR
           refine ev_return i178_224 r178 ?_
           exact hK J hJ hR)
      · refine ev_aloadn_0 i178_45 ?_
        refine ew_getI i178_46 g178_46 rfl (by first | exact hR.1 | exact hMJ.men | exact hSJ.2.1 _ hx.1 hx.2 | exact hM.men | exact hM.told | exact hM.road | exact hM.stand _ (by omega) (by omega) | exact hM.reach _ (by omega) (by omega) | exact hM.arm _ (by omega) (by omega) | exact hM.late _ (by omega) (by omega) | exact hM.len _ (by omega) (by omega) | exact hM.corn _ (by omega) (by omega) | exact hM.say (by omega) (by omega) _ (by omega) (by omega) | exact hM.tone _ (by omega) (by omega)) (fun b46 => ?_)
        refine ev_aloadn_0 i178_49 ?_
        refine ev_getA i178_50 g178_50 rfl rfl (by decide) ?_
        refine ev_iloadn_1 i178_53 ?_
        refine ew_iaload i178_54 rfl (by omega) (by omega) (by omega) (by first | exact hR.1 | exact hMJ.men | exact hSJ.2.1 _ hx.1 hx.2 | exact hM.men | exact hM.told | exact hM.road | exact hM.stand _ (by omega) (by omega) | exact hM.reach _ (by omega) (by omega) | exact hM.arm _ (by omega) (by omega) | exact hM.late _ (by omega) (by omega) | exact hM.len _ (by omega) (by omega) | exact hM.corn _ (by omega) (by omega) | exact hM.say (by omega) (by omega) _ (by omega) (by omega) | exact hM.tone _ (by omega) (by omega)) (fun b54 => ?_)
        refine ew_icmpge i178_55 (by omega) (fun c55 => ?_) (fun c55 => ?_)
        · have e : b = g_pb s f x := by
            rw [← hZ, zfd_0 (by omega)]
            omega
          first
          | (exfalso; omega)
          | (rw [e] at hR
             refine ev_return i178_224 r178 ?_
             exact hK J hJ hR)
        · refine ev_aloadn_0 i178_58 ?_
          refine ev_getA i178_59 g178_59 rfl rfl (by decide) ?_
          refine ew_bipush i178_62 (by decide) ?_
          refine ev_iloadn_1 i178_64 ?_
          refine ew_imul i178_65 ?_
          refine ev_aloadn_0 i178_66 ?_
          refine ew_getI i178_67 g178_67 rfl (by first | exact hR.1 | exact hMJ.men | exact hSJ.2.1 _ hx.1 hx.2 | exact hM.men | exact hM.told | exact hM.road | exact hM.stand _ (by omega) (by omega) | exact hM.reach _ (by omega) (by omega) | exact hM.arm _ (by omega) (by omega) | exact hM.late _ (by omega) (by omega) | exact hM.len _ (by omega) (by omega) | exact hM.corn _ (by omega) (by omega) | exact hM.say (by omega) (by omega) _ (by omega) (by omega) | exact hM.tone _ (by omega) (by omega)) (fun b67 => ?_)
          refine ew_iadd i178_70 ?_
          refine ew_laload i178_71 rfl (by omega) (by omega) (by omega) ((hSJ.2.2 x hx.1 hx.2 b h0 (by omega))) (fun b71 => ?_)
          have hbb := hby b h0 (by omega)
          refine ev_lstoren_3 i178_72 rfl ?_
          refine ev_aloadn_0 i178_73 ?_
          refine ew_getI i178_74 g178_74 rfl (by first | exact hR.1 | exact hMJ.men | exact hSJ.2.1 _ hx.1 hx.2 | exact hM.men | exact hM.told | exact hM.road | exact hM.stand _ (by omega) (by omega) | exact hM.reach _ (by omega) (by omega) | exact hM.arm _ (by omega) (by omega) | exact hM.late _ (by omega) (by omega) | exact hM.len _ (by omega) (by omega) | exact hM.corn _ (by omega) (by omega) | exact hM.say (by omega) (by omega) _ (by omega) (by omega) | exact hM.tone _ (by omega) (by omega)) (fun b74 => ?_)
          refine ev_aloadn_0 i178_77 ?_
          refine ew_getI i178_78 g178_78 rfl (by first | exact hR.1 | exact hMJ.men | exact hSJ.2.1 _ hx.1 hx.2 | exact hM.men | exact hM.told | exact hM.road | exact hM.stand _ (by omega) (by omega) | exact hM.reach _ (by omega) (by omega) | exact hM.arm _ (by omega) (by omega) | exact hM.late _ (by omega) (by omega) | exact hM.len _ (by omega) (by omega) | exact hM.corn _ (by omega) (by omega) | exact hM.say (by omega) (by omega) _ (by omega) (by omega) | exact hM.tone _ (by omega) (by omega)) (fun b78 => ?_)
          refine ew_iremB i178_81 (by omega) (by omega) (fun r81 => ?_)
          refine ev_istore_5 i178_82 rfl ?_
          refine ev_lloadn_3 i178_84 ?_
          refine ew_ldc2_w (z := (16)) i178_85 g178_85 (by decide) ?_
          refine ew_lcmp i178_88 (by omega) (by omega) ?_
          first
          | refine ew_ifeqB i178_89 (fun c89 => ?_) (fun c89 => ?_)
          | refine ew_ifeq i178_89 (by omega) (fun c89 => ?_) (fun c89 => ?_)
          · have ok : g_pok f (s.2.2 x) b := by
              refine ⟨hmen, ?_⟩
              first
              | exact Or.inl (by omega)
              | exact Or.inr ⟨by omega, by omega, by assumption⟩
            have hr := g_hd_m (it := s.2.2 x) (w := w) hM (b := b) (by have := ok.2; omega)
            refine ew_iconst i178_110 ?_
            refine ev_goto i178_111 ?_
            refine ev_istoren_2 i178_115 rfl ?_
            refine ev_iloadn_2 i178_116 ?_
            first
            | refine ew_ifeqB i178_117 (fun c117 => ?_) (fun c117 => ?_)
            | refine ew_ifeq i178_117 (by omega) (fun c117 => ?_) (fun c117 => ?_)
            · exact absurd c117 (by decide)
            · refine ev_aloadn_0 i178_120 ?_
              refine ev_getA i178_121 g178_121 rfl rfl (by decide) ?_
              refine ev_aloadn_0 i178_124 ?_
              refine ew_getI i178_125 g178_125 rfl (by first | exact hR.1 | exact hM.men | exact hM.told | exact hM.road | exact hM.stand _ (by omega) (by omega) | exact hM.reach _ (by omega) (by omega) | exact hM.arm _ (by omega) (by omega) | exact hM.late _ (by omega) (by omega) | exact hM.len _ (by omega) (by omega) | exact hM.corn _ (by omega) (by omega) | exact hM.say (by omega) (by omega) _ (by omega) (by omega) | exact hM.tone _ (by omega) (by omega)) (fun b125 => ?_)
              refine ew_iconst i178_128 ?_
              refine ew_iastore i178_129 rfl (by omega) (by omega) (by omega) ?_
              refine ev_lloadn_3 i178_130 ?_
              refine ew_ldc2_w (z := (16)) i178_131 g178_131 (by decide) ?_
              refine ew_lcmp i178_134 (by omega) (by omega) ?_
              first
              | refine ew_ifeqB i178_135 (fun c135 => ?_) (fun c135 => ?_)
              | refine ew_ifeq i178_135 (by omega) (fun c135 => ?_) (fun c135 => ?_)
              · first
                | (have p16 : s.2.2 x b = 16 := by omega
                   rw [if_pos p16] at pcs
                   have g2 : g_hm1 f w (s.2.2 x) b = -1 := by unfold g_hm1; rw [show g_hd f w (s.2.2 x) b = -2 from if_pos p16]; rfl
                   refine fin (by omega) ok _ _ _ (fr_up hJ (by omega)) hR.1 (by rw [ts_up_e, g2]; exact rd_zI (by decide)) (fun p p0 p1 => by rw [ts_up_nj (by omega)]; exact hR.2.1 p p0 p1) (ar_co hR.2.2.1 rfl) (by rw [pcs]; exact ar_co hR.2.2.2 rfl))
                | (have p16 : ¬ s.2.2 x b = 16 := by omega
                   rw [if_neg p16] at pcs
                   have go : ∀ v k : Int, v = g_hm1 f w (s.2.2 x) b → k = tk (pcn f (s.2.2 x) b.toNat) (s.2.2 x b) → ts_Ev X (ts_Cal X (d + 81)) 178 ts_S0 K 198 [.ref 72, .int (zI (x)), .int (zI (1)), .long (zL (s.2.2 x b)), .null, .int (zI (b % f_men f))] [] (ts_up (ts_up J1 82 b.toNat (zI v)) 81 (s.2.2 x b).toNat (zI (pcn f (s.2.2 x) b.toNat (s.2.2 x b) - k)), L, ts_P0 sw, ts_S0) := by
                     intro v k hv hk
                     subst hv
                     subst hk
                     refine fin (by omega) ok _ _ _ (fr_up (fr_up h3' (by omega)) (by omega)) r22 (by rw [ts_up_na (by decide), ts_up_e]; exact rd_zI (by unfold g_hm1; omega)) (fun p p0 p1 => by rw [ts_up_na (by decide), ts_up_nj (by omega)]; exact a82 p p0 p1) (ar_co a83 rfl) ?_
                     rw [pcs]
                     exact ar_up (ar_co a81 rfl) pr.1 (by omega)
                   first
                   | exact go _ _ (by unfold g_hm1; omega) (by omega)
                   | (exfalso; omega))
              · refine ev_aloadn_0 i178_138 ?_
                refine ev_getA i178_139 g178_139 rfl rfl (by decide) ?_
                refine ev_aloadn_0 i178_142 ?_
                refine ew_getI i178_143 g178_143 rfl (by first | exact hR.1 | exact hM.men | exact hM.told | exact hM.road | exact hM.stand _ (by omega) (by omega) | exact hM.reach _ (by omega) (by omega) | exact hM.arm _ (by omega) (by omega) | exact hM.late _ (by omega) (by omega) | exact hM.len _ (by omega) (by omega) | exact hM.corn _ (by omega) (by omega) | exact hM.say (by omega) (by omega) _ (by omega) (by omega) | exact hM.tone _ (by omega) (by omega)) (fun b143 => ?_)
                refine ev_aloadn_0 i178_146 ?_
                refine ev_lloadn_3 i178_147 ?_
                refine ew_l2i i178_148 ?_
                refine ev_iload_5 i178_149 ?_
                refine ev_aloadn_0 i178_151 ?_
                refine ew_getI i178_152 g178_152 rfl (by first | exact hR.1 | exact hM.men | exact hM.told | exact hM.road | exact hM.stand _ (by omega) (by omega) | exact hM.reach _ (by omega) (by omega) | exact hM.arm _ (by omega) (by omega) | exact hM.late _ (by omega) (by omega) | exact hM.len _ (by omega) (by omega) | exact hM.corn _ (by omega) (by omega) | exact hM.say (by omega) (by omega) _ (by omega) (by omega) | exact hM.tone _ (by omega) (by omega)) (fun b152 => ?_)
                refine ev_virt3 i178_155 g178_155 rfl (by decide +kernel) (Nat.le_of_ble_eq_true rfl) (m_loudOf (hMJ.fmp (fr_up (fr_rfl _ _) (by omega))) (hWJ.fmp (fr_up (fr_rfl _ _) (by omega))) hO (ar_co hR.2.2.2 rfl) ⟨by have := ok.2; omega, by have := ok.2; omega⟩ ⟨rb.1, by omega⟩ (by omega) (fun J1 h3 => ?_))
                have gl := g_ld_r w (f_tone f (s.2.2 x b)) (pcn f (s.2.2 x) b.toNat (s.2.2 x b)) (f_road f) (b % f_men f) (f_arm f (b % f_men f)) (b % 4)
                have h3' : fr fmp I J1 := fr_tr (fr_up hJ (by omega)) (fr_mo h3 (fun a k q => by omega))
                have hM1 := hM.fmp h3'
                have ghd : g_hd f w (s.2.2 x) b = if 0 < g_ld w (f_tone f (s.2.2 x b)) (pcn f (s.2.2 x) b.toNat (s.2.2 x b)) (f_road f) (b % f_men f) (f_arm f (b % f_men f)) (b % 4) then f_tone f (s.2.2 x b) else -2 := if_neg (by omega)
                have a81 : ar J1 81 16 0 9 (pcn f (s.2.2 x) b.toNat) := ar_co hR.2.2.2 ((fr_row h3 (fun k => by omega)).trans rfl)
                have a82 : ar J1 82 b (-1) 7 (g_hm1 f w (s.2.2 x)) := fun p p0 p1 => by
                  rw [fr_row h3 (a := 82) (fun k => by omega), ts_up_nj (by omega)]
                  exact hR.2.1 p p0 p1
                have a83 : ar J1 83 (b + 1) 0 144 (g_pc f (s.2.2 x)) := ar_co hR.2.2.1 ((fr_row h3 (fun k => by omega)).trans rfl)
                have r22 : rd (J1 72 22) 0 40 b := by rw [h3 72 22 (by omega)]; exact hR.1
                have pr : 0 ≤ s.2.2 x b ∧ s.2.2 x b < 16 := by have := ok.2; omega
                have bc := (a81 (s.2.2 x b) pr.1 pr.2).2
                have tt := (hM1.tone (s.2.2 x b) pr.1 pr.2).2
                have tkk : tk (pcn f (s.2.2 x) b.toNat) (s.2.2 x b) = if 0 < pcn f (s.2.2 x) b.toNat (s.2.2 x b) then 1 else 0 := rfl
                refine ew_ifle i178_158 (by omega) (fun c158 => ?_) (fun c158 => ?_)
                · refine ew_iconst i178_171 ?_
                  refine ew_iastore i178_172 rfl (by omega) (by omega) (by omega) ?_
                  refine ev_aloadn_0 i178_173 ?_
                  refine ev_getA i178_174 g178_174 rfl rfl (by decide) ?_
                  refine ev_lloadn_3 i178_177 ?_
                  refine ew_l2i i178_178 ?_
                  refine ev_dup2 i178_179 ?_
                  refine ew_iaload i178_180 rfl (by omega) (by omega) (by omega) ((a81 (s.2.2 x b) pr.1 pr.2)) (fun b180 => ?_)
                  refine ev_aloadn_0 i178_181 ?_
                  refine ev_getA i178_182 g178_182 rfl rfl (by decide) ?_
                  refine ev_lloadn_3 i178_185 ?_
                  refine ew_l2i i178_186 ?_
                  refine ew_iaload i178_187 rfl (by omega) (by omega) (by omega) ((a81 (s.2.2 x b) pr.1 pr.2)) (fun b187 => ?_)
                  refine ew_ifle i178_188 (by omega) (fun c188 => ?_) (fun c188 => ?_)
                  · refine ew_iconst i178_195 ?_
                    refine ew_isub i178_196 ?_
                    refine ew_iastore i178_197 rfl (by omega) (by omega) (by omega) ?_
                    first
                    | (have p16 : s.2.2 x b = 16 := by omega
                       rw [if_pos p16] at pcs
                       have g2 : g_hm1 f w (s.2.2 x) b = -1 := by unfold g_hm1; rw [show g_hd f w (s.2.2 x) b = -2 from if_pos p16]; rfl
                       refine fin (by omega) ok _ _ _ (fr_up hJ (by omega)) hR.1 (by rw [ts_up_e, g2]; exact rd_zI (by decide)) (fun p p0 p1 => by rw [ts_up_nj (by omega)]; exact hR.2.1 p p0 p1) (ar_co hR.2.2.1 rfl) (by rw [pcs]; exact ar_co hR.2.2.2 rfl))
                    | (have p16 : ¬ s.2.2 x b = 16 := by omega
                       rw [if_neg p16] at pcs
                       have go : ∀ v k : Int, v = g_hm1 f w (s.2.2 x) b → k = tk (pcn f (s.2.2 x) b.toNat) (s.2.2 x b) → ts_Ev X (ts_Cal X (d + 81)) 178 ts_S0 K 198 [.ref 72, .int (zI (x)), .int (zI (1)), .long (zL (s.2.2 x b)), .null, .int (zI (b % f_men f))] [] (ts_up (ts_up J1 82 b.toNat (zI v)) 81 (s.2.2 x b).toNat (zI (pcn f (s.2.2 x) b.toNat (s.2.2 x b) - k)), L, ts_P0 sw, ts_S0) := by
                         intro v k hv hk
                         subst hv
                         subst hk
                         refine fin (by omega) ok _ _ _ (fr_up (fr_up h3' (by omega)) (by omega)) r22 (by rw [ts_up_na (by decide), ts_up_e]; exact rd_zI (by unfold g_hm1; omega)) (fun p p0 p1 => by rw [ts_up_na (by decide), ts_up_nj (by omega)]; exact a82 p p0 p1) (ar_co a83 rfl) ?_
                         rw [pcs]
                         exact ar_up (ar_co a81 rfl) pr.1 (by omega)
                       first
                       | exact go _ _ (by unfold g_hm1; omega) (by omega)
                       | (exfalso; omega))
                  · refine ew_iconst i178_191 ?_
                    refine ev_goto i178_192 ?_
                    refine ew_isub i178_196 ?_
                    refine ew_iastore i178_197 rfl (by omega) (by omega) (by omega) ?_
                    first
                    | (have p16 : s.2.2 x b = 16 := by omega
                       rw [if_pos p16] at pcs
                       have g2 : g_hm1 f w (s.2.2 x) b = -1 := by unfold g_hm1; rw [show g_hd f w (s.2.2 x) b = -2 from if_pos p16]; rfl
                       refine fin (by omega) ok _ _ _ (fr_up hJ (by omega)) hR.1 (by rw [ts_up_e, g2]; exact rd_zI (by decide)) (fun p p0 p1 => by rw [ts_up_nj (by omega)]; exact hR.2.1 p p0 p1) (ar_co hR.2.2.1 rfl) (by rw [pcs]; exact ar_co hR.2.2.2 rfl))
                    | (have p16 : ¬ s.2.2 x b = 16 := by omega
                       rw [if_neg p16] at pcs
                       have go : ∀ v k : Int, v = g_hm1 f w (s.2.2 x) b → k = tk (pcn f (s.2.2 x) b.toNat) (s.2.2 x b) → ts_Ev X (ts_Cal X (d + 81)) 178 ts_S0 K 198 [.ref 72, .int (zI (x)), .int (zI (1)), .long (zL (s.2.2 x b)), .null, .int (zI (b % f_men f))] [] (ts_up (ts_up J1 82 b.toNat (zI v)) 81 (s.2.2 x b).toNat (zI (pcn f (s.2.2 x) b.toNat (s.2.2 x b) - k)), L, ts_P0 sw, ts_S0) := by
                         intro v k hv hk
                         subst hv
                         subst hk
                         refine fin (by omega) ok _ _ _ (fr_up (fr_up h3' (by omega)) (by omega)) r22 (by rw [ts_up_na (by decide), ts_up_e]; exact rd_zI (by unfold g_hm1; omega)) (fun p p0 p1 => by rw [ts_up_na (by decide), ts_up_nj (by omega)]; exact a82 p p0 p1) (ar_co a83 rfl) ?_
                         rw [pcs]
                         exact ar_up (ar_co a81 rfl) pr.1 (by omega)
                       first
                       | exact go _ _ (by unfold g_hm1; omega) (by omega)
                       | (exfalso; omega))
                · refine ev_aloadn_0 i178_161 ?_
                  refine ev_getA i178_162 g178_162 rfl rfl (by decide) ?_
                  refine ev_lloadn_3 i178_165 ?_
                  refine ew_l2i i178_166 ?_
                  refine ew_iaload i178_167 rfl (by omega) (by omega) (by omega) ((hM1.tone (s.2.2 x b) pr.1 pr.2)) (fun b167 => ?_)
                  refine ev_goto i178_168 ?_
                  refine ew_iastore i178_172 rfl (by omega) (by omega) (by omega) ?_
                  refine ev_aloadn_0 i178_173 ?_
                  refine ev_getA i178_174 g178_174 rfl rfl (by decide) ?_
                  refine ev_lloadn_3 i178_177 ?_
                  refine ew_l2i i178_178 ?_
                  refine ev_dup2 i178_179 ?_
                  refine ew_iaload i178_180 rfl (by omega) (by omega) (by omega) ((a81 (s.2.2 x b) pr.1 pr.2)) (fun b180 => ?_)
                  refine ev_aloadn_0 i178_181 ?_
                  refine ev_getA i178_182 g178_182 rfl rfl (by decide) ?_
                  refine ev_lloadn_3 i178_185 ?_
                  refine ew_l2i i178_186 ?_
                  refine ew_iaload i178_187 rfl (by omega) (by omega) (by omega) ((a81 (s.2.2 x b) pr.1 pr.2)) (fun b187 => ?_)
                  refine ew_ifle i178_188 (by omega) (fun c188 => ?_) (fun c188 => ?_)
                  · refine ew_iconst i178_195 ?_
                    refine ew_isub i178_196 ?_
                    refine ew_iastore i178_197 rfl (by omega) (by omega) (by omega) ?_
                    first
                    | (have p16 : s.2.2 x b = 16 := by omega
                       rw [if_pos p16] at pcs
                       have g2 : g_hm1 f w (s.2.2 x) b = -1 := by unfold g_hm1; rw [show g_hd f w (s.2.2 x) b = -2 from if_pos p16]; rfl
                       refine fin (by omega) ok _ _ _ (fr_up hJ (by omega)) hR.1 (by rw [ts_up_e, g2]; exact rd_zI (by decide)) (fun p p0 p1 => by rw [ts_up_nj (by omega)]; exact hR.2.1 p p0 p1) (ar_co hR.2.2.1 rfl) (by rw [pcs]; exact ar_co hR.2.2.2 rfl))
                    | (have p16 : ¬ s.2.2 x b = 16 := by omega
                       rw [if_neg p16] at pcs
                       have go : ∀ v k : Int, v = g_hm1 f w (s.2.2 x) b → k = tk (pcn f (s.2.2 x) b.toNat) (s.2.2 x b) → ts_Ev X (ts_Cal X (d + 81)) 178 ts_S0 K 198 [.ref 72, .int (zI (x)), .int (zI (1)), .long (zL (s.2.2 x b)), .null, .int (zI (b % f_men f))] [] (ts_up (ts_up J1 82 b.toNat (zI v)) 81 (s.2.2 x b).toNat (zI (pcn f (s.2.2 x) b.toNat (s.2.2 x b) - k)), L, ts_P0 sw, ts_S0) := by
                         intro v k hv hk
                         subst hv
                         subst hk
                         refine fin (by omega) ok _ _ _ (fr_up (fr_up h3' (by omega)) (by omega)) r22 (by rw [ts_up_na (by decide), ts_up_e]; exact rd_zI (by unfold g_hm1; omega)) (fun p p0 p1 => by rw [ts_up_na (by decide), ts_up_nj (by omega)]; exact a82 p p0 p1) (ar_co a83 rfl) ?_
                         rw [pcs]
                         exact ar_up (ar_co a81 rfl) pr.1 (by omega)
                       first
                       | exact go _ _ (by unfold g_hm1; omega) (by omega)
                       | (exfalso; omega))
                  · refine ew_iconst i178_191 ?_
                    refine ev_goto i178_192 ?_
                    refine ew_isub i178_196 ?_
                    refine ew_iastore i178_197 rfl (by omega) (by omega) (by omega) ?_
                    first
                    | (have p16 : s.2.2 x b = 16 := by omega
                       rw [if_pos p16] at pcs
                       have g2 : g_hm1 f w (s.2.2 x) b = -1 := by unfold g_hm1; rw [show g_hd f w (s.2.2 x) b = -2 from if_pos p16]; rfl
                       refine fin (by omega) ok _ _ _ (fr_up hJ (by omega)) hR.1 (by rw [ts_up_e, g2]; exact rd_zI (by decide)) (fun p p0 p1 => by rw [ts_up_nj (by omega)]; exact hR.2.1 p p0 p1) (ar_co hR.2.2.1 rfl) (by rw [pcs]; exact ar_co hR.2.2.2 rfl))
                    | (have p16 : ¬ s.2.2 x b = 16 := by omega
                       rw [if_neg p16] at pcs
                       have go : ∀ v k : Int, v = g_hm1 f w (s.2.2 x) b → k = tk (pcn f (s.2.2 x) b.toNat) (s.2.2 x b) → ts_Ev X (ts_Cal X (d + 81)) 178 ts_S0 K 198 [.ref 72, .int (zI (x)), .int (zI (1)), .long (zL (s.2.2 x b)), .null, .int (zI (b % f_men f))] [] (ts_up (ts_up J1 82 b.toNat (zI v)) 81 (s.2.2 x b).toNat (zI (pcn f (s.2.2 x) b.toNat (s.2.2 x b) - k)), L, ts_P0 sw, ts_S0) := by
                         intro v k hv hk
                         subst hv
                         subst hk
                         refine fin (by omega) ok _ _ _ (fr_up (fr_up h3' (by omega)) (by omega)) r22 (by rw [ts_up_na (by decide), ts_up_e]; exact rd_zI (by unfold g_hm1; omega)) (fun p p0 p1 => by rw [ts_up_na (by decide), ts_up_nj (by omega)]; exact a82 p p0 p1) (ar_co a83 rfl) ?_
                         rw [pcs]
                         exact ar_up (ar_co a81 rfl) pr.1 (by omega)
                       first
                       | exact go _ _ (by unfold g_hm1; omega) (by omega)
                       | (exfalso; omega))
          · refine ev_lloadn_3 i178_92 ?_
            refine ev_stat1 i178_93 g178_93 (by decide +kernel) (Nat.le_of_ble_eq_true rfl) (m_isPlank (by omega) ?_)
            first
            | refine ew_ifeqB i178_96 (fun c96 => ?_) (fun c96 => ?_)
            | refine ew_ifeq i178_96 (by omega) (fun c96 => ?_) (fun c96 => ?_)
            · have nok : ¬ g_pok f (s.2.2 x) b := fun r => by
                rcases r.2 with r2 | r2
                · omega
                · first
                  | exact c96 ⟨r2.1, r2.2.1⟩
                  | exact c107 r2.2.2
              have e : b = g_pb s f x := by rw [← hZ, zfd_1 (by omega), if_pos nok]
              refine ew_iconst i178_114 ?_
              refine ev_istoren_2 i178_115 rfl ?_
              refine ev_iloadn_2 i178_116 ?_
              first
              | refine ew_ifeqB i178_117 (fun c117 => ?_) (fun c117 => ?_)
              | refine ew_ifeq i178_117 (by omega) (fun c117 => ?_) (fun c117 => ?_)
              · refine ev_goto i178_221 ?_
                exact done b J _ _ _ hJ hR e
              · exact absurd c117 (by decide)
            · refine ev_aloadn_0 i178_99 ?_
              refine ev_iload_5 i178_100 ?_
              refine ev_lloadn_3 i178_102 ?_
              refine ew_l2i i178_103 ?_
              refine ev_virt2 i178_104 g178_104 rfl (by decide +kernel) (Nat.le_of_ble_eq_true rfl) (m_reaches hMJ rb.1 (by omega) (by omega) (by omega) ?_)
              first
              | refine ew_ifeqB i178_107 (fun c107 => ?_) (fun c107 => ?_)
              | refine ew_ifeq i178_107 (by omega) (fun c107 => ?_) (fun c107 => ?_)
              · have nok : ¬ g_pok f (s.2.2 x) b := fun r => by
                  rcases r.2 with r2 | r2
                  · omega
                  · first
                    | exact c96 ⟨r2.1, r2.2.1⟩
                    | exact c107 r2.2.2
                have e : b = g_pb s f x := by rw [← hZ, zfd_1 (by omega), if_pos nok]
                refine ew_iconst i178_114 ?_
                refine ev_istoren_2 i178_115 rfl ?_
                refine ev_iloadn_2 i178_116 ?_
                first
                | refine ew_ifeqB i178_117 (fun c117 => ?_) (fun c117 => ?_)
                | refine ew_ifeq i178_117 (by omega) (fun c117 => ?_) (fun c117 => ?_)
                · refine ev_goto i178_221 ?_
                  exact done b J _ _ _ hJ hR e
                · exact absurd c117 (by decide)
              · have ok : g_pok f (s.2.2 x) b := by
                  refine ⟨hmen, ?_⟩
                  first
                  | exact Or.inl (by omega)
                  | exact Or.inr ⟨by omega, by omega, by assumption⟩
                have hr := g_hd_m (it := s.2.2 x) (w := w) hM (b := b) (by have := ok.2; omega)
                refine ew_iconst i178_110 ?_
                refine ev_goto i178_111 ?_
                refine ev_istoren_2 i178_115 rfl ?_
                refine ev_iloadn_2 i178_116 ?_
                first
                | refine ew_ifeqB i178_117 (fun c117 => ?_) (fun c117 => ?_)
                | refine ew_ifeq i178_117 (by omega) (fun c117 => ?_) (fun c117 => ?_)
                · exact absurd c117 (by decide)
                · refine ev_aloadn_0 i178_120 ?_
                  refine ev_getA i178_121 g178_121 rfl rfl (by decide) ?_
                  refine ev_aloadn_0 i178_124 ?_
                  refine ew_getI i178_125 g178_125 rfl (by first | exact hR.1 | exact hM.men | exact hM.told | exact hM.road | exact hM.stand _ (by omega) (by omega) | exact hM.reach _ (by omega) (by omega) | exact hM.arm _ (by omega) (by omega) | exact hM.late _ (by omega) (by omega) | exact hM.len _ (by omega) (by omega) | exact hM.corn _ (by omega) (by omega) | exact hM.say (by omega) (by omega) _ (by omega) (by omega) | exact hM.tone _ (by omega) (by omega)) (fun b125 => ?_)
                  refine ew_iconst i178_128 ?_
                  refine ew_iastore i178_129 rfl (by omega) (by omega) (by omega) ?_
                  refine ev_lloadn_3 i178_130 ?_
                  refine ew_ldc2_w (z := (16)) i178_131 g178_131 (by decide) ?_
                  refine ew_lcmp i178_134 (by omega) (by omega) ?_
                  first
                  | refine ew_ifeqB i178_135 (fun c135 => ?_) (fun c135 => ?_)
                  | refine ew_ifeq i178_135 (by omega) (fun c135 => ?_) (fun c135 => ?_)
                  · first
                    | (have p16 : s.2.2 x b = 16 := by omega
                       rw [if_pos p16] at pcs
                       have g2 : g_hm1 f w (s.2.2 x) b = -1 := by unfold g_hm1; rw [show g_hd f w (s.2.2 x) b = -2 from if_pos p16]; rfl
                       refine fin (by omega) ok _ _ _ (fr_up hJ (by omega)) hR.1 (by rw [ts_up_e, g2]; exact rd_zI (by decide)) (fun p p0 p1 => by rw [ts_up_nj (by omega)]; exact hR.2.1 p p0 p1) (ar_co hR.2.2.1 rfl) (by rw [pcs]; exact ar_co hR.2.2.2 rfl))
                    | (have p16 : ¬ s.2.2 x b = 16 := by omega
                       rw [if_neg p16] at pcs
                       have go : ∀ v k : Int, v = g_hm1 f w (s.2.2 x) b → k = tk (pcn f (s.2.2 x) b.toNat) (s.2.2 x b) → ts_Ev X (ts_Cal X (d + 81)) 178 ts_S0 K 198 [.ref 72, .int (zI (x)), .int (zI (1)), .long (zL (s.2.2 x b)), .null, .int (zI (b % f_men f))] [] (ts_up (ts_up J1 82 b.toNat (zI v)) 81 (s.2.2 x b).toNat (zI (pcn f (s.2.2 x) b.toNat (s.2.2 x b) - k)), L, ts_P0 sw, ts_S0) := by
                         intro v k hv hk
                         subst hv
                         subst hk
                         refine fin (by omega) ok _ _ _ (fr_up (fr_up h3' (by omega)) (by omega)) r22 (by rw [ts_up_na (by decide), ts_up_e]; exact rd_zI (by unfold g_hm1; omega)) (fun p p0 p1 => by rw [ts_up_na (by decide), ts_up_nj (by omega)]; exact a82 p p0 p1) (ar_co a83 rfl) ?_
                         rw [pcs]
                         exact ar_up (ar_co a81 rfl) pr.1 (by omega)
                       first
                       | exact go _ _ (by unfold g_hm1; omega) (by omega)
                       | (exfalso; omega))
                  · refine ev_aloadn_0 i178_138 ?_
                    refine ev_getA i178_139 g178_139 rfl rfl (by decide) ?_
                    refine ev_aloadn_0 i178_142 ?_
                    refine ew_getI i178_143 g178_143 rfl (by first | exact hR.1 | exact hM.men | exact hM.told | exact hM.road | exact hM.stand _ (by omega) (by omega) | exact hM.reach _ (by omega) (by omega) | exact hM.arm _ (by omega) (by omega) | exact hM.late _ (by omega) (by omega) | exact hM.len _ (by omega) (by omega) | exact hM.corn _ (by omega) (by omega) | exact hM.say (by omega) (by omega) _ (by omega) (by omega) | exact hM.tone _ (by omega) (by omega)) (fun b143 => ?_)
                    refine ev_aloadn_0 i178_146 ?_
                    refine ev_lloadn_3 i178_147 ?_
                    refine ew_l2i i178_148 ?_
                    refine ev_iload_5 i178_149 ?_
                    refine ev_aloadn_0 i178_151 ?_
                    refine ew_getI i178_152 g178_152 rfl (by first | exact hR.1 | exact hM.men | exact hM.told | exact hM.road | exact hM.stand _ (by omega) (by omega) | exact hM.reach _ (by omega) (by omega) | exact hM.arm _ (by omega) (by omega) | exact hM.late _ (by omega) (by omega) | exact hM.len _ (by omega) (by omega) | exact hM.corn _ (by omega) (by omega) | exact hM.say (by omega) (by omega) _ (by omega) (by omega) | exact hM.tone _ (by omega) (by omega)) (fun b152 => ?_)
                    refine ev_virt3 i178_155 g178_155 rfl (by decide +kernel) (Nat.le_of_ble_eq_true rfl) (m_loudOf (hMJ.fmp (fr_up (fr_rfl _ _) (by omega))) (hWJ.fmp (fr_up (fr_rfl _ _) (by omega))) hO (ar_co hR.2.2.2 rfl) ⟨by have := ok.2; omega, by have := ok.2; omega⟩ ⟨rb.1, by omega⟩ (by omega) (fun J1 h3 => ?_))
                    have gl := g_ld_r w (f_tone f (s.2.2 x b)) (pcn f (s.2.2 x) b.toNat (s.2.2 x b)) (f_road f) (b % f_men f) (f_arm f (b % f_men f)) (b % 4)
                    have h3' : fr fmp I J1 := fr_tr (fr_up hJ (by omega)) (fr_mo h3 (fun a k q => by omega))
                    have hM1 := hM.fmp h3'
                    have ghd : g_hd f w (s.2.2 x) b = if 0 < g_ld w (f_tone f (s.2.2 x b)) (pcn f (s.2.2 x) b.toNat (s.2.2 x b)) (f_road f) (b % f_men f) (f_arm f (b % f_men f)) (b % 4) then f_tone f (s.2.2 x b) else -2 := if_neg (by omega)
                    have a81 : ar J1 81 16 0 9 (pcn f (s.2.2 x) b.toNat) := ar_co hR.2.2.2 ((fr_row h3 (fun k => by omega)).trans rfl)
                    have a82 : ar J1 82 b (-1) 7 (g_hm1 f w (s.2.2 x)) := fun p p0 p1 => by
                      rw [fr_row h3 (a := 82) (fun k => by omega), ts_up_nj (by omega)]
                      exact hR.2.1 p p0 p1
                    have a83 : ar J1 83 (b + 1) 0 144 (g_pc f (s.2.2 x)) := ar_co hR.2.2.1 ((fr_row h3 (fun k => by omega)).trans rfl)
                    have r22 : rd (J1 72 22) 0 40 b := by rw [h3 72 22 (by omega)]; exact hR.1
                    have pr : 0 ≤ s.2.2 x b ∧ s.2.2 x b < 16 := by have := ok.2; omega
                    have bc := (a81 (s.2.2 x b) pr.1 pr.2).2
                    have tt := (hM1.tone (s.2.2 x b) pr.1 pr.2).2
                    have tkk : tk (pcn f (s.2.2 x) b.toNat) (s.2.2 x b) = if 0 < pcn f (s.2.2 x) b.toNat (s.2.2 x b) then 1 else 0 := rfl
                    refine ew_ifle i178_158 (by omega) (fun c158 => ?_) (fun c158 => ?_)
                    · refine ew_iconst i178_171 ?_
                      refine ew_iastore i178_172 rfl (by omega) (by omega) (by omega) ?_
                      refine ev_aloadn_0 i178_173 ?_
                      refine ev_getA i178_174 g178_174 rfl rfl (by decide) ?_
                      refine ev_lloadn_3 i178_177 ?_
                      refine ew_l2i i178_178 ?_
                      refine ev_dup2 i178_179 ?_
                      refine ew_iaload i178_180 rfl (by omega) (by omega) (by omega) ((a81 (s.2.2 x b) pr.1 pr.2)) (fun b180 => ?_)
                      refine ev_aloadn_0 i178_181 ?_
                      refine ev_getA i178_182 g178_182 rfl rfl (by decide) ?_
                      refine ev_lloadn_3 i178_185 ?_
                      refine ew_l2i i178_186 ?_
                      refine ew_iaload i178_187 rfl (by omega) (by omega) (by omega) ((a81 (s.2.2 x b) pr.1 pr.2)) (fun b187 => ?_)
                      refine ew_ifle i178_188 (by omega) (fun c188 => ?_) (fun c188 => ?_)
                      · refine ew_iconst i178_195 ?_
                        refine ew_isub i178_196 ?_
                        refine ew_iastore i178_197 rfl (by omega) (by omega) (by omega) ?_
                        first
                        | (have p16 : s.2.2 x b = 16 := by omega
                           rw [if_pos p16] at pcs
                           have g2 : g_hm1 f w (s.2.2 x) b = -1 := by unfold g_hm1; rw [show g_hd f w (s.2.2 x) b = -2 from if_pos p16]; rfl
                           refine fin (by omega) ok _ _ _ (fr_up hJ (by omega)) hR.1 (by rw [ts_up_e, g2]; exact rd_zI (by decide)) (fun p p0 p1 => by rw [ts_up_nj (by omega)]; exact hR.2.1 p p0 p1) (ar_co hR.2.2.1 rfl) (by rw [pcs]; exact ar_co hR.2.2.2 rfl))
                        | (have p16 : ¬ s.2.2 x b = 16 := by omega
                           rw [if_neg p16] at pcs
                           have go : ∀ v k : Int, v = g_hm1 f w (s.2.2 x) b → k = tk (pcn f (s.2.2 x) b.toNat) (s.2.2 x b) → ts_Ev X (ts_Cal X (d + 81)) 178 ts_S0 K 198 [.ref 72, .int (zI (x)), .int (zI (1)), .long (zL (s.2.2 x b)), .null, .int (zI (b % f_men f))] [] (ts_up (ts_up J1 82 b.toNat (zI v)) 81 (s.2.2 x b).toNat (zI (pcn f (s.2.2 x) b.toNat (s.2.2 x b) - k)), L, ts_P0 sw, ts_S0) := by
                             intro v k hv hk
                             subst hv
                             subst hk
                             refine fin (by omega) ok _ _ _ (fr_up (fr_up h3' (by omega)) (by omega)) r22 (by rw [ts_up_na (by decide), ts_up_e]; exact rd_zI (by unfold g_hm1; omega)) (fun p p0 p1 => by rw [ts_up_na (by decide), ts_up_nj (by omega)]; exact a82 p p0 p1) (ar_co a83 rfl) ?_
                             rw [pcs]
                             exact ar_up (ar_co a81 rfl) pr.1 (by omega)
                           first
                           | exact go _ _ (by unfold g_hm1; omega) (by omega)
                           | (exfalso; omega))
                      · refine ew_iconst i178_191 ?_
                        refine ev_goto i178_192 ?_
                        refine ew_isub i178_196 ?_
                        refine ew_iastore i178_197 rfl (by omega) (by omega) (by omega) ?_
                        first
                        | (have p16 : s.2.2 x b = 16 := by omega
                           rw [if_pos p16] at pcs
                           have g2 : g_hm1 f w (s.2.2 x) b = -1 := by unfold g_hm1; rw [show g_hd f w (s.2.2 x) b = -2 from if_pos p16]; rfl
                           refine fin (by omega) ok _ _ _ (fr_up hJ (by omega)) hR.1 (by rw [ts_up_e, g2]; exact rd_zI (by decide)) (fun p p0 p1 => by rw [ts_up_nj (by omega)]; exact hR.2.1 p p0 p1) (ar_co hR.2.2.1 rfl) (by rw [pcs]; exact ar_co hR.2.2.2 rfl))
                        | (have p16 : ¬ s.2.2 x b = 16 := by omega
                           rw [if_neg p16] at pcs
                           have go : ∀ v k : Int, v = g_hm1 f w (s.2.2 x) b → k = tk (pcn f (s.2.2 x) b.toNat) (s.2.2 x b) → ts_Ev X (ts_Cal X (d + 81)) 178 ts_S0 K 198 [.ref 72, .int (zI (x)), .int (zI (1)), .long (zL (s.2.2 x b)), .null, .int (zI (b % f_men f))] [] (ts_up (ts_up J1 82 b.toNat (zI v)) 81 (s.2.2 x b).toNat (zI (pcn f (s.2.2 x) b.toNat (s.2.2 x b) - k)), L, ts_P0 sw, ts_S0) := by
                             intro v k hv hk
                             subst hv
                             subst hk
                             refine fin (by omega) ok _ _ _ (fr_up (fr_up h3' (by omega)) (by omega)) r22 (by rw [ts_up_na (by decide), ts_up_e]; exact rd_zI (by unfold g_hm1; omega)) (fun p p0 p1 => by rw [ts_up_na (by decide), ts_up_nj (by omega)]; exact a82 p p0 p1) (ar_co a83 rfl) ?_
                             rw [pcs]
                             exact ar_up (ar_co a81 rfl) pr.1 (by omega)
                           first
                           | exact go _ _ (by unfold g_hm1; omega) (by omega)
                           | (exfalso; omega))
                    · refine ev_aloadn_0 i178_161 ?_
                      refine ev_getA i178_162 g178_162 rfl rfl (by decide) ?_
                      refine ev_lloadn_3 i178_165 ?_
                      refine ew_l2i i178_166 ?_
                      refine ew_iaload i178_167 rfl (by omega) (by omega) (by omega) ((hM1.tone (s.2.2 x b) pr.1 pr.2)) (fun b167 => ?_)
                      refine ev_goto i178_168 ?_
                      refine ew_iastore i178_172 rfl (by omega) (by omega) (by omega) ?_
                      refine ev_aloadn_0 i178_173 ?_
                      refine ev_getA i178_174 g178_174 rfl rfl (by decide) ?_
                      refine ev_lloadn_3 i178_177 ?_
                      refine ew_l2i i178_178 ?_
                      refine ev_dup2 i178_179 ?_
                      refine ew_iaload i178_180 rfl (by omega) (by omega) (by omega) ((a81 (s.2.2 x b) pr.1 pr.2)) (fun b180 => ?_)
                      refine ev_aloadn_0 i178_181 ?_
                      refine ev_getA i178_182 g178_182 rfl rfl (by decide) ?_
                      refine ev_lloadn_3 i178_185 ?_
                      refine ew_l2i i178_186 ?_
                      refine ew_iaload i178_187 rfl (by omega) (by omega) (by omega) ((a81 (s.2.2 x b) pr.1 pr.2)) (fun b187 => ?_)
                      refine ew_ifle i178_188 (by omega) (fun c188 => ?_) (fun c188 => ?_)
                      · refine ew_iconst i178_195 ?_
                        refine ew_isub i178_196 ?_
                        refine ew_iastore i178_197 rfl (by omega) (by omega) (by omega) ?_
                        first
                        | (have p16 : s.2.2 x b = 16 := by omega
                           rw [if_pos p16] at pcs
                           have g2 : g_hm1 f w (s.2.2 x) b = -1 := by unfold g_hm1; rw [show g_hd f w (s.2.2 x) b = -2 from if_pos p16]; rfl
                           refine fin (by omega) ok _ _ _ (fr_up hJ (by omega)) hR.1 (by rw [ts_up_e, g2]; exact rd_zI (by decide)) (fun p p0 p1 => by rw [ts_up_nj (by omega)]; exact hR.2.1 p p0 p1) (ar_co hR.2.2.1 rfl) (by rw [pcs]; exact ar_co hR.2.2.2 rfl))
                        | (have p16 : ¬ s.2.2 x b = 16 := by omega
                           rw [if_neg p16] at pcs
                           have go : ∀ v k : Int, v = g_hm1 f w (s.2.2 x) b → k = tk (pcn f (s.2.2 x) b.toNat) (s.2.2 x b) → ts_Ev X (ts_Cal X (d + 81)) 178 ts_S0 K 198 [.ref 72, .int (zI (x)), .int (zI (1)), .long (zL (s.2.2 x b)), .null, .int (zI (b % f_men f))] [] (ts_up (ts_up J1 82 b.toNat (zI v)) 81 (s.2.2 x b).toNat (zI (pcn f (s.2.2 x) b.toNat (s.2.2 x b) - k)), L, ts_P0 sw, ts_S0) := by
                             intro v k hv hk
                             subst hv
                             subst hk
                             refine fin (by omega) ok _ _ _ (fr_up (fr_up h3' (by omega)) (by omega)) r22 (by rw [ts_up_na (by decide), ts_up_e]; exact rd_zI (by unfold g_hm1; omega)) (fun p p0 p1 => by rw [ts_up_na (by decide), ts_up_nj (by omega)]; exact a82 p p0 p1) (ar_co a83 rfl) ?_
                             rw [pcs]
                             exact ar_up (ar_co a81 rfl) pr.1 (by omega)
                           first
                           | exact go _ _ (by unfold g_hm1; omega) (by omega)
                           | (exfalso; omega))
                      · refine ew_iconst i178_191 ?_
                        refine ev_goto i178_192 ?_
                        refine ew_isub i178_196 ?_
                        refine ew_iastore i178_197 rfl (by omega) (by omega) (by omega) ?_
                        first
                        | (have p16 : s.2.2 x b = 16 := by omega
                           rw [if_pos p16] at pcs
                           have g2 : g_hm1 f w (s.2.2 x) b = -1 := by unfold g_hm1; rw [show g_hd f w (s.2.2 x) b = -2 from if_pos p16]; rfl
                           refine fin (by omega) ok _ _ _ (fr_up hJ (by omega)) hR.1 (by rw [ts_up_e, g2]; exact rd_zI (by decide)) (fun p p0 p1 => by rw [ts_up_nj (by omega)]; exact hR.2.1 p p0 p1) (ar_co hR.2.2.1 rfl) (by rw [pcs]; exact ar_co hR.2.2.2 rfl))
                        | (have p16 : ¬ s.2.2 x b = 16 := by omega
                           rw [if_neg p16] at pcs
                           have go : ∀ v k : Int, v = g_hm1 f w (s.2.2 x) b → k = tk (pcn f (s.2.2 x) b.toNat) (s.2.2 x b) → ts_Ev X (ts_Cal X (d + 81)) 178 ts_S0 K 198 [.ref 72, .int (zI (x)), .int (zI (1)), .long (zL (s.2.2 x b)), .null, .int (zI (b % f_men f))] [] (ts_up (ts_up J1 82 b.toNat (zI v)) 81 (s.2.2 x b).toNat (zI (pcn f (s.2.2 x) b.toNat (s.2.2 x b) - k)), L, ts_P0 sw, ts_S0) := by
                             intro v k hv hk
                             subst hv
                             subst hk
                             refine fin (by omega) ok _ _ _ (fr_up (fr_up h3' (by omega)) (by omega)) r22 (by rw [ts_up_na (by decide), ts_up_e]; exact rd_zI (by unfold g_hm1; omega)) (fun p p0 p1 => by rw [ts_up_na (by decide), ts_up_nj (by omega)]; exact a82 p p0 p1) (ar_co a83 rfl) ?_
                             rw [pcs]
                             exact ar_up (ar_co a81 rfl) pr.1 (by omega)
                           first
                           | exact go _ _ (by unfold g_hm1; omega) (by omega)
                           | (exfalso; omega))
  refine ev_enter (lv := [.ref 72, .int (zI (x)), .null, .null, .null, .null]) l178 rfl (Nat.le_of_ble_eq_true rfl) ?_
  refine ev_aloadn_0 i178_0 ?_
  refine ev_virt0 i178_1 g178_1 rfl (by decide +kernel) (Nat.le_of_ble_eq_true rfl) (m_takesNow hM (fun J h1 h2 => ?_))
  refine ev_aloadn_0 i178_4 ?_
  refine ew_iconst i178_5 ?_
  refine ev_putI i178_6 g178_6 rfl ?_
  refine ev_aloadn_0 i178_9 ?_
  refine ev_getA i178_10 g178_10 rfl rfl (by decide) ?_
  refine ew_iconst i178_13 ?_
  refine ev_aloadn_0 i178_14 ?_
  refine ev_virt0 i178_15 g178_15 rfl (by decide +kernel) (Nat.le_of_ble_eq_true rfl) (m_cornAll (c := f_corn f) (ar_co h2 rfl) (fun z0 z1 => ?_))
  refine ew_iastore i178_18 rfl (by omega) (by omega) (by omega) ?_
  refine ev_aloadn_0 i178_19 ?_
  refine ew_getI i178_20 g178_20 rfl (((hM.fcm h1).men)) (fun b20 => ?_)
  refine ew_ifle i178_23 (by omega) (fun c23 => ?_) (fun c23 => ?_)
  · refine ew_iconst i178_30 ?_
    refine ev_istoren_2 i178_31 rfl ?_
    have h2' : fr fmp I (ts_up (ts_up J 72 22 (zI 0)) 83 0 (zI (zsum (f_corn f) 16))) := fr_up (fr_up (fr_mo h1 (fun a k q => by omega)) (by omega)) (by omega)
    have hR0 : RMp (ts_up (ts_up J 72 22 (zI 0)) 83 0 (zI (zsum (f_corn f) 16))) f w (s.2.2 x) 0 := ⟨rd_zI (by decide), fun p p0 p1 => by omega, fun p p0 p1 => by
      obtain rfl : p = 0 := by omega
      exact ⟨rfl, z0, z1⟩, ar_co h2 rfl⟩
    first
    | (have e := loop (by omega) 0 (by decide) hm.1 _ (.int (zI (1))) .null .null h2' hR0 rfl
       exact loop (by omega) 0 (by decide) hm.1 _ _ _ _ h2' hR0 rfl)
    | (refine done 0 _ _ _ _ h2' hR0 ?_
       unfold g_pb
       by_cases c : 0 < g_pm s x
       · rw [zfd_1 c, if_pos (fun r => by have r1 := r.1; omega)]
       · rw [zfd_0 c]
         omega)
  · refine ew_iconst i178_26 ?_
    refine ev_goto i178_27 ?_
    refine ev_istoren_2 i178_31 rfl ?_
    have h2' : fr fmp I (ts_up (ts_up J 72 22 (zI 0)) 83 0 (zI (zsum (f_corn f) 16))) := fr_up (fr_up (fr_mo h1 (fun a k q => by omega)) (by omega)) (by omega)
    have hR0 : RMp (ts_up (ts_up J 72 22 (zI 0)) 83 0 (zI (zsum (f_corn f) 16))) f w (s.2.2 x) 0 := ⟨rd_zI (by decide), fun p p0 p1 => by omega, fun p p0 p1 => by
      obtain rfl : p = 0 := by omega
      exact ⟨rfl, z0, z1⟩, ar_co h2 rfl⟩
    first
    | (have e := loop (by omega) 0 (by decide) hm.1 _ (.int (zI (1))) .null .null h2' hR0 rfl
       exact loop (by omega) 0 (by decide) hm.1 _ _ _ _ h2' hR0 rfl)
    | (refine done 0 _ _ _ _ h2' hR0 ?_
       unfold g_pb
       by_cases c : 0 < g_pm s x
       · rw [zfd_1 c, if_pos (fun r => by have r1 := r.1; omega)]
       · rw [zfd_0 c]
         omega)
theorem m_wholeAt (hM : RM I f) (hRO : RO f) (hR : RMp I f w it n) {t : Int} (ht : 0 ≤ t ∧ t < f_told f) (hK : K (some (.int (zI (g_wh f w it n t)))) (I, L, ts_P0 sw, ts_S0)) : ts_Cal X (d + 1) 179 [.ref 72, .int (zI (t))] (I, L, ts_P0 sw, ts_S0) K := by
  have b1 := hM.told.2
  have b2 := (hM.len t (by omega) (by omega)).2
  have b3 := hR.1.2
  have b4 := hRO.2 t ht.1 ht.2
  have loop : ∀ b : Int, 0 ≤ b → b ≤ 50 → f_len f t - 1 ≤ b → ∀ o o2, zfd n (g_swh f w it t) (-2) b = g_wh f w it n t → ts_Ev X (ts_Cal X (d + 0)) 179 ts_S0 K 9 [.ref 72, .int (zI (t)), .int (zI (b)), o, o2] [] (I, L, ts_P0 sw, ts_S0) := by
    refine ts_ind 45 (fun b ih h0 h1 h1' o o2 h2 => ?_)
    have inner : b < n → ∀ k : Int, 0 ≤ k → k ≤ f_len f t → ts_Ev X (ts_Cal X (d + 0)) 179 ts_S0 K 22 [.ref 72, .int (zI (t)), .int (zI (b)), .int (zI (if zall (fun k => g_hd f w it (b - f_len f t + 1 + k) = f_say f t k) k.toNat = true then 1 else 0)), .int (zI (k))] [] (I, L, ts_P0 sw, ts_S0) := by
      intro hb
      refine ts_ind (f_len f t) (fun k ihk k0 k1 => ?_)
      have sp := zall_s (g := fun k => g_hd f w it (b - f_len f t + 1 + k) = f_say f t k) k0
      refine ev_iload_4 i179_22 ?_
      refine ev_aloadn_0 i179_24 ?_
      refine ev_getA i179_25 g179_25 rfl rfl (by decide) ?_
      refine ev_iloadn_1 i179_28 ?_
      refine ew_iaload i179_29 rfl (by omega) (by omega) (by omega) (by first | exact hM.len _ (by omega) (by omega) | exact hM.men | exact hM.told | exact hM.road | exact hM.stand _ (by omega) (by omega) | exact hM.reach _ (by omega) (by omega) | exact hM.arm _ (by omega) (by omega) | exact hM.late _ (by omega) (by omega) | exact hM.len _ (by omega) (by omega) | exact hM.corn _ (by omega) (by omega) | exact hM.say (by omega) (by omega) _ (by omega) (by omega) | exact hM.tone _ (by omega) (by omega)) (fun b29 => ?_)
      refine ew_icmpge i179_30 (by omega) (fun c30 => ?_) (fun c30 => ?_)
      · refine ev_iloadn_3 i179_85 ?_
        first
        | refine ew_ifeqB i179_86 (fun c86 => ?_) (fun c86 => ?_)
        | refine ew_ifeq i179_86 (by omega) (fun c86 => ?_) (fun c86 => ?_)
        · refine ew_iinc_2 i179_91 rfl ?_
          refine ev_goto i179_94 ?_
          obtain rfl : k = f_len f t := by omega
          rw [zfd_1 hb, if_neg c86] at h2
          exact ih (by omega) (by omega) (by omega) (by omega) _ _ h2
        · refine ev_iloadn_2 i179_89 ?_
          refine ev_ireturn i179_90 r179 ?_
          obtain rfl : k = f_len f t := by omega
          rw [zfd_1 hb, if_pos c86] at h2
          rw [← h2] at hK
          exact hK
      · refine ev_iloadn_3 i179_33 ?_
        first
        | refine ew_ifeqB i179_34 (fun c34 => ?_) (fun c34 => ?_)
        | refine ew_ifeq i179_34 (by omega) (fun c34 => ?_) (fun c34 => ?_)
        · refine ew_iconst i179_77 ?_
          refine ev_istoren_3 i179_78 rfl ?_
          refine ew_iinc_4 i179_79 rfl ?_
          refine ev_goto i179_82 ?_
          have e := ihk (by omega) (by omega) (by omega)
          first
            | (have q : g_hd f w it (b - f_len f t + 1 + k) = f_say f t k := by unfold g_hm1 at c70; omega
               rw [if_pos (sp.mpr ⟨c34, q⟩)] at e
               exact e)
            | (have q : ¬ g_hd f w it (b - f_len f t + 1 + k) = f_say f t k := by unfold g_hm1 at c70; omega
               rw [if_neg (fun r => q (sp.mp r).2)] at e
               exact e)
            | (rw [if_neg (fun r => c34 (sp.mp r).1)] at e
               exact e)
        · refine ev_aloadn_0 i179_37 ?_
          refine ev_getA i179_38 g179_38 rfl rfl (by decide) ?_
          refine ev_iloadn_2 i179_41 ?_
          refine ev_aloadn_0 i179_42 ?_
          refine ev_getA i179_43 g179_43 rfl rfl (by decide) ?_
          refine ev_iloadn_1 i179_46 ?_
          refine ew_iaload i179_47 rfl (by omega) (by omega) (by omega) (by first | exact hM.len _ (by omega) (by omega) | exact hM.men | exact hM.told | exact hM.road | exact hM.stand _ (by omega) (by omega) | exact hM.reach _ (by omega) (by omega) | exact hM.arm _ (by omega) (by omega) | exact hM.late _ (by omega) (by omega) | exact hM.len _ (by omega) (by omega) | exact hM.corn _ (by omega) (by omega) | exact hM.say (by omega) (by omega) _ (by omega) (by omega) | exact hM.tone _ (by omega) (by omega)) (fun b47 => ?_)
          refine ew_isub i179_48 ?_
          refine ew_iconst i179_49 ?_
          refine ew_iadd i179_50 ?_
          refine ev_iload_4 i179_51 ?_
          refine ew_iadd i179_53 ?_
          refine ew_iaload i179_54 rfl (by omega) (by omega) (by omega) ((hR.2.1 _ (by omega) (by omega))) (fun b54 => ?_)
          refine ev_aloadn_0 i179_55 ?_
          refine ev_getA i179_56 g179_56 rfl rfl (by decide) ?_
          refine ew_bipush i179_59 (by decide) ?_
          refine ew_bipush i179_61 (by decide) ?_
          refine ev_iloadn_1 i179_63 ?_
          refine ew_imul i179_64 ?_
          refine ew_iadd i179_65 ?_
          refine ev_iload_4 i179_66 ?_
          refine ew_iadd i179_68 ?_
          refine ew_iaload i179_69 rfl (by omega) (by omega) (by omega) ((hM.say (by omega) (by omega) k k0 (by omega))) (fun b69 => ?_)
          refine ew_icmpne i179_70 (by omega) (fun c70 => ?_) (fun c70 => ?_)
          · refine ew_iconst i179_77 ?_
            refine ev_istoren_3 i179_78 rfl ?_
            refine ew_iinc_4 i179_79 rfl ?_
            refine ev_goto i179_82 ?_
            have e := ihk (by omega) (by omega) (by omega)
            first
              | (have q : g_hd f w it (b - f_len f t + 1 + k) = f_say f t k := by unfold g_hm1 at c70; omega
                 rw [if_pos (sp.mpr ⟨c34, q⟩)] at e
                 exact e)
              | (have q : ¬ g_hd f w it (b - f_len f t + 1 + k) = f_say f t k := by unfold g_hm1 at c70; omega
                 rw [if_neg (fun r => q (sp.mp r).2)] at e
                 exact e)
              | (rw [if_neg (fun r => c34 (sp.mp r).1)] at e
                 exact e)
          · refine ew_iconst i179_73 ?_
            refine ev_goto i179_74 ?_
            refine ev_istoren_3 i179_78 rfl ?_
            refine ew_iinc_4 i179_79 rfl ?_
            refine ev_goto i179_82 ?_
            have e := ihk (by omega) (by omega) (by omega)
            first
              | (have q : g_hd f w it (b - f_len f t + 1 + k) = f_say f t k := by unfold g_hm1 at c70; omega
                 rw [if_pos (sp.mpr ⟨c34, q⟩)] at e
                 exact e)
              | (have q : ¬ g_hd f w it (b - f_len f t + 1 + k) = f_say f t k := by unfold g_hm1 at c70; omega
                 rw [if_neg (fun r => q (sp.mp r).2)] at e
                 exact e)
              | (rw [if_neg (fun r => c34 (sp.mp r).1)] at e
                 exact e)
    refine ev_iloadn_2 i179_9 ?_
    refine ev_aloadn_0 i179_10 ?_
    refine ew_getI i179_11 g179_11 rfl (by first | exact hR.1 | exact hM.men | exact hM.told | exact hM.road | exact hM.stand _ (by omega) (by omega) | exact hM.reach _ (by omega) (by omega) | exact hM.arm _ (by omega) (by omega) | exact hM.late _ (by omega) (by omega) | exact hM.len _ (by omega) (by omega) | exact hM.corn _ (by omega) (by omega) | exact hM.say (by omega) (by omega) _ (by omega) (by omega) | exact hM.tone _ (by omega) (by omega)) (fun b11 => ?_)
    refine ew_icmpge i179_14 (by omega) (fun c14 => ?_) (fun c14 => ?_)
    · refine ew_bipush i179_97 (by decide) ?_
      refine ev_ireturn i179_99 r179 ?_
      rw [zfd_0 (by omega)] at h2
      rw [← h2] at hK
      exact hK
    · refine ew_iconst i179_17 ?_
      refine ev_istoren_3 i179_18 rfl ?_
      refine ew_iconst i179_19 ?_
      refine ev_istore_4 i179_20 rfl ?_
      have e := inner (by omega) 0 (by decide) (by omega)
      exact e
  refine ev_enter (lv := [.ref 72, .int (zI (t)), .null, .null, .null]) l179 rfl (Nat.le_of_ble_eq_true rfl) ?_
  refine ev_aloadn_0 i179_0 ?_
  refine ev_getA i179_1 g179_1 rfl rfl (by decide) ?_
  refine ev_iloadn_1 i179_4 ?_
  refine ew_iaload i179_5 rfl (by omega) (by omega) (by omega) (by first | exact hM.len _ (by omega) (by omega) | exact hM.men | exact hM.told | exact hM.road | exact hM.stand _ (by omega) (by omega) | exact hM.reach _ (by omega) (by omega) | exact hM.arm _ (by omega) (by omega) | exact hM.late _ (by omega) (by omega) | exact hM.len _ (by omega) (by omega) | exact hM.corn _ (by omega) (by omega) | exact hM.say (by omega) (by omega) _ (by omega) (by omega) | exact hM.tone _ (by omega) (by omega)) (fun b5 => ?_)
  refine ew_iconst i179_6 ?_
  refine ew_isub i179_7 ?_
  refine ev_istoren_2 i179_8 rfl ?_
  exact loop _ (by omega) (by omega) (Int.le_refl _) _ _ rfl
end PM
