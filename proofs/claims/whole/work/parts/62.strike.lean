theorem i120_0 : ts_ins 120 0 = some (.iload_n 1, 1, 0) := by decide +kernel
theorem i120_1 : ts_ins 120 1 = some (.ifCond .lt 9, 4, 10) := by decide +kernel
theorem i120_4 : ts_ins 120 4 = some (.iload_n 1, 5, 0) := by decide +kernel
theorem i120_5 : ts_ins 120 5 = some (.bipush 16, 7, 0) := by decide +kernel
theorem i120_7 : ts_ins 120 7 = some (.if_icmp .le 5, 10, 12) := by decide +kernel
theorem i120_10 : ts_ins 120 10 = some (.iconst (-1), 11, 0) := by decide +kernel
theorem i120_11 : ts_ins 120 11 = some (.ireturn, 12, 0) := by decide +kernel
theorem i120_12 : ts_ins 120 12 = some (.aload_n 0, 13, 0) := by decide +kernel
theorem i120_13 : ts_ins 120 13 = some (.getfield 56, 16, 0) := by decide +kernel
theorem g120_13 : ts_fm 120 56 = some (11, 6, 2) := by decide +kernel
theorem i120_16 : ts_ins 120 16 = some (.getfield 286, 19, 0) := by decide +kernel
theorem g120_16 : ts_fm 120 286 = some (1, 0, 2) := by decide +kernel
theorem i120_19 : ts_ins 120 19 = some (.iconst 0, 20, 0) := by decide +kernel
theorem i120_20 : ts_ins 120 20 = some (.iaload, 21, 0) := by decide +kernel
theorem i120_21 : ts_ins 120 21 = some (.istore_n 2, 22, 0) := by decide +kernel
theorem i120_22 : ts_ins 120 22 = some (.aload_n 0, 23, 0) := by decide +kernel
theorem i120_23 : ts_ins 120 23 = some (.getfield 10, 26, 0) := by decide +kernel
theorem g120_23 : ts_fm 120 10 = some (11, 0, 2) := by decide +kernel
theorem i120_26 : ts_ins 120 26 = some (.iload_n 2, 27, 0) := by decide +kernel
theorem i120_27 : ts_ins 120 27 = some (.invokevirtual 208, 30, 0) := by decide +kernel
theorem g120_27 : ts_cal (ts_mc 120) 208 = some (0, 25, 1) := by decide +kernel
theorem i120_30 : ts_ins 120 30 = some (.istore_n 3, 31, 0) := by decide +kernel
theorem i120_31 : ts_ins 120 31 = some (.iload_n 3, 32, 0) := by decide +kernel
theorem i120_32 : ts_ins 120 32 = some (.bipush (-2), 34, 0) := by decide +kernel
theorem i120_34 : ts_ins 120 34 = some (.if_icmp .ne 6, 37, 40) := by decide +kernel
theorem i120_37 : ts_ins 120 37 = some (.bipush (-5), 39, 0) := by decide +kernel
theorem i120_39 : ts_ins 120 39 = some (.ireturn, 40, 0) := by decide +kernel
theorem i120_40 : ts_ins 120 40 = some (.iload_n 1, 41, 0) := by decide +kernel
theorem i120_41 : ts_ins 120 41 = some (.bipush 16, 43, 0) := by decide +kernel
theorem i120_43 : ts_ins 120 43 = some (.if_icmp .ne 14, 46, 57) := by decide +kernel
theorem i120_46 : ts_ins 120 46 = some (.aload_n 0, 47, 0) := by decide +kernel
theorem i120_47 : ts_ins 120 47 = some (.getfield 56, 50, 0) := by decide +kernel
theorem g120_47 : ts_fm 120 56 = some (11, 6, 2) := by decide +kernel
theorem i120_50 : ts_ins 120 50 = some (.bipush 8, 52, 0) := by decide +kernel
theorem i120_52 : ts_ins 120 52 = some (.invokevirtual 289, 55, 0) := by decide +kernel
theorem g120_52 : ts_cal (ts_mc 120) 289 = some (0, 4, 1) := by decide +kernel
theorem i120_55 : ts_ins 120 55 = some (.iconst 0, 56, 0) := by decide +kernel
theorem i120_56 : ts_ins 120 56 = some (.ireturn, 57, 0) := by decide +kernel
theorem i120_57 : ts_ins 120 57 = some (.aload_n 0, 58, 0) := by decide +kernel
theorem i120_58 : ts_ins 120 58 = some (.getfield 10, 61, 0) := by decide +kernel
theorem g120_58 : ts_fm 120 10 = some (11, 0, 2) := by decide +kernel
theorem i120_61 : ts_ins 120 61 = some (.iload_n 3, 62, 0) := by decide +kernel
theorem i120_62 : ts_ins 120 62 = some (.iload_n 1, 63, 0) := by decide +kernel
theorem i120_63 : ts_ins 120 63 = some (.invokevirtual 293, 66, 0) := by decide +kernel
theorem g120_63 : ts_cal (ts_mc 120) 293 = some (0, 26, 2) := by decide +kernel
theorem i120_66 : ts_ins 120 66 = some (.ifCond .ne 6, 69, 72) := by decide +kernel
theorem i120_69 : ts_ins 120 69 = some (.bipush (-5), 71, 0) := by decide +kernel
theorem i120_71 : ts_ins 120 71 = some (.ireturn, 72, 0) := by decide +kernel
theorem i120_72 : ts_ins 120 72 = some (.aload_n 0, 73, 0) := by decide +kernel
theorem i120_73 : ts_ins 120 73 = some (.getfield 10, 76, 0) := by decide +kernel
theorem g120_73 : ts_fm 120 10 = some (11, 0, 2) := by decide +kernel
theorem i120_76 : ts_ins 120 76 = some (.iload_n 3, 77, 0) := by decide +kernel
theorem i120_77 : ts_ins 120 77 = some (.aload_n 0, 78, 0) := by decide +kernel
theorem i120_78 : ts_ins 120 78 = some (.getfield 10, 81, 0) := by decide +kernel
theorem g120_78 : ts_fm 120 10 = some (11, 0, 2) := by decide +kernel
theorem i120_81 : ts_ins 120 81 = some (.getfield 220, 84, 0) := by decide +kernel
theorem g120_81 : ts_fm 120 220 = some (3, 0, 2) := by decide +kernel
theorem i120_84 : ts_ins 120 84 = some (.iload_n 1, 85, 0) := by decide +kernel
theorem i120_85 : ts_ins 120 85 = some (.iaload, 86, 0) := by decide +kernel
theorem i120_86 : ts_ins 120 86 = some (.aload_n 0, 87, 0) := by decide +kernel
theorem i120_87 : ts_ins 120 87 = some (.getfield 10, 90, 0) := by decide +kernel
theorem g120_87 : ts_fm 120 10 = some (11, 0, 2) := by decide +kernel
theorem i120_90 : ts_ins 120 90 = some (.getfield 296, 93, 0) := by decide +kernel
theorem g120_90 : ts_fm 120 296 = some (3, 1, 2) := by decide +kernel
theorem i120_93 : ts_ins 120 93 = some (.iload_n 1, 94, 0) := by decide +kernel
theorem i120_94 : ts_ins 120 94 = some (.iaload, 95, 0) := by decide +kernel
theorem i120_95 : ts_ins 120 95 = some (.iload_n 2, 96, 0) := by decide +kernel
theorem i120_96 : ts_ins 120 96 = some (.invokevirtual 297, 99, 0) := by decide +kernel
theorem g120_96 : ts_cal (ts_mc 120) 297 = some (0, 30, 4) := by decide +kernel
theorem i120_99 : ts_ins 120 99 = some (.istore 4, 101, 0) := by decide +kernel
theorem i120_101 : ts_ins 120 101 = some (.aload_n 0, 102, 0) := by decide +kernel
theorem i120_102 : ts_ins 120 102 = some (.getfield 56, 105, 0) := by decide +kernel
theorem g120_102 : ts_fm 120 56 = some (11, 6, 2) := by decide +kernel
theorem i120_105 : ts_ins 120 105 = some (.iload 4, 107, 0) := by decide +kernel
theorem i120_107 : ts_ins 120 107 = some (.ifCond .le 7, 110, 114) := by decide +kernel
theorem i120_110 : ts_ins 120 110 = some (.iconst 1, 111, 0) := by decide +kernel
theorem i120_111 : ts_ins 120 111 = some (.goto 4, 114, 115) := by decide +kernel
theorem i120_114 : ts_ins 120 114 = some (.iconst 0, 115, 0) := by decide +kernel
theorem i120_115 : ts_ins 120 115 = some (.aload_n 0, 116, 0) := by decide +kernel
theorem i120_116 : ts_ins 120 116 = some (.getfield 10, 119, 0) := by decide +kernel
theorem g120_116 : ts_fm 120 10 = some (11, 0, 2) := by decide +kernel
theorem i120_119 : ts_ins 120 119 = some (.getfield 220, 122, 0) := by decide +kernel
theorem g120_119 : ts_fm 120 220 = some (3, 0, 2) := by decide +kernel
theorem i120_122 : ts_ins 120 122 = some (.iload_n 1, 123, 0) := by decide +kernel
theorem i120_123 : ts_ins 120 123 = some (.iaload, 124, 0) := by decide +kernel
theorem i120_124 : ts_ins 120 124 = some (.aload_n 0, 125, 0) := by decide +kernel
theorem i120_125 : ts_ins 120 125 = some (.getfield 10, 128, 0) := by decide +kernel
theorem g120_125 : ts_fm 120 10 = some (11, 0, 2) := by decide +kernel
theorem i120_128 : ts_ins 120 128 = some (.getfield 296, 131, 0) := by decide +kernel
theorem g120_128 : ts_fm 120 296 = some (3, 1, 2) := by decide +kernel
theorem i120_131 : ts_ins 120 131 = some (.iload_n 1, 132, 0) := by decide +kernel
theorem i120_132 : ts_ins 120 132 = some (.iaload, 133, 0) := by decide +kernel
theorem i120_133 : ts_ins 120 133 = some (.ifCond .le 7, 136, 140) := by decide +kernel
theorem i120_136 : ts_ins 120 136 = some (.iconst 1, 137, 0) := by decide +kernel
theorem i120_137 : ts_ins 120 137 = some (.goto 4, 140, 141) := by decide +kernel
theorem i120_140 : ts_ins 120 140 = some (.iconst 0, 141, 0) := by decide +kernel
theorem i120_141 : ts_ins 120 141 = some (.invokevirtual 301, 144, 0) := by decide +kernel
theorem g120_141 : ts_cal (ts_mc 120) 301 = some (0, 5, 3) := by decide +kernel
theorem i120_144 : ts_ins 120 144 = some (.aload_n 0, 145, 0) := by decide +kernel
theorem i120_145 : ts_ins 120 145 = some (.getfield 10, 148, 0) := by decide +kernel
theorem g120_145 : ts_fm 120 10 = some (11, 0, 2) := by decide +kernel
theorem i120_148 : ts_ins 120 148 = some (.getfield 296, 151, 0) := by decide +kernel
theorem g120_148 : ts_fm 120 296 = some (3, 1, 2) := by decide +kernel
theorem i120_151 : ts_ins 120 151 = some (.iload_n 1, 152, 0) := by decide +kernel
theorem i120_152 : ts_ins 120 152 = some (.iconst 0, 153, 0) := by decide +kernel
theorem i120_153 : ts_ins 120 153 = some (.aload_n 0, 154, 0) := by decide +kernel
theorem i120_154 : ts_ins 120 154 = some (.getfield 10, 157, 0) := by decide +kernel
theorem g120_154 : ts_fm 120 10 = some (11, 0, 2) := by decide +kernel
theorem i120_157 : ts_ins 120 157 = some (.getfield 296, 160, 0) := by decide +kernel
theorem g120_157 : ts_fm 120 296 = some (3, 1, 2) := by decide +kernel
theorem i120_160 : ts_ins 120 160 = some (.iload_n 1, 161, 0) := by decide +kernel
theorem i120_161 : ts_ins 120 161 = some (.iaload, 162, 0) := by decide +kernel
theorem i120_162 : ts_ins 120 162 = some (.iconst 1, 163, 0) := by decide +kernel
theorem i120_163 : ts_ins 120 163 = some (.isub, 164, 0) := by decide +kernel
theorem i120_164 : ts_ins 120 164 = some (.invokestatic 305, 167, 0) := by decide +kernel
theorem g120_164 : ts_cal (ts_mc 120) 305 = some (5, 0, 2) := by decide +kernel
theorem i120_167 : ts_ins 120 167 = some (.iastore, 168, 0) := by decide +kernel
theorem i120_168 : ts_ins 120 168 = some (.iload 4, 170, 0) := by decide +kernel
theorem i120_170 : ts_ins 120 170 = some (.ireturn, 171, 0) := by decide +kernel
theorem r120 : ts_rt 120 = ((some .int), 0, 0) := by decide +kernel
theorem l120 : ts_ml 120 = 5 := by decide +kernel
theorem i121_0 : ts_ins 121 0 = some (.iload_n 1, 1, 0) := by decide +kernel
theorem i121_1 : ts_ins 121 1 = some (.invokestatic 92, 4, 0) := by decide +kernel
theorem g121_1 : ts_cal (ts_mc 121) 92 = some (1, 137, 1) := by decide +kernel
theorem i121_4 : ts_ins 121 4 = some (.ifCond .ne 5, 7, 9) := by decide +kernel
theorem i121_7 : ts_ins 121 7 = some (.iconst (-1), 8, 0) := by decide +kernel
theorem i121_8 : ts_ins 121 8 = some (.ireturn, 9, 0) := by decide +kernel
theorem i121_9 : ts_ins 121 9 = some (.aload_n 0, 10, 0) := by decide +kernel
theorem i121_10 : ts_ins 121 10 = some (.getfield 10, 13, 0) := by decide +kernel
theorem g121_10 : ts_fm 121 10 = some (11, 0, 2) := by decide +kernel
theorem i121_13 : ts_ins 121 13 = some (.getfield 296, 16, 0) := by decide +kernel
theorem g121_13 : ts_fm 121 296 = some (3, 1, 2) := by decide +kernel
theorem i121_16 : ts_ins 121 16 = some (.iload_n 1, 17, 0) := by decide +kernel
theorem i121_17 : ts_ins 121 17 = some (.bipush 9, 19, 0) := by decide +kernel
theorem i121_19 : ts_ins 121 19 = some (.aload_n 0, 20, 0) := by decide +kernel
theorem i121_20 : ts_ins 121 20 = some (.getfield 10, 23, 0) := by decide +kernel
theorem g121_20 : ts_fm 121 10 = some (11, 0, 2) := by decide +kernel
theorem i121_23 : ts_ins 121 23 = some (.getfield 296, 26, 0) := by decide +kernel
theorem g121_23 : ts_fm 121 296 = some (3, 1, 2) := by decide +kernel
theorem i121_26 : ts_ins 121 26 = some (.iload_n 1, 27, 0) := by decide +kernel
theorem i121_27 : ts_ins 121 27 = some (.iaload, 28, 0) := by decide +kernel
theorem i121_28 : ts_ins 121 28 = some (.iconst 1, 29, 0) := by decide +kernel
theorem i121_29 : ts_ins 121 29 = some (.iadd, 30, 0) := by decide +kernel
theorem i121_30 : ts_ins 121 30 = some (.invokestatic 310, 33, 0) := by decide +kernel
theorem g121_30 : ts_cal (ts_mc 121) 310 = some (6, 0, 2) := by decide +kernel
theorem i121_33 : ts_ins 121 33 = some (.iastore, 34, 0) := by decide +kernel
theorem i121_34 : ts_ins 121 34 = some (.aload_n 0, 35, 0) := by decide +kernel
theorem i121_35 : ts_ins 121 35 = some (.getfield 56, 38, 0) := by decide +kernel
theorem g121_35 : ts_fm 121 56 = some (11, 6, 2) := by decide +kernel
theorem i121_38 : ts_ins 121 38 = some (.getfield 286, 41, 0) := by decide +kernel
theorem g121_38 : ts_fm 121 286 = some (1, 0, 2) := by decide +kernel
theorem i121_41 : ts_ins 121 41 = some (.iconst 4, 42, 0) := by decide +kernel
theorem i121_42 : ts_ins 121 42 = some (.dup2, 43, 0) := by decide +kernel
theorem i121_43 : ts_ins 121 43 = some (.iaload, 44, 0) := by decide +kernel
theorem i121_44 : ts_ins 121 44 = some (.iconst 1, 45, 0) := by decide +kernel
theorem i121_45 : ts_ins 121 45 = some (.iadd, 46, 0) := by decide +kernel
theorem i121_46 : ts_ins 121 46 = some (.iastore, 47, 0) := by decide +kernel
theorem i121_47 : ts_ins 121 47 = some (.aload_n 0, 48, 0) := by decide +kernel
theorem i121_48 : ts_ins 121 48 = some (.getfield 10, 51, 0) := by decide +kernel
theorem g121_48 : ts_fm 121 10 = some (11, 0, 2) := by decide +kernel
theorem i121_51 : ts_ins 121 51 = some (.getfield 296, 54, 0) := by decide +kernel
theorem g121_51 : ts_fm 121 296 = some (3, 1, 2) := by decide +kernel
theorem i121_54 : ts_ins 121 54 = some (.iload_n 1, 55, 0) := by decide +kernel
theorem i121_55 : ts_ins 121 55 = some (.iaload, 56, 0) := by decide +kernel
theorem i121_56 : ts_ins 121 56 = some (.ireturn, 57, 0) := by decide +kernel
theorem r121 : ts_rt 121 = ((some .int), 0, 0) := by decide +kernel
theorem l121 : ts_ml 121 = 2 := by decide +kernel
theorem i122_0 : ts_ins 122 0 = some (.iload_n 1, 1, 0) := by decide +kernel
theorem i122_1 : ts_ins 122 1 = some (.ifCond .lt 18, 4, 19) := by decide +kernel
theorem i122_4 : ts_ins 122 4 = some (.iload_n 1, 5, 0) := by decide +kernel
theorem i122_5 : ts_ins 122 5 = some (.iconst 4, 6, 0) := by decide +kernel
theorem i122_6 : ts_ins 122 6 = some (.if_icmp .gt 13, 9, 19) := by decide +kernel
theorem i122_9 : ts_ins 122 9 = some (.aload_n 0, 10, 0) := by decide +kernel
theorem i122_10 : ts_ins 122 10 = some (.getfield 56, 13, 0) := by decide +kernel
theorem g122_10 : ts_fm 122 56 = some (11, 6, 2) := by decide +kernel
theorem i122_13 : ts_ins 122 13 = some (.getfield 286, 16, 0) := by decide +kernel
theorem g122_13 : ts_fm 122 286 = some (1, 0, 2) := by decide +kernel
theorem i122_16 : ts_ins 122 16 = some (.iload_n 1, 17, 0) := by decide +kernel
theorem i122_17 : ts_ins 122 17 = some (.iaload, 18, 0) := by decide +kernel
theorem i122_18 : ts_ins 122 18 = some (.ireturn, 19, 0) := by decide +kernel
theorem i122_19 : ts_ins 122 19 = some (.iload_n 1, 20, 0) := by decide +kernel
theorem i122_20 : ts_ins 122 20 = some (.bipush 10, 22, 0) := by decide +kernel
theorem i122_22 : ts_ins 122 22 = some (.isub, 23, 0) := by decide +kernel
theorem i122_23 : ts_ins 122 23 = some (.istore_n 2, 24, 0) := by decide +kernel
theorem i122_24 : ts_ins 122 24 = some (.iload_n 1, 25, 0) := by decide +kernel
theorem i122_25 : ts_ins 122 25 = some (.bipush 10, 27, 0) := by decide +kernel
theorem i122_27 : ts_ins 122 27 = some (.if_icmp .lt 9, 30, 36) := by decide +kernel
theorem i122_30 : ts_ins 122 30 = some (.iload_n 2, 31, 0) := by decide +kernel
theorem i122_31 : ts_ins 122 31 = some (.bipush 6, 33, 0) := by decide +kernel
theorem i122_33 : ts_ins 122 33 = some (.if_icmp .lt 5, 36, 38) := by decide +kernel
theorem i122_36 : ts_ins 122 36 = some (.iconst (-1), 37, 0) := by decide +kernel
theorem i122_37 : ts_ins 122 37 = some (.ireturn, 38, 0) := by decide +kernel
theorem i122_38 : ts_ins 122 38 = some (.iload_n 2, 39, 0) := by decide +kernel
theorem i122_39 : ts_ins 122 39 = some (.aload_n 0, 40, 0) := by decide +kernel
theorem i122_40 : ts_ins 122 40 = some (.getfield 56, 43, 0) := by decide +kernel
theorem g122_40 : ts_fm 122 56 = some (11, 6, 2) := by decide +kernel
theorem i122_43 : ts_ins 122 43 = some (.getfield 286, 46, 0) := by decide +kernel
theorem g122_43 : ts_fm 122 286 = some (1, 0, 2) := by decide +kernel
theorem i122_46 : ts_ins 122 46 = some (.iconst 0, 47, 0) := by decide +kernel
theorem i122_47 : ts_ins 122 47 = some (.iaload, 48, 0) := by decide +kernel
theorem i122_48 : ts_ins 122 48 = some (.if_icmp .ge 15, 51, 63) := by decide +kernel
theorem i122_51 : ts_ins 122 51 = some (.aload_n 0, 52, 0) := by decide +kernel
theorem i122_52 : ts_ins 122 52 = some (.getfield 56, 55, 0) := by decide +kernel
theorem g122_52 : ts_fm 122 56 = some (11, 6, 2) := by decide +kernel
theorem i122_55 : ts_ins 122 55 = some (.getfield 313, 58, 0) := by decide +kernel
theorem g122_55 : ts_fm 122 313 = some (1, 1, 2) := by decide +kernel
theorem i122_58 : ts_ins 122 58 = some (.iload_n 2, 59, 0) := by decide +kernel
theorem i122_59 : ts_ins 122 59 = some (.iaload, 60, 0) := by decide +kernel
theorem i122_60 : ts_ins 122 60 = some (.goto 5, 63, 65) := by decide +kernel
theorem i122_63 : ts_ins 122 63 = some (.bipush (-2), 65, 0) := by decide +kernel
theorem i122_65 : ts_ins 122 65 = some (.ireturn, 66, 0) := by decide +kernel
theorem r122 : ts_rt 122 = ((some .int), 0, 0) := by decide +kernel
theorem l122 : ts_ml 122 = 3 := by decide +kernel
/-! strike, sow, led, image, back: the class -/
abbrev d_now (f : ts_Fl) (e : ts_De) : Int := e.1 0 % f_men f
def g_sld (f : ts_Fl) (w : ts_Lw) (e : ts_De) (p : Int) : Int := g_ld w (f_tone f p) (f_corn f p) (f_road f) (d_now f e) (f_arm f (d_now f e)) (e.1 0 % 4)
abbrev g_sOk (f : ts_Fl) (e : ts_De) (p : Int) : Prop := (0 ≤ p ∧ p < 16) ∧ ¬ f_men f = 0 ∧ f_can f (d_now f e) p
def g_strA (f : ts_Fl) (w : ts_Lw) (e : ts_De) (p : Int) : Int := if ¬ (0 ≤ p ∧ p ≤ 16) then -1 else if f_men f = 0 then -5 else if p = 16 then 0 else if f_can f (d_now f e) p then g_sld f w e p else -5
def g_strE (f : ts_Fl) (w : ts_Lw) (e : ts_De) (p : Int) : ts_De := if p = 16 ∧ ¬ f_men f = 0 then d_beat e 8 else if g_sOk f e p then d_stroke e (if 0 < g_sld f w e p then 1 else 0) (f_tone f p) (if 0 < f_corn f p then 1 else 0) else e
def g_strF (f : ts_Fl) (e : ts_De) (p : Int) : ts_Fl := if g_sOk f e p then fs_corn f (zu (f_corn f) p (f_corn f p - tk (f_corn f) p)) else f
def g_sowA (f : ts_Fl) (p : Int) : Int := if 0 ≤ p ∧ p < 16 then (if f_corn f p < 9 then f_corn f p + 1 else 9) else -1
def g_sowF (f : ts_Fl) (p : Int) : ts_Fl := if 0 ≤ p ∧ p < 16 then fs_corn f (zu (f_corn f) p (if f_corn f p < 9 then f_corn f p + 1 else 9)) else f
def g_sowE (e : ts_De) (p : Int) : ts_De := if 0 ≤ p ∧ p < 16 then (zu e.1 4 (e.1 4 + 1), e.2) else e
def g_ledA (e : ts_De) (x : Int) : Int := if 0 ≤ x ∧ x ≤ 4 then e.1 x else if x < 10 ∨ 15 < x then -1 else if x - 10 < e.1 0 then e.2 (x - 10) else -2
abbrev fxs : Nat → Nat → Prop := fun a _ => a = 4 ∨ a = 22 ∨ a = 23 ∨ a = 29 ∨ a = 30 ∨ a = 45 ∨ a = 46
theorem ar_cg {I : Nat → Nat → Int32} {a : Nat} {n lo hi : Int} {g h : Int → Int} (x : ar I a n lo hi g) (e : ∀ p, 0 ≤ p → p < n → g p = h p) : ar I a n lo hi h := fun p p0 p1 => by rw [← e p p0 p1]; exact x p p0 p1
section ST
variable {X : ts_X} {I J : Nat → Nat → Int32} {L : Nat → Nat → Int64} {sw : Bool} {K : Option Value → ts_H → Prop} {d : Nat} {f : ts_Fl} {w : ts_Lw} {e : ts_De} {im : ts_Im} {B : Int}
theorem x_strike (hX : RX I f) (hW : RXw I sw w) (hO : ROw w) (hD : RXd I B e) (hB : B ≤ 1000) {p : Int} (hp : -2147483648 ≤ p ∧ p ≤ 2147483647) (hK : ∀ J, fr fxs I J → RX J (g_strF f e p) → RXd J (B + 1) (g_strE f w e p) → K (some (.int (zI (g_strA f w e p)))) (J, L, ts_P0 sw, ts_S0)) : ts_Cal X (d + 4) 120 [.ref 1, .int (zI (p))] (I, L, ts_P0 sw, ts_S0) K := by
  have b1 := hX.men.2
  have b0 := (hD.1 0 (by decide) (by decide)).2
  unfold g_strF g_strE g_strA at hK
  refine ev_enter (lv := [.ref 1, .int (zI (p)), .null, .null, .null]) l120 rfl (Nat.le_of_ble_eq_true rfl) ?_
  refine ev_iloadn_1 i120_0 ?_
  refine ew_iflt i120_1 (by omega) (fun c1 => ?_) (fun c1 => ?_)
  · refine ew_iconst i120_10 ?_
    refine ev_ireturn i120_11 r120 ?_
    rw [if_neg (by omega), if_neg (by omega), if_neg (by omega), if_pos (by omega)] at hK
    exact hK I (fr_rfl _ _) hX hD.up
  · refine ev_iloadn_1 i120_4 ?_
    refine ew_bipush i120_5 (by decide) ?_
    refine ew_icmple i120_7 (by omega) (fun c7 => ?_) (fun c7 => ?_)
    · refine ev_aloadn_0 i120_12 ?_
      refine ev_getA i120_13 g120_13 rfl rfl (by decide) ?_
      refine ev_getA i120_16 g120_16 rfl rfl (by decide) ?_
      refine ew_iconst i120_19 ?_
      refine ew_iaload i120_20 rfl (by omega) (by omega) (by omega) (by first | exact hD.1 0 (by decide) (by decide) | exact hX.men | exact hX.told | exact hX.road | exact hX.tone _ (by omega) (by omega) | exact hX.corn _ (by omega) (by omega) | exact hX.stand _ (by omega) (by omega) | exact hX.reach _ (by omega) (by omega) | exact hX.arm _ (by omega) (by omega) | exact hX.late _ (by omega) (by omega) | exact hX.len _ (by omega) (by omega) | exact hX.say (by omega) (by omega) _ (by omega) (by omega)) (fun b20 => ?_)
      refine ev_istoren_2 i120_21 rfl ?_
      refine ev_aloadn_0 i120_22 ?_
      refine ev_getA i120_23 g120_23 rfl rfl (by decide) ?_
      refine ev_iloadn_2 i120_26 ?_
      refine ev_virt1 i120_27 g120_27 rfl (by decide +kernel) (Nat.le_of_ble_eq_true rfl) (x_manOf hX (by omega) ?_)
      refine ev_istoren_3 i120_30 rfl ?_
      refine ev_iloadn_3 i120_31 ?_
      refine ew_bipush i120_32 (by decide) ?_
      refine ew_icmpne i120_34 ((by by_cases q : 0 < f_men f ∧ 0 ≤ e.1 0 <;> (first | (have q1 := Int.emod_nonneg (e.1 0) (show ¬ f_men f = 0 by omega); have q2 := Int.emod_lt_of_pos (e.1 0) q.1; rw [if_pos q]; omega) | (rw [if_neg q]; omega)))) (fun c34 => ?_) (fun c34 => ?_)
      · have m0 : 0 < f_men f := by
          refine Decidable.byContradiction fun q => ?_
          rw [if_neg (by omega)] at c34
          exact c34 rfl
        have q1 := Int.emod_nonneg (e.1 0) (show ¬ f_men f = 0 by omega)
        have q2 := Int.emod_lt_of_pos (e.1 0) m0
        rw [if_pos (show 0 < f_men f ∧ 0 ≤ e.1 0 by omega)]
        refine ev_iloadn_1 i120_40 ?_
        refine ew_bipush i120_41 (by decide) ?_
        refine ew_icmpne i120_43 (by omega) (fun c43 => ?_) (fun c43 => ?_)
        · refine ev_aloadn_0 i120_57 ?_
          refine ev_getA i120_58 g120_58 rfl rfl (by decide) ?_
          refine ev_iloadn_3 i120_61 ?_
          refine ev_iloadn_1 i120_62 ?_
          refine ev_virt2 i120_63 g120_63 rfl (by decide +kernel) (Nat.le_of_ble_eq_true rfl) (x_canStrike hX q1 q2 (by omega) (by omega) ?_)
          first
          | refine ew_ifneB i120_66 (fun c66 => ?_) (fun c66 => ?_)
          | refine ew_ifne i120_66 (by omega) (fun c66 => ?_) (fun c66 => ?_)
          · have ok : g_sOk f e p := ⟨by omega, by omega, c66⟩
            have n1 : ¬ (p = 16 ∧ ¬ f_men f = 0) := by omega
            have n2 : ¬ ¬ (0 ≤ p ∧ p ≤ 16) := by omega
            have n3 : ¬ f_men f = 0 := by omega
            have n4 : ¬ p = 16 := by omega
            simp only [if_pos ok, if_neg n1, if_neg n2, if_neg n3, if_neg n4, if_pos c66] at hK
            refine ev_aloadn_0 i120_72 ?_
            refine ev_getA i120_73 g120_73 rfl rfl (by decide) ?_
            refine ev_iloadn_3 i120_76 ?_
            refine ev_aloadn_0 i120_77 ?_
            refine ev_getA i120_78 g120_78 rfl rfl (by decide) ?_
            refine ev_getA i120_81 g120_81 rfl rfl (by decide) ?_
            refine ev_iloadn_1 i120_84 ?_
            refine ew_iaload i120_85 rfl (by omega) (by omega) (by omega) (by first | exact hD.1 0 (by decide) (by decide) | exact hX.men | exact hX.told | exact hX.road | exact hX.tone _ (by omega) (by omega) | exact hX.corn _ (by omega) (by omega) | exact hX.stand _ (by omega) (by omega) | exact hX.reach _ (by omega) (by omega) | exact hX.arm _ (by omega) (by omega) | exact hX.late _ (by omega) (by omega) | exact hX.len _ (by omega) (by omega) | exact hX.say (by omega) (by omega) _ (by omega) (by omega)) (fun b85 => ?_)
            refine ev_aloadn_0 i120_86 ?_
            refine ev_getA i120_87 g120_87 rfl rfl (by decide) ?_
            refine ev_getA i120_90 g120_90 rfl rfl (by decide) ?_
            refine ev_iloadn_1 i120_93 ?_
            refine ew_iaload i120_94 rfl (by omega) (by omega) (by omega) (by first | exact hD.1 0 (by decide) (by decide) | exact hX.men | exact hX.told | exact hX.road | exact hX.tone _ (by omega) (by omega) | exact hX.corn _ (by omega) (by omega) | exact hX.stand _ (by omega) (by omega) | exact hX.reach _ (by omega) (by omega) | exact hX.arm _ (by omega) (by omega) | exact hX.late _ (by omega) (by omega) | exact hX.len _ (by omega) (by omega) | exact hX.say (by omega) (by omega) _ (by omega) (by omega)) (fun b94 => ?_)
            refine ev_iloadn_2 i120_95 ?_
            refine ev_virt4 i120_96 g120_96 rfl (by decide +kernel) (Nat.le_of_ble_eq_true rfl) (x_loudness hX hW hO ⟨q1, q2⟩ (by omega) (by omega) (by omega) (fun J h1 => ?_))
            have gl : 0 ≤ g_sld f w e p ∧ g_sld f w e p ≤ 9 := g_ld_r _ _ _ _ _ _ _
            rw [show g_ld w (f_tone f p) (f_corn f p) (f_road f) (e.1 0 % f_men f) (f_arm f (e.1 0 % f_men f)) (e.1 0 % 4) = g_sld f w e p from rfl]
            have hX2 : RX J f := hX.co (fun a p0 p1 => fr_row h1 (fun k => by omega))
            have hD2 : RXd J B e := hD.co (fun a p0 p1 => fr_row h1 (fun k => by omega))
            refine ev_istore_4 i120_99 rfl ?_
            refine ev_aloadn_0 i120_101 ?_
            refine ev_getA i120_102 g120_102 rfl rfl (by decide) ?_
            refine ev_iload_4 i120_105 ?_
            refine ew_ifle i120_107 (by omega) (fun c107 => ?_) (fun c107 => ?_)
            · refine ew_iconst i120_114 ?_
              refine ev_aloadn_0 i120_115 ?_
              refine ev_getA i120_116 g120_116 rfl rfl (by decide) ?_
              refine ev_getA i120_119 g120_119 rfl rfl (by decide) ?_
              refine ev_iloadn_1 i120_122 ?_
              refine ew_iaload i120_123 rfl (by omega) (by omega) (by omega) ((hX2.tone p (by omega) (by omega))) (fun b123 => ?_)
              refine ev_aloadn_0 i120_124 ?_
              refine ev_getA i120_125 g120_125 rfl rfl (by decide) ?_
              refine ev_getA i120_128 g120_128 rfl rfl (by decide) ?_
              refine ev_iloadn_1 i120_131 ?_
              refine ew_iaload i120_132 rfl (by omega) (by omega) (by omega) ((hX2.corn p (by omega) (by omega))) (fun b132 => ?_)
              refine ew_ifle i120_133 (by omega) (fun c133 => ?_) (fun c133 => ?_)
              · refine ew_iconst i120_140 ?_
                have go : ∀ h k : Int, h = (if 0 < g_sld f w e p then 1 else 0) → k = (if 0 < f_corn f p then 1 else 0) → ts_Ev X (ts_Cal X (d + 3)) 120 ts_S0 K 141 [.ref 1, .int (zI (p)), .int (zI (e.1 0)), .int (zI (e.1 0 % f_men f)), .int (zI (g_sld f w e p))] [.int (zI (k)), .int (zI (f_tone f p)), .int (zI (h)), .ref 44] (J, L, ts_P0 sw, ts_S0) := by
                  intro h k hh hk
                  have tkk : tk (f_corn f) p = if 0 < f_corn f p then 1 else 0 := rfl
                  refine ev_virt3 i120_141 g120_141 rfl (by decide +kernel) (Nat.le_of_ble_eq_true rfl) (x_addStroke hD2 hB (by omega) (by omega) (by omega) (fun M h3 h4 => ?_))
                  have hX3 : RX M f := hX2.co (fun a p0 p1 => fr_row h3 (fun k => by omega))
                  refine ev_aloadn_0 i120_144 ?_
                  refine ev_getA i120_145 g120_145 rfl rfl (by decide) ?_
                  refine ev_getA i120_148 g120_148 rfl rfl (by decide) ?_
                  refine ev_iloadn_1 i120_151 ?_
                  refine ew_iconst i120_152 ?_
                  refine ev_aloadn_0 i120_153 ?_
                  refine ev_getA i120_154 g120_154 rfl rfl (by decide) ?_
                  refine ev_getA i120_157 g120_157 rfl rfl (by decide) ?_
                  refine ev_iloadn_1 i120_160 ?_
                  refine ew_iaload i120_161 rfl (by omega) (by omega) (by omega) ((hX3.corn p (by omega) (by omega))) (fun b161 => ?_)
                  refine ew_iconst i120_162 ?_
                  refine ew_isub i120_163 ?_
                  refine ew_mmax i120_164 g120_164 (Nat.le_of_ble_eq_true rfl) (by omega) ?_
                  refine ew_iastore i120_167 rfl (by omega) (by omega) (by omega) ?_
                  refine ev_iload_4 i120_168 ?_
                  refine ev_ireturn i120_170 r120 ?_
                  have s1 := hX3.sCorn (p := p) (v := f_corn f p - tk (f_corn f) p) (by omega) (by omega)
                  rw [hh, hk] at h4
                  rw [show (if 0 < f_corn f p - 1 then f_corn f p - 1 else 0) = f_corn f p - tk (f_corn f) p from by omega]
                  exact hK _ (fr_up (fr_tr (fr_mo h1 (fun a k q => by omega)) (fr_mo h3 (fun a k q => by omega))) (by omega)) s1 (RXd.co (J := ts_up M 4 p.toNat (zI (f_corn f p - tk (f_corn f) p))) h4 (fun a p0 p1 => ts_up_na (by omega)))
                exact go _ _ (by omega) (by omega)
              · refine ew_iconst i120_136 ?_
                refine ev_goto i120_137 ?_
                have go : ∀ h k : Int, h = (if 0 < g_sld f w e p then 1 else 0) → k = (if 0 < f_corn f p then 1 else 0) → ts_Ev X (ts_Cal X (d + 3)) 120 ts_S0 K 141 [.ref 1, .int (zI (p)), .int (zI (e.1 0)), .int (zI (e.1 0 % f_men f)), .int (zI (g_sld f w e p))] [.int (zI (k)), .int (zI (f_tone f p)), .int (zI (h)), .ref 44] (J, L, ts_P0 sw, ts_S0) := by
                  intro h k hh hk
                  have tkk : tk (f_corn f) p = if 0 < f_corn f p then 1 else 0 := rfl
                  refine ev_virt3 i120_141 g120_141 rfl (by decide +kernel) (Nat.le_of_ble_eq_true rfl) (x_addStroke hD2 hB (by omega) (by omega) (by omega) (fun M h3 h4 => ?_))
                  have hX3 : RX M f := hX2.co (fun a p0 p1 => fr_row h3 (fun k => by omega))
                  refine ev_aloadn_0 i120_144 ?_
                  refine ev_getA i120_145 g120_145 rfl rfl (by decide) ?_
                  refine ev_getA i120_148 g120_148 rfl rfl (by decide) ?_
                  refine ev_iloadn_1 i120_151 ?_
                  refine ew_iconst i120_152 ?_
                  refine ev_aloadn_0 i120_153 ?_
                  refine ev_getA i120_154 g120_154 rfl rfl (by decide) ?_
                  refine ev_getA i120_157 g120_157 rfl rfl (by decide) ?_
                  refine ev_iloadn_1 i120_160 ?_
                  refine ew_iaload i120_161 rfl (by omega) (by omega) (by omega) ((hX3.corn p (by omega) (by omega))) (fun b161 => ?_)
                  refine ew_iconst i120_162 ?_
                  refine ew_isub i120_163 ?_
                  refine ew_mmax i120_164 g120_164 (Nat.le_of_ble_eq_true rfl) (by omega) ?_
                  refine ew_iastore i120_167 rfl (by omega) (by omega) (by omega) ?_
                  refine ev_iload_4 i120_168 ?_
                  refine ev_ireturn i120_170 r120 ?_
                  have s1 := hX3.sCorn (p := p) (v := f_corn f p - tk (f_corn f) p) (by omega) (by omega)
                  rw [hh, hk] at h4
                  rw [show (if 0 < f_corn f p - 1 then f_corn f p - 1 else 0) = f_corn f p - tk (f_corn f) p from by omega]
                  exact hK _ (fr_up (fr_tr (fr_mo h1 (fun a k q => by omega)) (fr_mo h3 (fun a k q => by omega))) (by omega)) s1 (RXd.co (J := ts_up M 4 p.toNat (zI (f_corn f p - tk (f_corn f) p))) h4 (fun a p0 p1 => ts_up_na (by omega)))
                exact go _ _ (by omega) (by omega)
            · refine ew_iconst i120_110 ?_
              refine ev_goto i120_111 ?_
              refine ev_aloadn_0 i120_115 ?_
              refine ev_getA i120_116 g120_116 rfl rfl (by decide) ?_
              refine ev_getA i120_119 g120_119 rfl rfl (by decide) ?_
              refine ev_iloadn_1 i120_122 ?_
              refine ew_iaload i120_123 rfl (by omega) (by omega) (by omega) ((hX2.tone p (by omega) (by omega))) (fun b123 => ?_)
              refine ev_aloadn_0 i120_124 ?_
              refine ev_getA i120_125 g120_125 rfl rfl (by decide) ?_
              refine ev_getA i120_128 g120_128 rfl rfl (by decide) ?_
              refine ev_iloadn_1 i120_131 ?_
              refine ew_iaload i120_132 rfl (by omega) (by omega) (by omega) ((hX2.corn p (by omega) (by omega))) (fun b132 => ?_)
              refine ew_ifle i120_133 (by omega) (fun c133 => ?_) (fun c133 => ?_)
              · refine ew_iconst i120_140 ?_
                have go : ∀ h k : Int, h = (if 0 < g_sld f w e p then 1 else 0) → k = (if 0 < f_corn f p then 1 else 0) → ts_Ev X (ts_Cal X (d + 3)) 120 ts_S0 K 141 [.ref 1, .int (zI (p)), .int (zI (e.1 0)), .int (zI (e.1 0 % f_men f)), .int (zI (g_sld f w e p))] [.int (zI (k)), .int (zI (f_tone f p)), .int (zI (h)), .ref 44] (J, L, ts_P0 sw, ts_S0) := by
                  intro h k hh hk
                  have tkk : tk (f_corn f) p = if 0 < f_corn f p then 1 else 0 := rfl
                  refine ev_virt3 i120_141 g120_141 rfl (by decide +kernel) (Nat.le_of_ble_eq_true rfl) (x_addStroke hD2 hB (by omega) (by omega) (by omega) (fun M h3 h4 => ?_))
                  have hX3 : RX M f := hX2.co (fun a p0 p1 => fr_row h3 (fun k => by omega))
                  refine ev_aloadn_0 i120_144 ?_
                  refine ev_getA i120_145 g120_145 rfl rfl (by decide) ?_
                  refine ev_getA i120_148 g120_148 rfl rfl (by decide) ?_
                  refine ev_iloadn_1 i120_151 ?_
                  refine ew_iconst i120_152 ?_
                  refine ev_aloadn_0 i120_153 ?_
                  refine ev_getA i120_154 g120_154 rfl rfl (by decide) ?_
                  refine ev_getA i120_157 g120_157 rfl rfl (by decide) ?_
                  refine ev_iloadn_1 i120_160 ?_
                  refine ew_iaload i120_161 rfl (by omega) (by omega) (by omega) ((hX3.corn p (by omega) (by omega))) (fun b161 => ?_)
                  refine ew_iconst i120_162 ?_
                  refine ew_isub i120_163 ?_
                  refine ew_mmax i120_164 g120_164 (Nat.le_of_ble_eq_true rfl) (by omega) ?_
                  refine ew_iastore i120_167 rfl (by omega) (by omega) (by omega) ?_
                  refine ev_iload_4 i120_168 ?_
                  refine ev_ireturn i120_170 r120 ?_
                  have s1 := hX3.sCorn (p := p) (v := f_corn f p - tk (f_corn f) p) (by omega) (by omega)
                  rw [hh, hk] at h4
                  rw [show (if 0 < f_corn f p - 1 then f_corn f p - 1 else 0) = f_corn f p - tk (f_corn f) p from by omega]
                  exact hK _ (fr_up (fr_tr (fr_mo h1 (fun a k q => by omega)) (fr_mo h3 (fun a k q => by omega))) (by omega)) s1 (RXd.co (J := ts_up M 4 p.toNat (zI (f_corn f p - tk (f_corn f) p))) h4 (fun a p0 p1 => ts_up_na (by omega)))
                exact go _ _ (by omega) (by omega)
              · refine ew_iconst i120_136 ?_
                refine ev_goto i120_137 ?_
                have go : ∀ h k : Int, h = (if 0 < g_sld f w e p then 1 else 0) → k = (if 0 < f_corn f p then 1 else 0) → ts_Ev X (ts_Cal X (d + 3)) 120 ts_S0 K 141 [.ref 1, .int (zI (p)), .int (zI (e.1 0)), .int (zI (e.1 0 % f_men f)), .int (zI (g_sld f w e p))] [.int (zI (k)), .int (zI (f_tone f p)), .int (zI (h)), .ref 44] (J, L, ts_P0 sw, ts_S0) := by
                  intro h k hh hk
                  have tkk : tk (f_corn f) p = if 0 < f_corn f p then 1 else 0 := rfl
                  refine ev_virt3 i120_141 g120_141 rfl (by decide +kernel) (Nat.le_of_ble_eq_true rfl) (x_addStroke hD2 hB (by omega) (by omega) (by omega) (fun M h3 h4 => ?_))
                  have hX3 : RX M f := hX2.co (fun a p0 p1 => fr_row h3 (fun k => by omega))
                  refine ev_aloadn_0 i120_144 ?_
                  refine ev_getA i120_145 g120_145 rfl rfl (by decide) ?_
                  refine ev_getA i120_148 g120_148 rfl rfl (by decide) ?_
                  refine ev_iloadn_1 i120_151 ?_
                  refine ew_iconst i120_152 ?_
                  refine ev_aloadn_0 i120_153 ?_
                  refine ev_getA i120_154 g120_154 rfl rfl (by decide) ?_
                  refine ev_getA i120_157 g120_157 rfl rfl (by decide) ?_
                  refine ev_iloadn_1 i120_160 ?_
                  refine ew_iaload i120_161 rfl (by omega) (by omega) (by omega) ((hX3.corn p (by omega) (by omega))) (fun b161 => ?_)
                  refine ew_iconst i120_162 ?_
                  refine ew_isub i120_163 ?_
                  refine ew_mmax i120_164 g120_164 (Nat.le_of_ble_eq_true rfl) (by omega) ?_
                  refine ew_iastore i120_167 rfl (by omega) (by omega) (by omega) ?_
                  refine ev_iload_4 i120_168 ?_
                  refine ev_ireturn i120_170 r120 ?_
                  have s1 := hX3.sCorn (p := p) (v := f_corn f p - tk (f_corn f) p) (by omega) (by omega)
                  rw [hh, hk] at h4
                  rw [show (if 0 < f_corn f p - 1 then f_corn f p - 1 else 0) = f_corn f p - tk (f_corn f) p from by omega]
                  exact hK _ (fr_up (fr_tr (fr_mo h1 (fun a k q => by omega)) (fr_mo h3 (fun a k q => by omega))) (by omega)) s1 (RXd.co (J := ts_up M 4 p.toNat (zI (f_corn f p - tk (f_corn f) p))) h4 (fun a p0 p1 => ts_up_na (by omega)))
                exact go _ _ (by omega) (by omega)
          · refine ew_bipush i120_69 (by decide) ?_
            refine ev_ireturn i120_71 r120 ?_
            rw [if_neg (fun r => c66 r.2.2), if_neg (by omega), if_neg (fun r => c66 r.2.2), if_neg (by omega), if_neg (by omega), if_neg (by omega), if_neg c66] at hK
            exact hK I (fr_rfl _ _) hX hD.up
        · refine ev_aloadn_0 i120_46 ?_
          refine ev_getA i120_47 g120_47 rfl rfl (by decide) ?_
          refine ew_bipush i120_50 (by decide) ?_
          refine ev_virt1 i120_52 g120_52 rfl (by decide +kernel) (Nat.le_of_ble_eq_true rfl) (x_addBeat hD hB (by decide) (fun J h1 h2 => ?_))
          refine ew_iconst i120_55 ?_
          refine ev_ireturn i120_56 r120 ?_
          rw [if_neg (by omega), if_pos (by omega), if_neg (by omega), if_neg (by omega), if_pos c43] at hK
          exact hK J (fr_mo h1 (fun a k q => by omega)) (hX.co (fun a p0 p1 => fr_row h1 (fun k => by omega))) h2
      · refine ew_bipush i120_37 (by decide) ?_
        refine ev_ireturn i120_39 r120 ?_
        have m0 : f_men f = 0 := by
          refine Decidable.byContradiction fun q => ?_
          have q1 := Int.emod_nonneg (e.1 0) q
          rw [if_pos (by omega)] at c34
          omega
        rw [if_neg (by omega), if_neg (by omega), if_neg (by omega), if_neg (by omega), if_pos m0] at hK
        exact hK I (fr_rfl _ _) hX hD.up
    · refine ew_iconst i120_10 ?_
      refine ev_ireturn i120_11 r120 ?_
      rw [if_neg (by omega), if_neg (by omega), if_neg (by omega), if_pos (by omega)] at hK
      exact hK I (fr_rfl _ _) hX hD.up
theorem x_sow (hX : RX I f) (hD : RXd I B e) (hB : B ≤ 1000) {p : Int} (hp : -2147483648 ≤ p ∧ p ≤ 2147483647) (hK : ∀ J, fr fxs I J → RX J (g_sowF f p) → RXd J (B + 1) (g_sowE e p) → K (some (.int (zI (g_sowA f p)))) (J, L, ts_P0 sw, ts_S0)) : ts_Cal X (d + 2) 121 [.ref 1, .int (zI (p))] (I, L, ts_P0 sw, ts_S0) K := by
  have b0 := (hD.1 4 (by decide) (by decide)).2
  unfold g_sowF g_sowE g_sowA at hK
  refine ev_enter (lv := [.ref 1, .int (zI (p))]) l121 rfl (Nat.le_of_ble_eq_true rfl) ?_
  refine ev_iloadn_1 i121_0 ?_
  refine ev_stat1 i121_1 g121_1 (by decide +kernel) (Nat.le_of_ble_eq_true rfl) (x_isPlank hp ?_)
  first
  | refine ew_ifneB i121_4 (fun c4 => ?_) (fun c4 => ?_)
  | refine ew_ifne i121_4 (by omega) (fun c4 => ?_) (fun c4 => ?_)
  · rw [if_pos c4, if_pos c4, if_pos c4] at hK
    have bc := (hX.corn p c4.1 c4.2).2
    refine ev_aloadn_0 i121_9 ?_
    refine ev_getA i121_10 g121_10 rfl rfl (by decide) ?_
    refine ev_getA i121_13 g121_13 rfl rfl (by decide) ?_
    refine ev_iloadn_1 i121_16 ?_
    refine ew_bipush i121_17 (by decide) ?_
    refine ev_aloadn_0 i121_19 ?_
    refine ev_getA i121_20 g121_20 rfl rfl (by decide) ?_
    refine ev_getA i121_23 g121_23 rfl rfl (by decide) ?_
    refine ev_iloadn_1 i121_26 ?_
    refine ew_iaload i121_27 rfl (by omega) (by omega) (by omega) (by first | exact hD.1 4 (by decide) (by decide) | exact hX.men | exact hX.told | exact hX.road | exact hX.tone _ (by omega) (by omega) | exact hX.corn _ (by omega) (by omega) | exact hX.stand _ (by omega) (by omega) | exact hX.reach _ (by omega) (by omega) | exact hX.arm _ (by omega) (by omega) | exact hX.late _ (by omega) (by omega) | exact hX.len _ (by omega) (by omega) | exact hX.say (by omega) (by omega) _ (by omega) (by omega)) (fun b27 => ?_)
    refine ew_iconst i121_28 ?_
    refine ew_iadd i121_29 ?_
    refine ew_mmin i121_30 g121_30 (Nat.le_of_ble_eq_true rfl) (by omega) ?_
    rw [show (if f_corn f p + 1 < 9 then f_corn f p + 1 else 9) = (if f_corn f p < 9 then f_corn f p + 1 else 9) from by omega]
    refine ew_iastore i121_33 rfl (by omega) (by omega) (by omega) ?_
    refine ev_aloadn_0 i121_34 ?_
    refine ev_getA i121_35 g121_35 rfl rfl (by decide) ?_
    refine ev_getA i121_38 g121_38 rfl rfl (by decide) ?_
    refine ew_iconst i121_41 ?_
    refine ev_dup2 i121_42 ?_
    refine ew_iaload i121_43 rfl (by omega) (by omega) (by omega) (by first | exact hD.1 4 (by decide) (by decide) | exact hX.men | exact hX.told | exact hX.road | exact hX.tone _ (by omega) (by omega) | exact hX.corn _ (by omega) (by omega) | exact hX.stand _ (by omega) (by omega) | exact hX.reach _ (by omega) (by omega) | exact hX.arm _ (by omega) (by omega) | exact hX.late _ (by omega) (by omega) | exact hX.len _ (by omega) (by omega) | exact hX.say (by omega) (by omega) _ (by omega) (by omega)) (fun b43 => ?_)
    refine ew_iconst i121_44 ?_
    refine ew_iadd i121_45 ?_
    refine ew_iastore i121_46 rfl (by omega) (by omega) (by omega) ?_
    refine ev_aloadn_0 i121_47 ?_
    refine ev_getA i121_48 g121_48 rfl rfl (by decide) ?_
    refine ev_getA i121_51 g121_51 rfl rfl (by decide) ?_
    refine ev_iloadn_1 i121_54 ?_
    refine ew_iaload i121_55 rfl (by omega) (by omega) (by omega) ((by show rd (ts_up (ts_up I 4 p.toNat (zI (if f_corn f p < 9 then f_corn f p + 1 else 9))) 45 4 (zI (e.1 4 + 1)) 4 p.toNat) _ _ _; rw [ts_up_na (by decide), ts_up_e]; exact rd_zI (lo := 0) (hi := 9) (by omega))) (fun b55 => ?_)
    refine ev_ireturn i121_56 r121 ?_
    exact hK _ (by repeat' (first | exact fr_rfl _ _ | refine fr_up ?_ (by omega))) (RX.co (hX.sCorn (p := p) (v := if f_corn f p < 9 then f_corn f p + 1 else 9) c4.1 (by omega)) (fun a p0 p1 => ts_up_na (by omega))) ⟨ar_up (ar_co hD.up.1 rfl) (p := 4) (by decide) (v := e.1 4 + 1) (by omega), ar_co hD.2 rfl⟩
  · refine ew_iconst i121_7 ?_
    refine ev_ireturn i121_8 r121 ?_
    rw [if_neg c4, if_neg c4, if_neg c4] at hK
    exact hK I (fr_rfl _ _) hX hD.up
theorem x_led (hD : RXd I B e) (hB : B ≤ 1000) {x : Int} (hx : -2147483648 ≤ x ∧ x ≤ 2147483647) (hK : K (some (.int (zI (g_ledA e x)))) (I, L, ts_P0 sw, ts_S0)) : ts_Cal X (d + 1) 122 [.ref 1, .int (zI (x))] (I, L, ts_P0 sw, ts_S0) K := by
  have b0 := (hD.1 0 (by decide) (by decide)).2
  unfold g_ledA at hK
  refine ev_enter (lv := [.ref 1, .int (zI (x)), .null]) l122 rfl (Nat.le_of_ble_eq_true rfl) ?_
  refine ev_iloadn_1 i122_0 ?_
  refine ew_iflt i122_1 (by omega) (fun c1 => ?_) (fun c1 => ?_)
  · refine ev_iloadn_1 i122_19 ?_
    refine ew_bipush i122_20 (by decide) ?_
    refine ew_isub i122_22 ?_
    refine ev_istoren_2 i122_23 rfl ?_
    refine ev_iloadn_1 i122_24 ?_
    refine ew_bipush i122_25 (by decide) ?_
    refine ew_icmplt i122_27 (by omega) (fun c27 => ?_) (fun c27 => ?_)
    · refine ew_iconst i122_36 ?_
      refine ev_ireturn i122_37 r122 ?_
      first | exact hK | exact zK hK (by omega)
    · refine ev_iloadn_2 i122_30 ?_
      refine ew_bipush i122_31 (by decide) ?_
      refine ew_icmplt i122_33 (by omega) (fun c33 => ?_) (fun c33 => ?_)
      · refine ev_iloadn_2 i122_38 ?_
        refine ev_aloadn_0 i122_39 ?_
        refine ev_getA i122_40 g122_40 rfl rfl (by decide) ?_
        refine ev_getA i122_43 g122_43 rfl rfl (by decide) ?_
        refine ew_iconst i122_46 ?_
        refine ew_iaload i122_47 rfl (by omega) (by omega) (by omega) (by first | exact hD.1 _ (by omega) (by omega) | exact hD.2 _ (by omega) (by omega) | exact hX.men | exact hX.told | exact hX.road | exact hX.tone _ (by omega) (by omega) | exact hX.corn _ (by omega) (by omega) | exact hX.stand _ (by omega) (by omega) | exact hX.reach _ (by omega) (by omega) | exact hX.arm _ (by omega) (by omega) | exact hX.late _ (by omega) (by omega) | exact hX.len _ (by omega) (by omega) | exact hX.say (by omega) (by omega) _ (by omega) (by omega)) (fun b47 => ?_)
        refine ew_icmpge i122_48 (by omega) (fun c48 => ?_) (fun c48 => ?_)
        · refine ew_bipush i122_63 (by decide) ?_
          refine ev_ireturn i122_65 r122 ?_
          first | exact hK | exact zK hK (by omega)
        · refine ev_aloadn_0 i122_51 ?_
          refine ev_getA i122_52 g122_52 rfl rfl (by decide) ?_
          refine ev_getA i122_55 g122_55 rfl rfl (by decide) ?_
          refine ev_iloadn_2 i122_58 ?_
          refine ew_iaload i122_59 rfl (by omega) (by omega) (by omega) (by first | exact hD.1 _ (by omega) (by omega) | exact hD.2 _ (by omega) (by omega) | exact hX.men | exact hX.told | exact hX.road | exact hX.tone _ (by omega) (by omega) | exact hX.corn _ (by omega) (by omega) | exact hX.stand _ (by omega) (by omega) | exact hX.reach _ (by omega) (by omega) | exact hX.arm _ (by omega) (by omega) | exact hX.late _ (by omega) (by omega) | exact hX.len _ (by omega) (by omega) | exact hX.say (by omega) (by omega) _ (by omega) (by omega)) (fun b59 => ?_)
          refine ev_goto i122_60 ?_
          refine ev_ireturn i122_65 r122 ?_
          first | exact hK | exact zK hK (by omega)
      · refine ew_iconst i122_36 ?_
        refine ev_ireturn i122_37 r122 ?_
        first | exact hK | exact zK hK (by omega)
  · refine ev_iloadn_1 i122_4 ?_
    refine ew_iconst i122_5 ?_
    refine ew_icmpgt i122_6 (by omega) (fun c6 => ?_) (fun c6 => ?_)
    · refine ev_iloadn_1 i122_19 ?_
      refine ew_bipush i122_20 (by decide) ?_
      refine ew_isub i122_22 ?_
      refine ev_istoren_2 i122_23 rfl ?_
      refine ev_iloadn_1 i122_24 ?_
      refine ew_bipush i122_25 (by decide) ?_
      refine ew_icmplt i122_27 (by omega) (fun c27 => ?_) (fun c27 => ?_)
      · refine ew_iconst i122_36 ?_
        refine ev_ireturn i122_37 r122 ?_
        first | exact hK | exact zK hK (by omega)
      · refine ev_iloadn_2 i122_30 ?_
        refine ew_bipush i122_31 (by decide) ?_
        refine ew_icmplt i122_33 (by omega) (fun c33 => ?_) (fun c33 => ?_)
        · refine ev_iloadn_2 i122_38 ?_
          refine ev_aloadn_0 i122_39 ?_
          refine ev_getA i122_40 g122_40 rfl rfl (by decide) ?_
          refine ev_getA i122_43 g122_43 rfl rfl (by decide) ?_
          refine ew_iconst i122_46 ?_
          refine ew_iaload i122_47 rfl (by omega) (by omega) (by omega) (by first | exact hD.1 _ (by omega) (by omega) | exact hD.2 _ (by omega) (by omega) | exact hX.men | exact hX.told | exact hX.road | exact hX.tone _ (by omega) (by omega) | exact hX.corn _ (by omega) (by omega) | exact hX.stand _ (by omega) (by omega) | exact hX.reach _ (by omega) (by omega) | exact hX.arm _ (by omega) (by omega) | exact hX.late _ (by omega) (by omega) | exact hX.len _ (by omega) (by omega) | exact hX.say (by omega) (by omega) _ (by omega) (by omega)) (fun b47 => ?_)
          refine ew_icmpge i122_48 (by omega) (fun c48 => ?_) (fun c48 => ?_)
          · refine ew_bipush i122_63 (by decide) ?_
            refine ev_ireturn i122_65 r122 ?_
            first | exact hK | exact zK hK (by omega)
          · refine ev_aloadn_0 i122_51 ?_
            refine ev_getA i122_52 g122_52 rfl rfl (by decide) ?_
            refine ev_getA i122_55 g122_55 rfl rfl (by decide) ?_
            refine ev_iloadn_2 i122_58 ?_
            refine ew_iaload i122_59 rfl (by omega) (by omega) (by omega) (by first | exact hD.1 _ (by omega) (by omega) | exact hD.2 _ (by omega) (by omega) | exact hX.men | exact hX.told | exact hX.road | exact hX.tone _ (by omega) (by omega) | exact hX.corn _ (by omega) (by omega) | exact hX.stand _ (by omega) (by omega) | exact hX.reach _ (by omega) (by omega) | exact hX.arm _ (by omega) (by omega) | exact hX.late _ (by omega) (by omega) | exact hX.len _ (by omega) (by omega) | exact hX.say (by omega) (by omega) _ (by omega) (by omega)) (fun b59 => ?_)
            refine ev_goto i122_60 ?_
            refine ev_ireturn i122_65 r122 ?_
            first | exact hK | exact zK hK (by omega)
        · refine ew_iconst i122_36 ?_
          refine ev_ireturn i122_37 r122 ?_
          first | exact hK | exact zK hK (by omega)
    · refine ev_aloadn_0 i122_9 ?_
      refine ev_getA i122_10 g122_10 rfl rfl (by decide) ?_
      refine ev_getA i122_13 g122_13 rfl rfl (by decide) ?_
      refine ev_iloadn_1 i122_16 ?_
      refine ew_iaload i122_17 rfl (by omega) (by omega) (by omega) (by first | exact hD.1 _ (by omega) (by omega) | exact hD.2 _ (by omega) (by omega) | exact hX.men | exact hX.told | exact hX.road | exact hX.tone _ (by omega) (by omega) | exact hX.corn _ (by omega) (by omega) | exact hX.stand _ (by omega) (by omega) | exact hX.reach _ (by omega) (by omega) | exact hX.arm _ (by omega) (by omega) | exact hX.late _ (by omega) (by omega) | exact hX.len _ (by omega) (by omega) | exact hX.say (by omega) (by omega) _ (by omega) (by omega)) (fun b17 => ?_)
      refine ev_ireturn i122_18 r122 ?_
      first | exact hK | exact zK hK (by omega)
end ST
