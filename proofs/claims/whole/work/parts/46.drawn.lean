theorem i70_0 : ts_ins 70 0 = some (.iload_n 2, 1, 0) := by decide +kernel
theorem i70_1 : ts_ins 70 1 = some (.istore_n 3, 2, 0) := by decide +kernel
theorem i70_2 : ts_ins 70 2 = some (.aload_n 0, 3, 0) := by decide +kernel
theorem i70_3 : ts_ins 70 3 = some (.aload_n 0, 4, 0) := by decide +kernel
theorem i70_4 : ts_ins 70 4 = some (.getfield 19, 7, 0) := by decide +kernel
theorem g70_4 : ts_fm 70 19 = some (8, 0, 2) := by decide +kernel
theorem i70_7 : ts_ins 70 7 = some (.getfield 42, 10, 0) := by decide +kernel
theorem g70_7 : ts_fm 70 42 = some (3, 7, 2) := by decide +kernel
theorem i70_10 : ts_ins 70 10 = some (.iload_n 1, 11, 0) := by decide +kernel
theorem i70_11 : ts_ins 70 11 = some (.iaload, 12, 0) := by decide +kernel
theorem i70_12 : ts_ins 70 12 = some (.putfield 15, 15, 0) := by decide +kernel
theorem g70_12 : ts_fmm 70 15 = some (8, 2, 0, false) := by decide +kernel
theorem i70_15 : ts_ins 70 15 = some (.iconst 0, 16, 0) := by decide +kernel
theorem i70_16 : ts_ins 70 16 = some (.istore 4, 18, 0) := by decide +kernel
theorem i70_18 : ts_ins 70 18 = some (.iload 4, 20, 0) := by decide +kernel
theorem i70_20 : ts_ins 70 20 = some (.aload_n 0, 21, 0) := by decide +kernel
theorem i70_21 : ts_ins 70 21 = some (.getfield 15, 24, 0) := by decide +kernel
theorem g70_21 : ts_fm 70 15 = some (8, 2, 0) := by decide +kernel
theorem i70_24 : ts_ins 70 24 = some (.if_icmp .ge 108, 27, 132) := by decide +kernel
theorem i70_27 : ts_ins 70 27 = some (.iload_n 3, 28, 0) := by decide +kernel
theorem i70_28 : ts_ins 70 28 = some (.ldc 47, 30, 0) := by decide +kernel
theorem g70_28 : ts_lc (ts_mc 70) 47 = some (.int (1103515245)) := by decide +kernel
theorem i70_30 : ts_ins 70 30 = some (.imul, 31, 0) := by decide +kernel
theorem i70_31 : ts_ins 70 31 = some (.sipush 12345, 34, 0) := by decide +kernel
theorem i70_34 : ts_ins 70 34 = some (.iadd, 35, 0) := by decide +kernel
theorem i70_35 : ts_ins 70 35 = some (.istore_n 3, 36, 0) := by decide +kernel
theorem i70_36 : ts_ins 70 36 = some (.aload_n 0, 37, 0) := by decide +kernel
theorem i70_37 : ts_ins 70 37 = some (.getfield 19, 40, 0) := by decide +kernel
theorem g70_37 : ts_fm 70 19 = some (8, 0, 2) := by decide +kernel
theorem i70_40 : ts_ins 70 40 = some (.iload 4, 42, 0) := by decide +kernel
theorem i70_42 : ts_ins 70 42 = some (.invokevirtual 48, 45, 0) := by decide +kernel
theorem g70_42 : ts_cal (ts_mc 70) 48 = some (0, 25, 1) := by decide +kernel
theorem i70_45 : ts_ins 70 45 = some (.istore 5, 47, 0) := by decide +kernel
theorem i70_47 : ts_ins 70 47 = some (.iload 5, 49, 0) := by decide +kernel
theorem i70_49 : ts_ins 70 49 = some (.bipush (-2), 51, 0) := by decide +kernel
theorem i70_51 : ts_ins 70 51 = some (.if_icmp .eq 27, 54, 78) := by decide +kernel
theorem i70_54 : ts_ins 70 54 = some (.iload_n 3, 55, 0) := by decide +kernel
theorem i70_55 : ts_ins 70 55 = some (.bipush 8, 57, 0) := by decide +kernel
theorem i70_57 : ts_ins 70 57 = some (.iushr, 58, 0) := by decide +kernel
theorem i70_58 : ts_ins 70 58 = some (.bipush 12, 60, 0) := by decide +kernel
theorem i70_60 : ts_ins 70 60 = some (.irem, 61, 0) := by decide +kernel
theorem i70_61 : ts_ins 70 61 = some (.aload_n 0, 62, 0) := by decide +kernel
theorem i70_62 : ts_ins 70 62 = some (.getfield 19, 65, 0) := by decide +kernel
theorem g70_62 : ts_fm 70 19 = some (8, 0, 2) := by decide +kernel
theorem i70_65 : ts_ins 70 65 = some (.getfield 52, 68, 0) := by decide +kernel
theorem g70_65 : ts_fm 70 52 = some (3, 4, 2) := by decide +kernel
theorem i70_68 : ts_ins 70 68 = some (.iload 5, 70, 0) := by decide +kernel
theorem i70_70 : ts_ins 70 70 = some (.iaload, 71, 0) := by decide +kernel
theorem i70_71 : ts_ins 70 71 = some (.if_icmp .ge 7, 74, 78) := by decide +kernel
theorem i70_74 : ts_ins 70 74 = some (.iconst 1, 75, 0) := by decide +kernel
theorem i70_75 : ts_ins 70 75 = some (.goto 4, 78, 79) := by decide +kernel
theorem i70_78 : ts_ins 70 78 = some (.iconst 0, 79, 0) := by decide +kernel
theorem i70_79 : ts_ins 70 79 = some (.istore 6, 81, 0) := by decide +kernel
theorem i70_81 : ts_ins 70 81 = some (.iload 6, 83, 0) := by decide +kernel
theorem i70_83 : ts_ins 70 83 = some (.ifCond .eq 7, 86, 90) := by decide +kernel
theorem i70_86 : ts_ins 70 86 = some (.iconst 0, 87, 0) := by decide +kernel
theorem i70_87 : ts_ins 70 87 = some (.goto 12, 90, 99) := by decide +kernel
theorem i70_90 : ts_ins 70 90 = some (.iconst 1, 91, 0) := by decide +kernel
theorem i70_91 : ts_ins 70 91 = some (.iload_n 3, 92, 0) := by decide +kernel
theorem i70_92 : ts_ins 70 92 = some (.bipush 16, 94, 0) := by decide +kernel
theorem i70_94 : ts_ins 70 94 = some (.iushr, 95, 0) := by decide +kernel
theorem i70_95 : ts_ins 70 95 = some (.bipush 7, 97, 0) := by decide +kernel
theorem i70_97 : ts_ins 70 97 = some (.irem, 98, 0) := by decide +kernel
theorem i70_98 : ts_ins 70 98 = some (.iadd, 99, 0) := by decide +kernel
theorem i70_99 : ts_ins 70 99 = some (.istore 7, 101, 0) := by decide +kernel
theorem i70_101 : ts_ins 70 101 = some (.aload_n 0, 102, 0) := by decide +kernel
theorem i70_102 : ts_ins 70 102 = some (.getfield 9, 105, 0) := by decide +kernel
theorem g70_102 : ts_fm 70 9 = some (8, 1, 2) := by decide +kernel
theorem i70_105 : ts_ins 70 105 = some (.iload 4, 107, 0) := by decide +kernel
theorem i70_107 : ts_ins 70 107 = some (.aload_n 0, 108, 0) := by decide +kernel
theorem i70_108 : ts_ins 70 108 = some (.getfield 19, 111, 0) := by decide +kernel
theorem g70_108 : ts_fm 70 19 = some (8, 0, 2) := by decide +kernel
theorem i70_111 : ts_ins 70 111 = some (.getfield 55, 114, 0) := by decide +kernel
theorem g70_111 : ts_fm 70 55 = some (3, 6, 2) := by decide +kernel
theorem i70_114 : ts_ins 70 114 = some (.iload_n 1, 115, 0) := by decide +kernel
theorem i70_115 : ts_ins 70 115 = some (.aaload, 116, 0) := by decide +kernel
theorem i70_116 : ts_ins 70 116 = some (.iload 4, 118, 0) := by decide +kernel
theorem i70_118 : ts_ins 70 118 = some (.iaload, 119, 0) := by decide +kernel
theorem i70_119 : ts_ins 70 119 = some (.iload 7, 121, 0) := by decide +kernel
theorem i70_121 : ts_ins 70 121 = some (.iadd, 122, 0) := by decide +kernel
theorem i70_122 : ts_ins 70 122 = some (.bipush 8, 124, 0) := by decide +kernel
theorem i70_124 : ts_ins 70 124 = some (.irem, 125, 0) := by decide +kernel
theorem i70_125 : ts_ins 70 125 = some (.iastore, 126, 0) := by decide +kernel
theorem i70_126 : ts_ins 70 126 = some (.iinc 4 1, 129, 0) := by decide +kernel
theorem i70_129 : ts_ins 70 129 = some (.goto (-111), 132, 18) := by decide +kernel
theorem i70_132 : ts_ins 70 132 = some (.iload_n 3, 133, 0) := by decide +kernel
theorem i70_133 : ts_ins 70 133 = some (.ireturn, 134, 0) := by decide +kernel
theorem r70 : ts_rt 70 = ((some .int), 0, 0) := by decide +kernel
theorem l70 : ts_ml 70 = 8 := by decide +kernel
theorem i119_0 : ts_ins 119 0 = some (.iload_n 2, 1, 0) := by decide +kernel
theorem i119_1 : ts_ins 119 1 = some (.iconst 1, 2, 0) := by decide +kernel
theorem i119_2 : ts_ins 119 2 = some (.if_icmp .lt 38, 5, 40) := by decide +kernel
theorem i119_5 : ts_ins 119 5 = some (.iload_n 2, 6, 0) := by decide +kernel
theorem i119_6 : ts_ins 119 6 = some (.bipush 30, 8, 0) := by decide +kernel
theorem i119_8 : ts_ins 119 8 = some (.if_icmp .gt 32, 11, 40) := by decide +kernel
theorem i119_11 : ts_ins 119 11 = some (.aload_n 0, 12, 0) := by decide +kernel
theorem i119_12 : ts_ins 119 12 = some (.getfield 10, 15, 0) := by decide +kernel
theorem g119_12 : ts_fm 119 10 = some (11, 0, 2) := by decide +kernel
theorem i119_15 : ts_ins 119 15 = some (.iload_n 3, 16, 0) := by decide +kernel
theorem i119_16 : ts_ins 119 16 = some (.invokevirtual 129, 19, 0) := by decide +kernel
theorem g119_16 : ts_cal (ts_mc 119) 129 = some (0, 20, 1) := by decide +kernel
theorem i119_19 : ts_ins 119 19 = some (.ifCond .eq 21, 22, 40) := by decide +kernel
theorem i119_22 : ts_ins 119 22 = some (.iload 4, 24, 0) := by decide +kernel
theorem i119_24 : ts_ins 119 24 = some (.invokestatic 217, 27, 0) := by decide +kernel
theorem g119_24 : ts_cal (ts_mc 119) 217 = some (1, 140, 1) := by decide +kernel
theorem i119_27 : ts_ins 119 27 = some (.ifCond .eq 13, 30, 40) := by decide +kernel
theorem i119_30 : ts_ins 119 30 = some (.aload_n 0, 31, 0) := by decide +kernel
theorem i119_31 : ts_ins 119 31 = some (.getfield 10, 34, 0) := by decide +kernel
theorem g119_31 : ts_fm 119 10 = some (11, 0, 2) := by decide +kernel
theorem i119_34 : ts_ins 119 34 = some (.getfield 240, 37, 0) := by decide +kernel
theorem g119_34 : ts_fm 119 240 = some (3, 8, 0) := by decide +kernel
theorem i119_37 : ts_ins 119 37 = some (.ifCond .ne 7, 40, 44) := by decide +kernel
theorem i119_40 : ts_ins 119 40 = some (.ldc_w 273, 43, 0) := by decide +kernel
theorem g119_40 : ts_lc (ts_mc 119) 273 = some (.int (-2000000000)) := by decide +kernel
theorem i119_43 : ts_ins 119 43 = some (.ireturn, 44, 0) := by decide +kernel
theorem i119_44 : ts_ins 119 44 = some (.iconst 0, 45, 0) := by decide +kernel
theorem i119_45 : ts_ins 119 45 = some (.istore 5, 47, 0) := by decide +kernel
theorem i119_47 : ts_ins 119 47 = some (.iload_n 1, 48, 0) := by decide +kernel
theorem i119_48 : ts_ins 119 48 = some (.istore 6, 50, 0) := by decide +kernel
theorem i119_50 : ts_ins 119 50 = some (.iconst 0, 51, 0) := by decide +kernel
theorem i119_51 : ts_ins 119 51 = some (.istore 7, 53, 0) := by decide +kernel
theorem i119_53 : ts_ins 119 53 = some (.iload 7, 55, 0) := by decide +kernel
theorem i119_55 : ts_ins 119 55 = some (.iload_n 2, 56, 0) := by decide +kernel
theorem i119_56 : ts_ins 119 56 = some (.if_icmp .ge 78, 59, 134) := by decide +kernel
theorem i119_59 : ts_ins 119 59 = some (.aload_n 0, 60, 0) := by decide +kernel
theorem i119_60 : ts_ins 119 60 = some (.getfield 42, 63, 0) := by decide +kernel
theorem g119_60 : ts_fm 119 42 = some (11, 4, 2) := by decide +kernel
theorem i119_63 : ts_ins 119 63 = some (.iload_n 3, 64, 0) := by decide +kernel
theorem i119_64 : ts_ins 119 64 = some (.iload 6, 66, 0) := by decide +kernel
theorem i119_66 : ts_ins 119 66 = some (.invokevirtual 283, 69, 0) := by decide +kernel
theorem g119_66 : ts_cal (ts_mc 119) 283 = some (0, 70, 2) := by decide +kernel
theorem i119_69 : ts_ins 119 69 = some (.istore 6, 71, 0) := by decide +kernel
theorem i119_71 : ts_ins 119 71 = some (.iload 4, 73, 0) := by decide +kernel
theorem i119_73 : ts_ins 119 73 = some (.ifCond .ne 22, 76, 95) := by decide +kernel
theorem i119_76 : ts_ins 119 76 = some (.aload_n 0, 77, 0) := by decide +kernel
theorem i119_77 : ts_ins 119 77 = some (.getfield 42, 80, 0) := by decide +kernel
theorem g119_77 : ts_fm 119 42 = some (11, 4, 2) := by decide +kernel
theorem i119_80 : ts_ins 119 80 = some (.iload_n 3, 81, 0) := by decide +kernel
theorem i119_81 : ts_ins 119 81 = some (.invokevirtual 237, 84, 0) := by decide +kernel
theorem g119_81 : ts_cal (ts_mc 119) 237 = some (0, 72, 1) := by decide +kernel
theorem i119_84 : ts_ins 119 84 = some (.ifCond .ne 7, 87, 91) := by decide +kernel
theorem i119_87 : ts_ins 119 87 = some (.iconst 1, 88, 0) := by decide +kernel
theorem i119_88 : ts_ins 119 88 = some (.goto 23, 91, 111) := by decide +kernel
theorem i119_91 : ts_ins 119 91 = some (.iconst 0, 92, 0) := by decide +kernel
theorem i119_92 : ts_ins 119 92 = some (.goto 19, 95, 111) := by decide +kernel
theorem i119_95 : ts_ins 119 95 = some (.aload_n 0, 96, 0) := by decide +kernel
theorem i119_96 : ts_ins 119 96 = some (.getfield 42, 99, 0) := by decide +kernel
theorem g119_96 : ts_fm 119 42 = some (11, 4, 2) := by decide +kernel
theorem i119_99 : ts_ins 119 99 = some (.invokevirtual 234, 102, 0) := by decide +kernel
theorem g119_99 : ts_cal (ts_mc 119) 234 = some (0, 73, 0) := by decide +kernel
theorem i119_102 : ts_ins 119 102 = some (.iload_n 3, 103, 0) := by decide +kernel
theorem i119_103 : ts_ins 119 103 = some (.if_icmp .ne 7, 106, 110) := by decide +kernel
theorem i119_106 : ts_ins 119 106 = some (.iconst 1, 107, 0) := by decide +kernel
theorem i119_107 : ts_ins 119 107 = some (.goto 4, 110, 111) := by decide +kernel
theorem i119_110 : ts_ins 119 110 = some (.iconst 0, 111, 0) := by decide +kernel
theorem i119_111 : ts_ins 119 111 = some (.istore 8, 113, 0) := by decide +kernel
theorem i119_113 : ts_ins 119 113 = some (.iload 5, 115, 0) := by decide +kernel
theorem i119_115 : ts_ins 119 115 = some (.iload 8, 117, 0) := by decide +kernel
theorem i119_117 : ts_ins 119 117 = some (.ifCond .eq 7, 120, 124) := by decide +kernel
theorem i119_120 : ts_ins 119 120 = some (.iconst 1, 121, 0) := by decide +kernel
theorem i119_121 : ts_ins 119 121 = some (.goto 4, 124, 125) := by decide +kernel
theorem i119_124 : ts_ins 119 124 = some (.iconst 0, 125, 0) := by decide +kernel
theorem i119_125 : ts_ins 119 125 = some (.iadd, 126, 0) := by decide +kernel
theorem i119_126 : ts_ins 119 126 = some (.istore 5, 128, 0) := by decide +kernel
theorem i119_128 : ts_ins 119 128 = some (.iinc 7 1, 131, 0) := by decide +kernel
theorem i119_131 : ts_ins 119 131 = some (.goto (-78), 134, 53) := by decide +kernel
theorem i119_134 : ts_ins 119 134 = some (.iload 5, 136, 0) := by decide +kernel
theorem i119_136 : ts_ins 119 136 = some (.ireturn, 137, 0) := by decide +kernel
theorem r119 : ts_rt 119 = ((some .int), 0, 0) := by decide +kernel
theorem l119 : ts_ml 119 = 9 := by decide +kernel
theorem i211_0 : ts_ins 211 0 = some (.iload_n 2, 1, 0) := by decide +kernel
theorem i211_1 : ts_ins 211 1 = some (.i2l, 2, 0) := by decide +kernel
theorem i211_2 : ts_ins 211 2 = some (.lconst 1, 3, 0) := by decide +kernel
theorem i211_3 : ts_ins 211 3 = some (.ldc2_w 285, 6, 0) := by decide +kernel
theorem g211_3 : ts_lc (ts_mc 211) 285 = some (.long (30)) := by decide +kernel
theorem i211_6 : ts_ins 211 6 = some (.invokestatic 95, 9, 0) := by decide +kernel
theorem g211_6 : ts_cal (ts_mc 211) 95 = some (1, 143, 3) := by decide +kernel
theorem i211_9 : ts_ins 211 9 = some (.ifCond .eq 30, 12, 39) := by decide +kernel
theorem i211_12 : ts_ins 211 12 = some (.aload_n 0, 13, 0) := by decide +kernel
theorem i211_13 : ts_ins 211 13 = some (.iload_n 3, 14, 0) := by decide +kernel
theorem i211_14 : ts_ins 211 14 = some (.i2l, 15, 0) := by decide +kernel
theorem i211_15 : ts_ins 211 15 = some (.invokevirtual 131, 18, 0) := by decide +kernel
theorem g211_15 : ts_cal (ts_mc 211) 131 = some (0, 150, 1) := by decide +kernel
theorem i211_18 : ts_ins 211 18 = some (.ifCond .eq 21, 21, 39) := by decide +kernel
theorem i211_21 : ts_ins 211 21 = some (.aload_n 0, 22, 0) := by decide +kernel
theorem i211_22 : ts_ins 211 22 = some (.getfield 99, 25, 0) := by decide +kernel
theorem g211_22 : ts_fm 211 99 = some (12, 6, 0) := by decide +kernel
theorem i211_25 : ts_ins 211 25 = some (.ifCond .eq 14, 28, 39) := by decide +kernel
theorem i211_28 : ts_ins 211 28 = some (.iload 4, 30, 0) := by decide +kernel
theorem i211_30 : ts_ins 211 30 = some (.i2l, 31, 0) := by decide +kernel
theorem i211_31 : ts_ins 211 31 = some (.lconst 0, 32, 0) := by decide +kernel
theorem i211_32 : ts_ins 211 32 = some (.lconst 1, 33, 0) := by decide +kernel
theorem i211_33 : ts_ins 211 33 = some (.invokestatic 95, 36, 0) := by decide +kernel
theorem g211_33 : ts_cal (ts_mc 211) 95 = some (1, 143, 3) := by decide +kernel
theorem i211_36 : ts_ins 211 36 = some (.ifCond .ne 7, 39, 43) := by decide +kernel
theorem i211_39 : ts_ins 211 39 = some (.ldc_w 284, 42, 0) := by decide +kernel
theorem g211_39 : ts_lc (ts_mc 211) 284 = some (.int (-2000000000)) := by decide +kernel
theorem i211_42 : ts_ins 211 42 = some (.ireturn, 43, 0) := by decide +kernel
theorem i211_43 : ts_ins 211 43 = some (.iload_n 1, 44, 0) := by decide +kernel
theorem i211_44 : ts_ins 211 44 = some (.istore 5, 46, 0) := by decide +kernel
theorem i211_46 : ts_ins 211 46 = some (.iconst 0, 47, 0) := by decide +kernel
theorem i211_47 : ts_ins 211 47 = some (.istore 6, 49, 0) := by decide +kernel
theorem i211_49 : ts_ins 211 49 = some (.iconst 0, 50, 0) := by decide +kernel
theorem i211_50 : ts_ins 211 50 = some (.istore 7, 52, 0) := by decide +kernel
theorem i211_52 : ts_ins 211 52 = some (.iconst 0, 53, 0) := by decide +kernel
theorem i211_53 : ts_ins 211 53 = some (.istore 8, 55, 0) := by decide +kernel
theorem i211_55 : ts_ins 211 55 = some (.iload 8, 57, 0) := by decide +kernel
theorem i211_57 : ts_ins 211 57 = some (.iload_n 2, 58, 0) := by decide +kernel
theorem i211_58 : ts_ins 211 58 = some (.if_icmp .ge 158, 61, 216) := by decide +kernel
theorem i211_61 : ts_ins 211 61 = some (.aload_n 0, 62, 0) := by decide +kernel
theorem i211_62 : ts_ins 211 62 = some (.aload_n 0, 63, 0) := by decide +kernel
theorem i211_63 : ts_ins 211 63 = some (.getfield 22, 66, 0) := by decide +kernel
theorem g211_63 : ts_fm 211 22 = some (12, 8, 2) := by decide +kernel
theorem i211_66 : ts_ins 211 66 = some (.iload_n 3, 67, 0) := by decide +kernel
theorem i211_67 : ts_ins 211 67 = some (.iaload, 68, 0) := by decide +kernel
theorem i211_68 : ts_ins 211 68 = some (.putfield 247, 71, 0) := by decide +kernel
theorem g211_68 : ts_fmm 211 247 = some (12, 25, 0, false) := by decide +kernel
theorem i211_71 : ts_ins 211 71 = some (.iconst 0, 72, 0) := by decide +kernel
theorem i211_72 : ts_ins 211 72 = some (.istore 9, 74, 0) := by decide +kernel
theorem i211_74 : ts_ins 211 74 = some (.iload 9, 76, 0) := by decide +kernel
theorem i211_76 : ts_ins 211 76 = some (.aload_n 0, 77, 0) := by decide +kernel
theorem i211_77 : ts_ins 211 77 = some (.getfield 22, 80, 0) := by decide +kernel
theorem g211_77 : ts_fm 211 22 = some (12, 8, 2) := by decide +kernel
theorem i211_80 : ts_ins 211 80 = some (.iload_n 3, 81, 0) := by decide +kernel
theorem i211_81 : ts_ins 211 81 = some (.iaload, 82, 0) := by decide +kernel
theorem i211_82 : ts_ins 211 82 = some (.if_icmp .ge 92, 85, 174) := by decide +kernel
theorem i211_85 : ts_ins 211 85 = some (.iload 5, 87, 0) := by decide +kernel
theorem i211_87 : ts_ins 211 87 = some (.ldc_w 287, 90, 0) := by decide +kernel
theorem g211_87 : ts_lc (ts_mc 211) 287 = some (.int (1103515245)) := by decide +kernel
theorem i211_90 : ts_ins 211 90 = some (.imul, 91, 0) := by decide +kernel
theorem i211_91 : ts_ins 211 91 = some (.sipush 12345, 94, 0) := by decide +kernel
theorem i211_94 : ts_ins 211 94 = some (.iadd, 95, 0) := by decide +kernel
theorem i211_95 : ts_ins 211 95 = some (.istore 5, 97, 0) := by decide +kernel
theorem i211_97 : ts_ins 211 97 = some (.aload_n 0, 98, 0) := by decide +kernel
theorem i211_98 : ts_ins 211 98 = some (.getfield 9, 101, 0) := by decide +kernel
theorem g211_98 : ts_fm 211 9 = some (12, 0, 2) := by decide +kernel
theorem i211_101 : ts_ins 211 101 = some (.bipush 49, 103, 0) := by decide +kernel
theorem i211_103 : ts_ins 211 103 = some (.bipush 6, 105, 0) := by decide +kernel
theorem i211_105 : ts_ins 211 105 = some (.iload_n 3, 106, 0) := by decide +kernel
theorem i211_106 : ts_ins 211 106 = some (.imul, 107, 0) := by decide +kernel
theorem i211_107 : ts_ins 211 107 = some (.iadd, 108, 0) := by decide +kernel
theorem i211_108 : ts_ins 211 108 = some (.iload 9, 110, 0) := by decide +kernel
theorem i211_110 : ts_ins 211 110 = some (.iadd, 111, 0) := by decide +kernel
theorem i211_111 : ts_ins 211 111 = some (.iaload, 112, 0) := by decide +kernel
theorem i211_112 : ts_ins 211 112 = some (.istore 10, 114, 0) := by decide +kernel
theorem i211_114 : ts_ins 211 114 = some (.aload_n 0, 115, 0) := by decide +kernel
theorem i211_115 : ts_ins 211 115 = some (.getfield 46, 118, 0) := by decide +kernel
theorem g211_115 : ts_fm 211 46 = some (12, 24, 2) := by decide +kernel
theorem i211_118 : ts_ins 211 118 = some (.iload 9, 120, 0) := by decide +kernel
theorem i211_120 : ts_ins 211 120 = some (.iload 5, 122, 0) := by decide +kernel
theorem i211_122 : ts_ins 211 122 = some (.bipush 8, 124, 0) := by decide +kernel
theorem i211_124 : ts_ins 211 124 = some (.iushr, 125, 0) := by decide +kernel
theorem i211_125 : ts_ins 211 125 = some (.bipush 12, 127, 0) := by decide +kernel
theorem i211_127 : ts_ins 211 127 = some (.irem, 128, 0) := by decide +kernel
theorem i211_128 : ts_ins 211 128 = some (.aload_n 0, 129, 0) := by decide +kernel
theorem i211_129 : ts_ins 211 129 = some (.getfield 9, 132, 0) := by decide +kernel
theorem g211_129 : ts_fm 211 9 = some (12, 0, 2) := by decide +kernel
theorem i211_132 : ts_ins 211 132 = some (.bipush 40, 134, 0) := by decide +kernel
theorem i211_134 : ts_ins 211 134 = some (.iload 9, 136, 0) := by decide +kernel
theorem i211_136 : ts_ins 211 136 = some (.aload_n 0, 137, 0) := by decide +kernel
theorem i211_137 : ts_ins 211 137 = some (.getfield 99, 140, 0) := by decide +kernel
theorem g211_137 : ts_fm 211 99 = some (12, 6, 0) := by decide +kernel
theorem i211_140 : ts_ins 211 140 = some (.irem, 141, 0) := by decide +kernel
theorem i211_141 : ts_ins 211 141 = some (.iadd, 142, 0) := by decide +kernel
theorem i211_142 : ts_ins 211 142 = some (.iaload, 143, 0) := by decide +kernel
theorem i211_143 : ts_ins 211 143 = some (.if_icmp .ge 8, 146, 151) := by decide +kernel
theorem i211_146 : ts_ins 211 146 = some (.iload 10, 148, 0) := by decide +kernel
theorem i211_148 : ts_ins 211 148 = some (.goto 19, 151, 167) := by decide +kernel
theorem i211_151 : ts_ins 211 151 = some (.iload 10, 153, 0) := by decide +kernel
theorem i211_153 : ts_ins 211 153 = some (.iconst 1, 154, 0) := by decide +kernel
theorem i211_154 : ts_ins 211 154 = some (.iadd, 155, 0) := by decide +kernel
theorem i211_155 : ts_ins 211 155 = some (.iload 5, 157, 0) := by decide +kernel
theorem i211_157 : ts_ins 211 157 = some (.bipush 16, 159, 0) := by decide +kernel
theorem i211_159 : ts_ins 211 159 = some (.iushr, 160, 0) := by decide +kernel
theorem i211_160 : ts_ins 211 160 = some (.bipush 7, 162, 0) := by decide +kernel
theorem i211_162 : ts_ins 211 162 = some (.irem, 163, 0) := by decide +kernel
theorem i211_163 : ts_ins 211 163 = some (.iadd, 164, 0) := by decide +kernel
theorem i211_164 : ts_ins 211 164 = some (.bipush 8, 166, 0) := by decide +kernel
theorem i211_166 : ts_ins 211 166 = some (.irem, 167, 0) := by decide +kernel
theorem i211_167 : ts_ins 211 167 = some (.iastore, 168, 0) := by decide +kernel
theorem i211_168 : ts_ins 211 168 = some (.iinc 9 1, 171, 0) := by decide +kernel
theorem i211_171 : ts_ins 211 171 = some (.goto (-97), 174, 74) := by decide +kernel
theorem i211_174 : ts_ins 211 174 = some (.iload 6, 176, 0) := by decide +kernel
theorem i211_176 : ts_ins 211 176 = some (.aload_n 0, 177, 0) := by decide +kernel
theorem i211_177 : ts_ins 211 177 = some (.iload_n 3, 178, 0) := by decide +kernel
theorem i211_178 : ts_ins 211 178 = some (.invokevirtual 250, 181, 0) := by decide +kernel
theorem g211_178 : ts_cal (ts_mc 211) 250 = some (0, 192, 1) := by decide +kernel
theorem i211_181 : ts_ins 211 181 = some (.ifCond .ne 7, 184, 188) := by decide +kernel
theorem i211_184 : ts_ins 211 184 = some (.iconst 1, 185, 0) := by decide +kernel
theorem i211_185 : ts_ins 211 185 = some (.goto 4, 188, 189) := by decide +kernel
theorem i211_188 : ts_ins 211 188 = some (.iconst 0, 189, 0) := by decide +kernel
theorem i211_189 : ts_ins 211 189 = some (.iadd, 190, 0) := by decide +kernel
theorem i211_190 : ts_ins 211 190 = some (.istore 6, 192, 0) := by decide +kernel
theorem i211_192 : ts_ins 211 192 = some (.iload 7, 194, 0) := by decide +kernel
theorem i211_194 : ts_ins 211 194 = some (.aload_n 0, 195, 0) := by decide +kernel
theorem i211_195 : ts_ins 211 195 = some (.invokevirtual 259, 198, 0) := by decide +kernel
theorem g211_195 : ts_cal (ts_mc 211) 259 = some (0, 194, 0) := by decide +kernel
theorem i211_198 : ts_ins 211 198 = some (.iload_n 3, 199, 0) := by decide +kernel
theorem i211_199 : ts_ins 211 199 = some (.if_icmp .ne 7, 202, 206) := by decide +kernel
theorem i211_202 : ts_ins 211 202 = some (.iconst 1, 203, 0) := by decide +kernel
theorem i211_203 : ts_ins 211 203 = some (.goto 4, 206, 207) := by decide +kernel
theorem i211_206 : ts_ins 211 206 = some (.iconst 0, 207, 0) := by decide +kernel
theorem i211_207 : ts_ins 211 207 = some (.iadd, 208, 0) := by decide +kernel
theorem i211_208 : ts_ins 211 208 = some (.istore 7, 210, 0) := by decide +kernel
theorem i211_210 : ts_ins 211 210 = some (.iinc 8 1, 213, 0) := by decide +kernel
theorem i211_213 : ts_ins 211 213 = some (.goto (-158), 216, 55) := by decide +kernel
theorem i211_216 : ts_ins 211 216 = some (.iload 4, 218, 0) := by decide +kernel
theorem i211_218 : ts_ins 211 218 = some (.ifCond .ne 8, 221, 226) := by decide +kernel
theorem i211_221 : ts_ins 211 221 = some (.iload 6, 223, 0) := by decide +kernel
theorem i211_223 : ts_ins 211 223 = some (.goto 5, 226, 228) := by decide +kernel
theorem i211_226 : ts_ins 211 226 = some (.iload 7, 228, 0) := by decide +kernel
theorem i211_228 : ts_ins 211 228 = some (.ireturn, 229, 0) := by decide +kernel
theorem r211 : ts_rt 211 = ((some .int), 0, 0) := by decide +kernel
theorem l211 : ts_ml 211 = 11 := by decide +kernel
/-! DRAWN -/
theorem zn_of (x : Int32) : nI x.toBitVec.toNat = x := Int32.toBitVec.inj (by
  show BitVec.ofNat 32 x.toBitVec.toNat = x.toBitVec
  simp)
theorem zushr_n (a : Int) (s : Int32) (b : Int) (k : Nat) (hb : zI b = s) (hs : ((s.toUInt32 &&& Int32.toUInt32 31).toBitVec % 32).toNat = k) (hk : 1 ≤ k ∧ k ≤ 31) : zushr a b = (((zI a).toBitVec.toNat / 2 ^ k : Nat) : Int) := by
  have h1 : (zI a).toBitVec.toNat < 2 ^ 32 := (zI a).toBitVec.isLt
  have e := pk_ushrN (n := (zI a).toBitVec.toNat) h1 s k hs
  rw [zn_of] at e
  unfold zushr ts_ushr
  rw [hb, e]
  refine nI_toInt ?_
  have h2 : 2 ^ 1 ≤ 2 ^ k := Nat.pow_le_pow_right (by decide) hk.1
  have h3 : (zI a).toBitVec.toNat / 2 ^ k ≤ (zI a).toBitVec.toNat / 2 ^ 1 := Nat.div_le_div_left h2 (by decide)
  omega
theorem zushr_8 (a : Int) : 0 ≤ zushr a 8 ∧ zushr a 8 ≤ 2147483647 := by
  have e := zushr_n a 8 8 8 rfl (by decide) (by decide)
  have h := zushr_r a 8
  rw [e] at h ⊢
  omega
theorem zushr_16 (a : Int) : 0 ≤ zushr a 16 ∧ zushr a 16 ≤ 2147483647 := by
  have e := zushr_n a 16 16 16 rfl (by decide) (by decide)
  have h := zushr_r a 16
  rw [e] at h ⊢
  omega
/-- the tone of a draw -/
def g_dt (f : ts_Fl) (t k y : Int) : Int := if zushr (y * 1103515245 + 12345) 8 % 12 < g_arm f k then f_say f t k else (f_say f t k + 1 + zushr (y * 1103515245 + 12345) 16 % 7) % 8
def g_dk (f : ts_Fl) (t k : Int) (st : Int × (Int → Int)) : Int × (Int → Int) := (st.1 * 1103515245 + 12345, zu st.2 k (g_dt f t k st.1))
def g_draw (f : ts_Fl) (t z : Int) : Int × (Int → Int) := zwh (f_len f t) (g_dk f t) 0 (z, fun _ => 0)
def g_n2 (f : ts_Fl) (t y : Int) : Int := if g_sc f (f_len f t) (g_draw f t y).2 t = 0 then 1 else 0
def g_n3 (f : ts_Fl) (t y : Int) : Int := if g_near f (f_len f t) (g_draw f t y).2 = t then 1 else 0
def g_nt (f : ts_Fl) (t : Int) (_ : Int) (st : Int × Int × Int) : Int × Int × Int := ((g_draw f t st.1).1, st.2.1 + g_n2 f t st.1, st.2.2 + g_n3 f t st.1)
def g_drawnA (f : ts_Fl) (z n t w : Int) : Int := if ¬ ((1 ≤ n ∧ n ≤ 30) ∧ (0 ≤ t ∧ t < f_told f) ∧ (0 ≤ w ∧ w ≤ 1) ∧ ¬ f_men f = 0) then -2000000000 else if w = 0 then (zwh n (g_nt f t) 0 (z, 0, 0)).2.1 else (zwh n (g_nt f t) 0 (z, 0, 0)).2.2
section DR
variable {X : ts_X} {I J : Nat → Nat → Int32} {L : Nat → Nat → Int64} {sw : Bool} {K : Option Value → ts_H → Prop} {d : Nat} {f : ts_Fl} {n : Int} {g : Int → Int}
theorem RX.len0 (h : RX I f) {t : Int} (h0 : 0 ≤ t) (h1 : t < f_told f) : 0 ≤ f_len f t ∧ f_len f t ≤ 6 := (h.len t h0 (by have := h.told.2; omega)).2
theorem x_draw (hX : RX I f) (hm : 0 < f_men f) {t z : Int} (ht : 0 ≤ t ∧ t < f_told f) (hK : ∀ J, fr fox I J → RXo J (f_len f t) (g_draw f t z).2 → K (some (.int (zI ((g_draw f t z).1)))) (J, L, ts_P0 sw, ts_S0)) : ts_Cal X (d + 2) 70 [.ref 40, .int (zI (t)), .int (zI (z))] (I, L, ts_P0 sw, ts_S0) K := by
  have b1 := hX.men.2
  have b2 := hX.told.2
  have b3 := hX.len0 ht.1 ht.2
  have loop : ∀ k : Int, 0 ≤ k → k ≤ f_len f t → ∀ y g J o o2 o3, fr fox I J → rd (J 40 2) 0 6 (f_len f t) → ar J 41 k 0 7 g → zwh (f_len f t) (g_dk f t) k (y, g) = g_draw f t z → ts_Ev X (ts_Cal X (d + 1)) 70 ts_S0 K 18 [.ref 40, .int (zI (t)), .int (zI (z)), .int (zI (y)), .int (zI (k)), o, o2, o3] [] (J, L, ts_P0 sw, ts_S0) := by
    refine ts_ind (f_len f t) (fun k ih h0 h1 y g J o o2 o3 hJ r2 ra h4 => ?_)
    have hX2 := hX.fox hJ
    have u1 := zushr_8 (y * 1103515245 + 12345)
    have u2 := zushr_16 (y * 1103515245 + 12345)
    have rk : f_len f t ≤ k ∨ 0 ≤ k % f_men f ∧ k % f_men f < f_men f := Or.inr ⟨Int.emod_nonneg _ (by omega), Int.emod_lt_of_pos _ hm⟩
    refine ev_iload_4 i70_18 ?_
    refine ev_aloadn_0 i70_20 ?_
    refine ew_getI i70_21 g70_21 rfl (by first | exact r2 | exact hX2.arm _ (by omega) (by omega) | exact hX.men | exact hX.told | exact hX.road | exact hX.tone _ (by omega) (by omega) | exact hX.corn _ (by omega) (by omega) | exact hX.stand _ (by omega) (by omega) | exact hX.reach _ (by omega) (by omega) | exact hX.arm _ (by omega) (by omega) | exact hX.late _ (by omega) (by omega) | exact hX.len _ (by omega) (by omega) | exact hX.say (by omega) (by omega) _ (by omega) (by omega)) (fun b21 => ?_)
    refine ew_icmpge i70_24 (by omega) (fun c24 => ?_) (fun c24 => ?_)
    · refine ev_iloadn_3 i70_132 ?_
      refine ev_ireturn i70_133 r70 ?_
      rw [zwh_0 (by omega)] at h4
      obtain rfl : k = f_len f t := by omega
      rw [← h4] at hK
      exact hK J hJ ⟨r2, ra⟩
    · refine ev_iloadn_3 i70_27 ?_
      refine ew_ldc (z := (1103515245)) i70_28 g70_28 (by decide) ?_
      refine ew_imul i70_30 ?_
      refine ew_sipush i70_31 (by decide) ?_
      refine ew_iadd i70_34 ?_
      refine ev_istoren_3 i70_35 rfl ?_
      refine ev_aloadn_0 i70_36 ?_
      refine ev_getA i70_37 g70_37 rfl rfl (by decide) ?_
      refine ev_iload_4 i70_40 ?_
      refine ev_virt1 i70_42 g70_42 rfl (by decide +kernel) (Nat.le_of_ble_eq_true rfl) (x_manOf hX2 (by omega) ?_)
      rw [if_pos (show 0 < f_men f ∧ 0 ≤ k by omega)]
      refine ev_istore_5 i70_45 rfl ?_
      refine ev_iload_5 i70_47 ?_
      refine ew_bipush i70_49 (by decide) ?_
      refine ew_icmpeq i70_51 (by omega) (fun c51 => ?_) (fun c51 => ?_)
      · refine ew_iconst i70_78 ?_
        refine ev_istore_6 i70_79 rfl ?_
        refine ev_iload_6 i70_81 ?_
        first
        | refine ew_ifeqB i70_83 (fun c83 => ?_) (fun c83 => ?_)
        | refine ew_ifeq i70_83 (by omega) (fun c83 => ?_) (fun c83 => ?_)
        · refine ew_iconst i70_90 ?_
          refine ev_iloadn_3 i70_91 ?_
          refine ew_bipush i70_92 (by decide) ?_
          refine ew_iushr i70_94 ?_
          refine ew_bipush i70_95 (by decide) ?_
          refine ew_irem i70_97 (by omega) (by omega) ?_
          refine ew_iadd i70_98 ?_
          refine ev_istore_7 i70_99 rfl ?_
          refine ev_aloadn_0 i70_101 ?_
          refine ev_getA i70_102 g70_102 rfl rfl (by decide) ?_
          refine ev_iload_4 i70_105 ?_
          refine ev_aloadn_0 i70_107 ?_
          refine ev_getA i70_108 g70_108 rfl rfl (by decide) ?_
          refine ev_getA i70_111 g70_111 rfl rfl (by decide) ?_
          refine ev_iloadn_1 i70_114 ?_
          refine ew_aaloadG i70_115 rfl (by omega) (by omega) (by omega) (floor_P (by omega) (by omega)) (by omega) ?_
          refine ev_iload_4 i70_116 ?_
          refine ew_iaload i70_118 (floor_A (by omega) (by omega)) (by omega) (by omega) (by omega) ((hX2.say (by omega) (by omega) _ (by omega) (by omega))) (fun b118 => ?_)
          refine ev_iload_7 i70_119 ?_
          refine ew_iadd i70_121 ?_
          refine ew_bipush i70_122 (by decide) ?_
          refine ew_irem i70_124 (by omega) (by omega) ?_
          refine ew_iastore i70_125 rfl (by omega) (by omega) (by omega) ?_
          refine ew_iinc_4 i70_126 rfl ?_
          refine ev_goto i70_129 ?_
          rw [zwh_1 (by omega)] at h4
          have hg : 0 ≤ g_dt f t k y ∧ g_dt f t k y ≤ 7 := by
            unfold g_dt
            have e3 : g_arm f k = f_arm f (k % f_men f) := rfl
            rw [e3]
            omega
          first
            | (rw [show (f_say f t k + 0) % 8 = g_dt f t k y from by unfold g_dt; rw [show g_arm f k = f_arm f (k % f_men f) from rfl]; omega]
               exact ih (by omega) (by omega) (by omega) _ _ _ _ _ _ (fr_up hJ (by omega)) r2 (ar_ext ra h0 hg) h4)
            | (rw [show (f_say f t k + (1 + zushr (y * 1103515245 + 12345) 16 % 7)) % 8 = g_dt f t k y from by unfold g_dt; rw [show g_arm f k = f_arm f (k % f_men f) from rfl]; omega]
               exact ih (by omega) (by omega) (by omega) _ _ _ _ _ _ (fr_up hJ (by omega)) r2 (ar_ext ra h0 hg) h4)
            | (exfalso; omega)
        · refine ew_iconst i70_86 ?_
          refine ev_goto i70_87 ?_
          refine ev_istore_7 i70_99 rfl ?_
          refine ev_aloadn_0 i70_101 ?_
          refine ev_getA i70_102 g70_102 rfl rfl (by decide) ?_
          refine ev_iload_4 i70_105 ?_
          refine ev_aloadn_0 i70_107 ?_
          refine ev_getA i70_108 g70_108 rfl rfl (by decide) ?_
          refine ev_getA i70_111 g70_111 rfl rfl (by decide) ?_
          refine ev_iloadn_1 i70_114 ?_
          refine ew_aaloadG i70_115 rfl (by omega) (by omega) (by omega) (floor_P (by omega) (by omega)) (by omega) ?_
          refine ev_iload_4 i70_116 ?_
          refine ew_iaload i70_118 (floor_A (by omega) (by omega)) (by omega) (by omega) (by omega) ((hX2.say (by omega) (by omega) _ (by omega) (by omega))) (fun b118 => ?_)
          refine ev_iload_7 i70_119 ?_
          refine ew_iadd i70_121 ?_
          refine ew_bipush i70_122 (by decide) ?_
          refine ew_irem i70_124 (by omega) (by omega) ?_
          refine ew_iastore i70_125 rfl (by omega) (by omega) (by omega) ?_
          refine ew_iinc_4 i70_126 rfl ?_
          refine ev_goto i70_129 ?_
          rw [zwh_1 (by omega)] at h4
          have hg : 0 ≤ g_dt f t k y ∧ g_dt f t k y ≤ 7 := by
            unfold g_dt
            have e3 : g_arm f k = f_arm f (k % f_men f) := rfl
            rw [e3]
            omega
          first
            | (rw [show (f_say f t k + 0) % 8 = g_dt f t k y from by unfold g_dt; rw [show g_arm f k = f_arm f (k % f_men f) from rfl]; omega]
               exact ih (by omega) (by omega) (by omega) _ _ _ _ _ _ (fr_up hJ (by omega)) r2 (ar_ext ra h0 hg) h4)
            | (rw [show (f_say f t k + (1 + zushr (y * 1103515245 + 12345) 16 % 7)) % 8 = g_dt f t k y from by unfold g_dt; rw [show g_arm f k = f_arm f (k % f_men f) from rfl]; omega]
               exact ih (by omega) (by omega) (by omega) _ _ _ _ _ _ (fr_up hJ (by omega)) r2 (ar_ext ra h0 hg) h4)
            | (exfalso; omega)
      · refine ev_iloadn_3 i70_54 ?_
        refine ew_bipush i70_55 (by decide) ?_
        refine ew_iushr i70_57 ?_
        refine ew_bipush i70_58 (by decide) ?_
        refine ew_irem i70_60 (by omega) (by omega) ?_
        refine ev_aloadn_0 i70_61 ?_
        refine ev_getA i70_62 g70_62 rfl rfl (by decide) ?_
        refine ev_getA i70_65 g70_65 rfl rfl (by decide) ?_
        refine ev_iload_5 i70_68 ?_
        refine ew_iaload i70_70 rfl (by omega) (by omega) (by omega) (by first | exact r2 | exact hX2.arm _ (by omega) (by omega) | exact hX.men | exact hX.told | exact hX.road | exact hX.tone _ (by omega) (by omega) | exact hX.corn _ (by omega) (by omega) | exact hX.stand _ (by omega) (by omega) | exact hX.reach _ (by omega) (by omega) | exact hX.arm _ (by omega) (by omega) | exact hX.late _ (by omega) (by omega) | exact hX.len _ (by omega) (by omega) | exact hX.say (by omega) (by omega) _ (by omega) (by omega)) (fun b70 => ?_)
        refine ew_icmpge i70_71 (by omega) (fun c71 => ?_) (fun c71 => ?_)
        · refine ew_iconst i70_78 ?_
          refine ev_istore_6 i70_79 rfl ?_
          refine ev_iload_6 i70_81 ?_
          first
          | refine ew_ifeqB i70_83 (fun c83 => ?_) (fun c83 => ?_)
          | refine ew_ifeq i70_83 (by omega) (fun c83 => ?_) (fun c83 => ?_)
          · refine ew_iconst i70_90 ?_
            refine ev_iloadn_3 i70_91 ?_
            refine ew_bipush i70_92 (by decide) ?_
            refine ew_iushr i70_94 ?_
            refine ew_bipush i70_95 (by decide) ?_
            refine ew_irem i70_97 (by omega) (by omega) ?_
            refine ew_iadd i70_98 ?_
            refine ev_istore_7 i70_99 rfl ?_
            refine ev_aloadn_0 i70_101 ?_
            refine ev_getA i70_102 g70_102 rfl rfl (by decide) ?_
            refine ev_iload_4 i70_105 ?_
            refine ev_aloadn_0 i70_107 ?_
            refine ev_getA i70_108 g70_108 rfl rfl (by decide) ?_
            refine ev_getA i70_111 g70_111 rfl rfl (by decide) ?_
            refine ev_iloadn_1 i70_114 ?_
            refine ew_aaloadG i70_115 rfl (by omega) (by omega) (by omega) (floor_P (by omega) (by omega)) (by omega) ?_
            refine ev_iload_4 i70_116 ?_
            refine ew_iaload i70_118 (floor_A (by omega) (by omega)) (by omega) (by omega) (by omega) ((hX2.say (by omega) (by omega) _ (by omega) (by omega))) (fun b118 => ?_)
            refine ev_iload_7 i70_119 ?_
            refine ew_iadd i70_121 ?_
            refine ew_bipush i70_122 (by decide) ?_
            refine ew_irem i70_124 (by omega) (by omega) ?_
            refine ew_iastore i70_125 rfl (by omega) (by omega) (by omega) ?_
            refine ew_iinc_4 i70_126 rfl ?_
            refine ev_goto i70_129 ?_
            rw [zwh_1 (by omega)] at h4
            have hg : 0 ≤ g_dt f t k y ∧ g_dt f t k y ≤ 7 := by
              unfold g_dt
              have e3 : g_arm f k = f_arm f (k % f_men f) := rfl
              rw [e3]
              omega
            first
              | (rw [show (f_say f t k + 0) % 8 = g_dt f t k y from by unfold g_dt; rw [show g_arm f k = f_arm f (k % f_men f) from rfl]; omega]
                 exact ih (by omega) (by omega) (by omega) _ _ _ _ _ _ (fr_up hJ (by omega)) r2 (ar_ext ra h0 hg) h4)
              | (rw [show (f_say f t k + (1 + zushr (y * 1103515245 + 12345) 16 % 7)) % 8 = g_dt f t k y from by unfold g_dt; rw [show g_arm f k = f_arm f (k % f_men f) from rfl]; omega]
                 exact ih (by omega) (by omega) (by omega) _ _ _ _ _ _ (fr_up hJ (by omega)) r2 (ar_ext ra h0 hg) h4)
              | (exfalso; omega)
          · refine ew_iconst i70_86 ?_
            refine ev_goto i70_87 ?_
            refine ev_istore_7 i70_99 rfl ?_
            refine ev_aloadn_0 i70_101 ?_
            refine ev_getA i70_102 g70_102 rfl rfl (by decide) ?_
            refine ev_iload_4 i70_105 ?_
            refine ev_aloadn_0 i70_107 ?_
            refine ev_getA i70_108 g70_108 rfl rfl (by decide) ?_
            refine ev_getA i70_111 g70_111 rfl rfl (by decide) ?_
            refine ev_iloadn_1 i70_114 ?_
            refine ew_aaloadG i70_115 rfl (by omega) (by omega) (by omega) (floor_P (by omega) (by omega)) (by omega) ?_
            refine ev_iload_4 i70_116 ?_
            refine ew_iaload i70_118 (floor_A (by omega) (by omega)) (by omega) (by omega) (by omega) ((hX2.say (by omega) (by omega) _ (by omega) (by omega))) (fun b118 => ?_)
            refine ev_iload_7 i70_119 ?_
            refine ew_iadd i70_121 ?_
            refine ew_bipush i70_122 (by decide) ?_
            refine ew_irem i70_124 (by omega) (by omega) ?_
            refine ew_iastore i70_125 rfl (by omega) (by omega) (by omega) ?_
            refine ew_iinc_4 i70_126 rfl ?_
            refine ev_goto i70_129 ?_
            rw [zwh_1 (by omega)] at h4
            have hg : 0 ≤ g_dt f t k y ∧ g_dt f t k y ≤ 7 := by
              unfold g_dt
              have e3 : g_arm f k = f_arm f (k % f_men f) := rfl
              rw [e3]
              omega
            first
              | (rw [show (f_say f t k + 0) % 8 = g_dt f t k y from by unfold g_dt; rw [show g_arm f k = f_arm f (k % f_men f) from rfl]; omega]
                 exact ih (by omega) (by omega) (by omega) _ _ _ _ _ _ (fr_up hJ (by omega)) r2 (ar_ext ra h0 hg) h4)
              | (rw [show (f_say f t k + (1 + zushr (y * 1103515245 + 12345) 16 % 7)) % 8 = g_dt f t k y from by unfold g_dt; rw [show g_arm f k = f_arm f (k % f_men f) from rfl]; omega]
                 exact ih (by omega) (by omega) (by omega) _ _ _ _ _ _ (fr_up hJ (by omega)) r2 (ar_ext ra h0 hg) h4)
              | (exfalso; omega)
        · refine ew_iconst i70_74 ?_
          refine ev_goto i70_75 ?_
          refine ev_istore_6 i70_79 rfl ?_
          refine ev_iload_6 i70_81 ?_
          first
          | refine ew_ifeqB i70_83 (fun c83 => ?_) (fun c83 => ?_)
          | refine ew_ifeq i70_83 (by omega) (fun c83 => ?_) (fun c83 => ?_)
          · refine ew_iconst i70_90 ?_
            refine ev_iloadn_3 i70_91 ?_
            refine ew_bipush i70_92 (by decide) ?_
            refine ew_iushr i70_94 ?_
            refine ew_bipush i70_95 (by decide) ?_
            refine ew_irem i70_97 (by omega) (by omega) ?_
            refine ew_iadd i70_98 ?_
            refine ev_istore_7 i70_99 rfl ?_
            refine ev_aloadn_0 i70_101 ?_
            refine ev_getA i70_102 g70_102 rfl rfl (by decide) ?_
            refine ev_iload_4 i70_105 ?_
            refine ev_aloadn_0 i70_107 ?_
            refine ev_getA i70_108 g70_108 rfl rfl (by decide) ?_
            refine ev_getA i70_111 g70_111 rfl rfl (by decide) ?_
            refine ev_iloadn_1 i70_114 ?_
            refine ew_aaloadG i70_115 rfl (by omega) (by omega) (by omega) (floor_P (by omega) (by omega)) (by omega) ?_
            refine ev_iload_4 i70_116 ?_
            refine ew_iaload i70_118 (floor_A (by omega) (by omega)) (by omega) (by omega) (by omega) ((hX2.say (by omega) (by omega) _ (by omega) (by omega))) (fun b118 => ?_)
            refine ev_iload_7 i70_119 ?_
            refine ew_iadd i70_121 ?_
            refine ew_bipush i70_122 (by decide) ?_
            refine ew_irem i70_124 (by omega) (by omega) ?_
            refine ew_iastore i70_125 rfl (by omega) (by omega) (by omega) ?_
            refine ew_iinc_4 i70_126 rfl ?_
            refine ev_goto i70_129 ?_
            rw [zwh_1 (by omega)] at h4
            have hg : 0 ≤ g_dt f t k y ∧ g_dt f t k y ≤ 7 := by
              unfold g_dt
              have e3 : g_arm f k = f_arm f (k % f_men f) := rfl
              rw [e3]
              omega
            first
              | (rw [show (f_say f t k + 0) % 8 = g_dt f t k y from by unfold g_dt; rw [show g_arm f k = f_arm f (k % f_men f) from rfl]; omega]
                 exact ih (by omega) (by omega) (by omega) _ _ _ _ _ _ (fr_up hJ (by omega)) r2 (ar_ext ra h0 hg) h4)
              | (rw [show (f_say f t k + (1 + zushr (y * 1103515245 + 12345) 16 % 7)) % 8 = g_dt f t k y from by unfold g_dt; rw [show g_arm f k = f_arm f (k % f_men f) from rfl]; omega]
                 exact ih (by omega) (by omega) (by omega) _ _ _ _ _ _ (fr_up hJ (by omega)) r2 (ar_ext ra h0 hg) h4)
              | (exfalso; omega)
          · refine ew_iconst i70_86 ?_
            refine ev_goto i70_87 ?_
            refine ev_istore_7 i70_99 rfl ?_
            refine ev_aloadn_0 i70_101 ?_
            refine ev_getA i70_102 g70_102 rfl rfl (by decide) ?_
            refine ev_iload_4 i70_105 ?_
            refine ev_aloadn_0 i70_107 ?_
            refine ev_getA i70_108 g70_108 rfl rfl (by decide) ?_
            refine ev_getA i70_111 g70_111 rfl rfl (by decide) ?_
            refine ev_iloadn_1 i70_114 ?_
            refine ew_aaloadG i70_115 rfl (by omega) (by omega) (by omega) (floor_P (by omega) (by omega)) (by omega) ?_
            refine ev_iload_4 i70_116 ?_
            refine ew_iaload i70_118 (floor_A (by omega) (by omega)) (by omega) (by omega) (by omega) ((hX2.say (by omega) (by omega) _ (by omega) (by omega))) (fun b118 => ?_)
            refine ev_iload_7 i70_119 ?_
            refine ew_iadd i70_121 ?_
            refine ew_bipush i70_122 (by decide) ?_
            refine ew_irem i70_124 (by omega) (by omega) ?_
            refine ew_iastore i70_125 rfl (by omega) (by omega) (by omega) ?_
            refine ew_iinc_4 i70_126 rfl ?_
            refine ev_goto i70_129 ?_
            rw [zwh_1 (by omega)] at h4
            have hg : 0 ≤ g_dt f t k y ∧ g_dt f t k y ≤ 7 := by
              unfold g_dt
              have e3 : g_arm f k = f_arm f (k % f_men f) := rfl
              rw [e3]
              omega
            first
              | (rw [show (f_say f t k + 0) % 8 = g_dt f t k y from by unfold g_dt; rw [show g_arm f k = f_arm f (k % f_men f) from rfl]; omega]
                 exact ih (by omega) (by omega) (by omega) _ _ _ _ _ _ (fr_up hJ (by omega)) r2 (ar_ext ra h0 hg) h4)
              | (rw [show (f_say f t k + (1 + zushr (y * 1103515245 + 12345) 16 % 7)) % 8 = g_dt f t k y from by unfold g_dt; rw [show g_arm f k = f_arm f (k % f_men f) from rfl]; omega]
                 exact ih (by omega) (by omega) (by omega) _ _ _ _ _ _ (fr_up hJ (by omega)) r2 (ar_ext ra h0 hg) h4)
              | (exfalso; omega)
  refine ev_enter (lv := [.ref 40, .int (zI (t)), .int (zI (z)), .null, .null, .null, .null, .null]) l70 rfl (Nat.le_of_ble_eq_true rfl) ?_
  refine ev_iloadn_2 i70_0 ?_
  refine ev_istoren_3 i70_1 rfl ?_
  refine ev_aloadn_0 i70_2 ?_
  refine ev_aloadn_0 i70_3 ?_
  refine ev_getA i70_4 g70_4 rfl rfl (by decide) ?_
  refine ev_getA i70_7 g70_7 rfl rfl (by decide) ?_
  refine ev_iloadn_1 i70_10 ?_
  refine ew_iaload i70_11 rfl (by omega) (by omega) (by omega) (by first | exact hX.men | exact hX.told | exact hX.road | exact hX.tone _ (by omega) (by omega) | exact hX.corn _ (by omega) (by omega) | exact hX.stand _ (by omega) (by omega) | exact hX.reach _ (by omega) (by omega) | exact hX.arm _ (by omega) (by omega) | exact hX.late _ (by omega) (by omega) | exact hX.len _ (by omega) (by omega) | exact hX.say (by omega) (by omega) _ (by omega) (by omega)) (fun b11 => ?_)
  refine ev_putI i70_12 g70_12 rfl ?_
  refine ew_iconst i70_15 ?_
  refine ev_istore_4 i70_16 rfl ?_
  exact loop 0 (by decide) (by omega) z (fun _ => 0) _ _ _ _ (fr_up (fr_rfl _ _) (by omega)) (rd_zI (by omega)) (fun p p0 p1 => by omega) rfl
theorem x_drawn (hX : RX I f) {z n t w : Int} (hn : -2147483648 ≤ n ∧ n ≤ 2147483647) (ht : -2147483648 ≤ t ∧ t ≤ 2147483647) (hw : -2147483648 ≤ w ∧ w ≤ 2147483647) (hK : ∀ J, fr fox I J → K (some (.int (zI (g_drawnA f z n t w)))) (J, L, ts_P0 sw, ts_S0)) : ts_Cal X (d + 5) 119 [.ref 1, .int (zI (z)), .int (zI (n)), .int (zI (t)), .int (zI (w))] (I, L, ts_P0 sw, ts_S0) K := by
  have b1 := hX.men.2
  have b2 := hX.told.2
  unfold g_drawnA at hK
  have loop : (1 ≤ n ∧ n ≤ 30) → (0 ≤ t ∧ t < f_told f) → (0 ≤ w ∧ w ≤ 1) → 0 < f_men f → ∀ i : Int, 0 ≤ i → i ≤ n → ∀ y r o J o2, fr fox I J → zwh n (g_nt f t) i (y, r, o) = zwh n (g_nt f t) 0 (z, 0, 0) → ts_Ev X (ts_Cal X (d + 4)) 119 ts_S0 K 53 [.ref 1, .int (zI (z)), .int (zI (n)), .int (zI (t)), .int (zI (w)), .int (zI (if w = 0 then r else o)), .int (zI (y)), .int (zI (i)), o2] [] (J, L, ts_P0 sw, ts_S0) := by
    intro hn2 ht2 hw2 hm
    have b3 := hX.len0 ht2.1 ht2.2
    refine ts_ind n (fun i ih h0 h1 y r o J o2 hJ h4 => ?_)
    refine ev_iload_7 i119_53 ?_
    refine ev_iloadn_2 i119_55 ?_
    refine ew_icmpge i119_56 (by omega) (fun c56 => ?_) (fun c56 => ?_)
    · refine ev_iload_5 i119_134 ?_
      refine ev_ireturn i119_136 r119 ?_
      rw [zwh_0 (by omega)] at h4
      rw [if_neg (by omega), ← h4] at hK
      exact hK J hJ
    · refine ev_aloadn_0 i119_59 ?_
      refine ev_getA i119_60 g119_60 rfl rfl (by decide) ?_
      refine ev_iloadn_3 i119_63 ?_
      refine ev_iload_6 i119_64 ?_
      refine ev_virt2 i119_66 g119_66 rfl (by decide +kernel) (Nat.le_of_ble_eq_true rfl) (x_draw (hX.fox hJ) hm ht2 (fun M h2 h3 => ?_))
      refine ev_istore_6 i119_69 rfl ?_
      have hX2 := (hX.fox hJ).fox h2
      have sc := g_sc_r (f := f) b3 (g_draw f t y).2 t
      have hJ2 := fr_tr hJ h2
      rw [zwh_1 (by omega)] at h4
      have n2 : g_n2 f t y = if g_sc f (f_len f t) (g_draw f t y).2 t = 0 then 1 else 0 := rfl
      have n3 : g_n3 f t y = if g_near f (f_len f t) (g_draw f t y).2 = t then 1 else 0 := rfl
      have fin := fun o2 => ih (by omega) (by omega) (by omega) (g_draw f t y).1 (r + g_n2 f t y) (o + g_n3 f t y) M o2 hJ2 h4
      refine ev_iload_4 i119_71 ?_
      first
      | refine ew_ifneB i119_73 (fun c73 => ?_) (fun c73 => ?_)
      | refine ew_ifne i119_73 (by omega) (fun c73 => ?_) (fun c73 => ?_)
      · refine ev_aloadn_0 i119_95 ?_
        refine ev_getA i119_96 g119_96 rfl rfl (by decide) ?_
        refine ev_virt0 i119_99 g119_99 rfl (by decide +kernel) (Nat.le_of_ble_eq_true rfl) (x_nearestSaying hX2 h3 (fun q0 q1 q2 q3 => ?_))
        refine ev_iloadn_3 i119_102 ?_
        refine ew_icmpne i119_103 (by omega) (fun c103 => ?_) (fun c103 => ?_)
        · refine ew_iconst i119_110 ?_
          refine ev_istore_8 i119_111 rfl ?_
          refine ev_iload_5 i119_113 ?_
          refine ev_iload_8 i119_115 ?_
          first
          | refine ew_ifeqB i119_117 (fun c117 => ?_) (fun c117 => ?_)
          | refine ew_ifeq i119_117 (by omega) (fun c117 => ?_) (fun c117 => ?_)
          · refine ew_iconst i119_124 ?_
            refine ew_iadd i119_125 ?_
            refine ev_istore_5 i119_126 rfl ?_
            refine ew_iinc_7 i119_128 rfl ?_
            refine ev_goto i119_131 ?_
            first
            | (have e := fin (.int (zI (1)))
               rw [show (if w = 0 then r + g_n2 f t y else o + g_n3 f t y) = (if w = 0 then r else o) + 1 from by omega] at e
               exact e)
            | (have e := fin (.int (zI (0)))
               rw [show (if w = 0 then r + g_n2 f t y else o + g_n3 f t y) = (if w = 0 then r else o) + 0 from by omega] at e
               exact e)
            | (exfalso; omega)
          · refine ew_iconst i119_120 ?_
            refine ev_goto i119_121 ?_
            refine ew_iadd i119_125 ?_
            refine ev_istore_5 i119_126 rfl ?_
            refine ew_iinc_7 i119_128 rfl ?_
            refine ev_goto i119_131 ?_
            first
            | (have e := fin (.int (zI (1)))
               rw [show (if w = 0 then r + g_n2 f t y else o + g_n3 f t y) = (if w = 0 then r else o) + 1 from by omega] at e
               exact e)
            | (have e := fin (.int (zI (0)))
               rw [show (if w = 0 then r + g_n2 f t y else o + g_n3 f t y) = (if w = 0 then r else o) + 0 from by omega] at e
               exact e)
            | (exfalso; omega)
        · refine ew_iconst i119_106 ?_
          refine ev_goto i119_107 ?_
          refine ev_istore_8 i119_111 rfl ?_
          refine ev_iload_5 i119_113 ?_
          refine ev_iload_8 i119_115 ?_
          first
          | refine ew_ifeqB i119_117 (fun c117 => ?_) (fun c117 => ?_)
          | refine ew_ifeq i119_117 (by omega) (fun c117 => ?_) (fun c117 => ?_)
          · refine ew_iconst i119_124 ?_
            refine ew_iadd i119_125 ?_
            refine ev_istore_5 i119_126 rfl ?_
            refine ew_iinc_7 i119_128 rfl ?_
            refine ev_goto i119_131 ?_
            first
            | (have e := fin (.int (zI (1)))
               rw [show (if w = 0 then r + g_n2 f t y else o + g_n3 f t y) = (if w = 0 then r else o) + 1 from by omega] at e
               exact e)
            | (have e := fin (.int (zI (0)))
               rw [show (if w = 0 then r + g_n2 f t y else o + g_n3 f t y) = (if w = 0 then r else o) + 0 from by omega] at e
               exact e)
            | (exfalso; omega)
          · refine ew_iconst i119_120 ?_
            refine ev_goto i119_121 ?_
            refine ew_iadd i119_125 ?_
            refine ev_istore_5 i119_126 rfl ?_
            refine ew_iinc_7 i119_128 rfl ?_
            refine ev_goto i119_131 ?_
            first
            | (have e := fin (.int (zI (1)))
               rw [show (if w = 0 then r + g_n2 f t y else o + g_n3 f t y) = (if w = 0 then r else o) + 1 from by omega] at e
               exact e)
            | (have e := fin (.int (zI (0)))
               rw [show (if w = 0 then r + g_n2 f t y else o + g_n3 f t y) = (if w = 0 then r else o) + 0 from by omega] at e
               exact e)
            | (exfalso; omega)
      · refine ev_aloadn_0 i119_76 ?_
        refine ev_getA i119_77 g119_77 rfl rfl (by decide) ?_
        refine ev_iloadn_3 i119_80 ?_
        refine ev_virt1 i119_81 g119_81 rfl (by decide +kernel) (Nat.le_of_ble_eq_true rfl) (x_slipsFrom hX2 h3 ht2 ?_)
        rw [if_pos rfl]
        first
        | refine ew_ifneB i119_84 (fun c84 => ?_) (fun c84 => ?_)
        | refine ew_ifne i119_84 (by omega) (fun c84 => ?_) (fun c84 => ?_)
        · refine ew_iconst i119_91 ?_
          refine ev_goto i119_92 ?_
          refine ev_istore_8 i119_111 rfl ?_
          refine ev_iload_5 i119_113 ?_
          refine ev_iload_8 i119_115 ?_
          first
          | refine ew_ifeqB i119_117 (fun c117 => ?_) (fun c117 => ?_)
          | refine ew_ifeq i119_117 (by omega) (fun c117 => ?_) (fun c117 => ?_)
          · refine ew_iconst i119_124 ?_
            refine ew_iadd i119_125 ?_
            refine ev_istore_5 i119_126 rfl ?_
            refine ew_iinc_7 i119_128 rfl ?_
            refine ev_goto i119_131 ?_
            first
            | (have e := fin (.int (zI (1)))
               rw [show (if w = 0 then r + g_n2 f t y else o + g_n3 f t y) = (if w = 0 then r else o) + 1 from by omega] at e
               exact e)
            | (have e := fin (.int (zI (0)))
               rw [show (if w = 0 then r + g_n2 f t y else o + g_n3 f t y) = (if w = 0 then r else o) + 0 from by omega] at e
               exact e)
            | (exfalso; omega)
          · refine ew_iconst i119_120 ?_
            refine ev_goto i119_121 ?_
            refine ew_iadd i119_125 ?_
            refine ev_istore_5 i119_126 rfl ?_
            refine ew_iinc_7 i119_128 rfl ?_
            refine ev_goto i119_131 ?_
            first
            | (have e := fin (.int (zI (1)))
               rw [show (if w = 0 then r + g_n2 f t y else o + g_n3 f t y) = (if w = 0 then r else o) + 1 from by omega] at e
               exact e)
            | (have e := fin (.int (zI (0)))
               rw [show (if w = 0 then r + g_n2 f t y else o + g_n3 f t y) = (if w = 0 then r else o) + 0 from by omega] at e
               exact e)
            | (exfalso; omega)
        · refine ew_iconst i119_87 ?_
          refine ev_goto i119_88 ?_
          refine ev_istore_8 i119_111 rfl ?_
          refine ev_iload_5 i119_113 ?_
          refine ev_iload_8 i119_115 ?_
          first
          | refine ew_ifeqB i119_117 (fun c117 => ?_) (fun c117 => ?_)
          | refine ew_ifeq i119_117 (by omega) (fun c117 => ?_) (fun c117 => ?_)
          · refine ew_iconst i119_124 ?_
            refine ew_iadd i119_125 ?_
            refine ev_istore_5 i119_126 rfl ?_
            refine ew_iinc_7 i119_128 rfl ?_
            refine ev_goto i119_131 ?_
            first
            | (have e := fin (.int (zI (1)))
               rw [show (if w = 0 then r + g_n2 f t y else o + g_n3 f t y) = (if w = 0 then r else o) + 1 from by omega] at e
               exact e)
            | (have e := fin (.int (zI (0)))
               rw [show (if w = 0 then r + g_n2 f t y else o + g_n3 f t y) = (if w = 0 then r else o) + 0 from by omega] at e
               exact e)
            | (exfalso; omega)
          · refine ew_iconst i119_120 ?_
            refine ev_goto i119_121 ?_
            refine ew_iadd i119_125 ?_
            refine ev_istore_5 i119_126 rfl ?_
            refine ew_iinc_7 i119_128 rfl ?_
            refine ev_goto i119_131 ?_
            first
            | (have e := fin (.int (zI (1)))
               rw [show (if w = 0 then r + g_n2 f t y else o + g_n3 f t y) = (if w = 0 then r else o) + 1 from by omega] at e
               exact e)
            | (have e := fin (.int (zI (0)))
               rw [show (if w = 0 then r + g_n2 f t y else o + g_n3 f t y) = (if w = 0 then r else o) + 0 from by omega] at e
               exact e)
            | (exfalso; omega)
  refine ev_enter (lv := [.ref 1, .int (zI (z)), .int (zI (n)), .int (zI (t)), .int (zI (w)), .null, .null, .null, .null]) l119 rfl (Nat.le_of_ble_eq_true rfl) ?_
  refine ev_iloadn_2 i119_0 ?_
  refine ew_iconst i119_1 ?_
  refine ew_icmplt i119_2 (by omega) (fun c2 => ?_) (fun c2 => ?_)
  · refine ew_ldc_w (z := (-2000000000)) i119_40 g119_40 (by decide) ?_
    refine ev_ireturn i119_43 r119 ?_
    rw [if_pos (by omega)] at hK
    exact hK I (fr_rfl _ _)
  · refine ev_iloadn_2 i119_5 ?_
    refine ew_bipush i119_6 (by decide) ?_
    refine ew_icmpgt i119_8 (by omega) (fun c8 => ?_) (fun c8 => ?_)
    · refine ew_ldc_w (z := (-2000000000)) i119_40 g119_40 (by decide) ?_
      refine ev_ireturn i119_43 r119 ?_
      rw [if_pos (by omega)] at hK
      exact hK I (fr_rfl _ _)
    · refine ev_aloadn_0 i119_11 ?_
      refine ev_getA i119_12 g119_12 rfl rfl (by decide) ?_
      refine ev_iloadn_3 i119_15 ?_
      refine ev_virt1 i119_16 g119_16 rfl (by decide +kernel) (Nat.le_of_ble_eq_true rfl) (x_hasSaying hX ht ?_)
      first
      | refine ew_ifeqB i119_19 (fun c19 => ?_) (fun c19 => ?_)
      | refine ew_ifeq i119_19 (by omega) (fun c19 => ?_) (fun c19 => ?_)
      · refine ew_ldc_w (z := (-2000000000)) i119_40 g119_40 (by decide) ?_
        refine ev_ireturn i119_43 r119 ?_
        rw [if_pos (by omega)] at hK
        exact hK I (fr_rfl _ _)
      · refine ev_iload_4 i119_22 ?_
        refine ev_stat1 i119_24 g119_24 (by decide +kernel) (Nat.le_of_ble_eq_true rfl) (x_isPart hw ?_)
        first
        | refine ew_ifeqB i119_27 (fun c27 => ?_) (fun c27 => ?_)
        | refine ew_ifeq i119_27 (by omega) (fun c27 => ?_) (fun c27 => ?_)
        · refine ew_ldc_w (z := (-2000000000)) i119_40 g119_40 (by decide) ?_
          refine ev_ireturn i119_43 r119 ?_
          rw [if_pos (by omega)] at hK
          exact hK I (fr_rfl _ _)
        · refine ev_aloadn_0 i119_30 ?_
          refine ev_getA i119_31 g119_31 rfl rfl (by decide) ?_
          refine ew_getI i119_34 g119_34 rfl (by first | exact hX.men | exact hX.told | exact hX.road | exact hX.tone _ (by omega) (by omega) | exact hX.corn _ (by omega) (by omega) | exact hX.stand _ (by omega) (by omega) | exact hX.reach _ (by omega) (by omega) | exact hX.arm _ (by omega) (by omega) | exact hX.late _ (by omega) (by omega) | exact hX.len _ (by omega) (by omega) | exact hX.say (by omega) (by omega) _ (by omega) (by omega)) (fun b34 => ?_)
          first
          | refine ew_ifneB i119_37 (fun c37 => ?_) (fun c37 => ?_)
          | refine ew_ifne i119_37 (by omega) (fun c37 => ?_) (fun c37 => ?_)
          · refine ew_iconst i119_44 ?_
            refine ev_istore_5 i119_45 rfl ?_
            refine ev_iloadn_1 i119_47 ?_
            refine ev_istore_6 i119_48 rfl ?_
            refine ew_iconst i119_50 ?_
            refine ev_istore_7 i119_51 rfl ?_
            have e := loop (by omega) (by omega) (by omega) (by omega) 0 (by decide) (by omega) z 0 0 I (.null) (fr_rfl _ _) rfl
            rw [show (if w = 0 then (0 : Int) else 0) = 0 from by split <;> rfl] at e
            exact e
          · refine ew_ldc_w (z := (-2000000000)) i119_40 g119_40 (by decide) ?_
            refine ev_ireturn i119_43 r119 ?_
            rw [if_pos (by omega)] at hK
            exact hK I (fr_rfl _ _)
theorem m_drawn (hM : RM I f) {z n t w : Int} (hn : -2147483648 ≤ n ∧ n ≤ 2147483647) (ht : -2147483648 ≤ t ∧ t ≤ 2147483647) (hw : -2147483648 ≤ w ∧ w ≤ 2147483647) (hK : ∀ J, fr fom I J → K (some (.int (zI (g_drawnA f z n t w)))) (J, L, ts_P0 sw, ts_S0)) : ts_Cal X (d + 4) 211 [.ref 72, .int (zI (z)), .int (zI (n)), .int (zI (t)), .int (zI (w))] (I, L, ts_P0 sw, ts_S0) K := by
  have b1 := hM.men.2
  have b2 := hM.told.2
  unfold g_drawnA at hK
  have loop : (1 ≤ n ∧ n ≤ 30) → (0 ≤ t ∧ t < f_told f) → (0 ≤ w ∧ w ≤ 1) → 0 < f_men f → ∀ i : Int, 0 ≤ i → i ≤ n → ∀ y r o J o2 o3, fr fom I J → zwh n (g_nt f t) i (y, r, o) = zwh n (g_nt f t) 0 (z, 0, 0) → ts_Ev X (ts_Cal X (d + 3)) 211 ts_S0 K 55 [.ref 72, .int (zI (z)), .int (zI (n)), .int (zI (t)), .int (zI (w)), .int (zI (y)), .int (zI (r)), .int (zI (o)), .int (zI (i)), o2, o3] [] (J, L, ts_P0 sw, ts_S0) := by
    intro hn2 ht2 hw2 hm
    have b3 := (hM.len t ht2.1 (by omega)).2
    refine ts_ind n (fun i ih h0 h1 y r o J o2 o3 hJ h4 => ?_)
    have inner : i < n → ∀ k : Int, 0 ≤ k → k ≤ f_len f t → ∀ y' g M o3, fr fom I M → rd (M 72 25) 0 6 (f_len f t) → ar M 85 k 0 7 g → zwh (f_len f t) (g_dk f t) k (y', g) = g_draw f t y → ts_Ev X (ts_Cal X (d + 3)) 211 ts_S0 K 74 [.ref 72, .int (zI (z)), .int (zI (n)), .int (zI (t)), .int (zI (w)), .int (zI (y')), .int (zI (r)), .int (zI (o)), .int (zI (i)), .int (zI (k)), o3] [] (M, L, ts_P0 sw, ts_S0) := by
      intro hi
      refine ts_ind (f_len f t) (fun k ihk k0 k1 y' g M o3 hM1 r2 ra k4 => ?_)
      have hM2 := hM.fom hM1
      have u1 := zushr_8 (y' * 1103515245 + 12345)
      have u2 := zushr_16 (y' * 1103515245 + 12345)
      have rk : 0 ≤ k % f_men f ∧ k % f_men f < f_men f := ⟨Int.emod_nonneg _ (by omega), Int.emod_lt_of_pos _ hm⟩
      refine ev_iload_9 i211_74 ?_
      refine ev_aloadn_0 i211_76 ?_
      refine ev_getA i211_77 g211_77 rfl rfl (by decide) ?_
      refine ev_iloadn_3 i211_80 ?_
      refine ew_iaload i211_81 rfl (by omega) (by omega) (by omega) (by first | exact hM2.len _ (by omega) (by omega) | exact hM2.men | exact hM.men | exact hM.told | exact hM.road | exact hM.stand _ (by omega) (by omega) | exact hM.reach _ (by omega) (by omega) | exact hM.arm _ (by omega) (by omega) | exact hM.late _ (by omega) (by omega) | exact hM.len _ (by omega) (by omega) | exact hM.corn _ (by omega) (by omega) | exact hM.say (by omega) (by omega) _ (by omega) (by omega) | exact hM.tone _ (by omega) (by omega)) (fun b81 => ?_)
      refine ew_icmpge i211_82 (by omega) (fun c82 => ?_) (fun c82 => ?_)
      · rw [zwh_0 (by omega)] at k4
        obtain rfl : k = f_len f t := by omega
        have e7 : g_draw f t y = (y', g) := k4.symm
        have hO2 : RMo M (f_len f t) g := ⟨r2, ra⟩
        have n2 : g_n2 f t y = if g_sc f (f_len f t) g t = 0 then 1 else 0 := by unfold g_n2; rw [e7]
        have n3 : g_n3 f t y = if g_near f (f_len f t) g = t then 1 else 0 := by unfold g_n3; rw [e7]
        have sz : g_sb f (f_len f t) g t = 0 ↔ g_sc f (f_len f t) g t = 0 := zbits_z _ (by omega)
        have sr := g_sb_r (f := f) b3 g t
        refine ev_iload_6 i211_174 ?_
        refine ev_aloadn_0 i211_176 ?_
        refine ev_iloadn_3 i211_177 ?_
        refine ev_virt1 i211_178 g211_178 rfl (by decide +kernel) (Nat.le_of_ble_eq_true rfl) (m_slipsOf hM2 hO2 ht2 ?_)
        first
        | refine ew_ifneB i211_181 (fun c181 => ?_) (fun c181 => ?_)
        | refine ew_ifne i211_181 (by omega) (fun c181 => ?_) (fun c181 => ?_)
        · refine ew_iconst i211_188 ?_
          refine ew_iadd i211_189 ?_
          refine ev_istore_6 i211_190 rfl ?_
          refine ev_iload_7 i211_192 ?_
          refine ev_aloadn_0 i211_194 ?_
          refine ev_virt0 i211_195 g211_195 rfl (by decide +kernel) (Nat.le_of_ble_eq_true rfl) (m_nearestNow hM2 hO2 (fun q0 q1 q2 q3 => ?_))
          refine ev_iloadn_3 i211_198 ?_
          refine ew_icmpne i211_199 (by omega) (fun c199 => ?_) (fun c199 => ?_)
          · refine ew_iconst i211_206 ?_
            refine ew_iadd i211_207 ?_
            refine ev_istore_7 i211_208 rfl ?_
            refine ew_iinc_8 i211_210 rfl ?_
            refine ev_goto i211_213 ?_
            rw [zwh_1 (by omega)] at h4
            have fin := ih (by omega) (by omega) (by omega) (g_draw f t y).1 (r + g_n2 f t y) (o + g_n3 f t y) M (.int (zI (f_len f t))) o3 hM1 h4
            rw [e7, n2, n3] at fin
            first
              | (rw [if_pos (sz.mp c181), if_pos c199] at fin
                 exact fin)
              | (rw [if_pos (sz.mp c181), if_neg c199] at fin
                 exact fin)
              | (rw [if_neg (fun q => c181 (sz.mpr q)), if_pos c199] at fin
                 exact fin)
              | (rw [if_neg (fun q => c181 (sz.mpr q)), if_neg c199] at fin
                 exact fin)
          · refine ew_iconst i211_202 ?_
            refine ev_goto i211_203 ?_
            refine ew_iadd i211_207 ?_
            refine ev_istore_7 i211_208 rfl ?_
            refine ew_iinc_8 i211_210 rfl ?_
            refine ev_goto i211_213 ?_
            rw [zwh_1 (by omega)] at h4
            have fin := ih (by omega) (by omega) (by omega) (g_draw f t y).1 (r + g_n2 f t y) (o + g_n3 f t y) M (.int (zI (f_len f t))) o3 hM1 h4
            rw [e7, n2, n3] at fin
            first
              | (rw [if_pos (sz.mp c181), if_pos c199] at fin
                 exact fin)
              | (rw [if_pos (sz.mp c181), if_neg c199] at fin
                 exact fin)
              | (rw [if_neg (fun q => c181 (sz.mpr q)), if_pos c199] at fin
                 exact fin)
              | (rw [if_neg (fun q => c181 (sz.mpr q)), if_neg c199] at fin
                 exact fin)
        · refine ew_iconst i211_184 ?_
          refine ev_goto i211_185 ?_
          refine ew_iadd i211_189 ?_
          refine ev_istore_6 i211_190 rfl ?_
          refine ev_iload_7 i211_192 ?_
          refine ev_aloadn_0 i211_194 ?_
          refine ev_virt0 i211_195 g211_195 rfl (by decide +kernel) (Nat.le_of_ble_eq_true rfl) (m_nearestNow hM2 hO2 (fun q0 q1 q2 q3 => ?_))
          refine ev_iloadn_3 i211_198 ?_
          refine ew_icmpne i211_199 (by omega) (fun c199 => ?_) (fun c199 => ?_)
          · refine ew_iconst i211_206 ?_
            refine ew_iadd i211_207 ?_
            refine ev_istore_7 i211_208 rfl ?_
            refine ew_iinc_8 i211_210 rfl ?_
            refine ev_goto i211_213 ?_
            rw [zwh_1 (by omega)] at h4
            have fin := ih (by omega) (by omega) (by omega) (g_draw f t y).1 (r + g_n2 f t y) (o + g_n3 f t y) M (.int (zI (f_len f t))) o3 hM1 h4
            rw [e7, n2, n3] at fin
            first
              | (rw [if_pos (sz.mp c181), if_pos c199] at fin
                 exact fin)
              | (rw [if_pos (sz.mp c181), if_neg c199] at fin
                 exact fin)
              | (rw [if_neg (fun q => c181 (sz.mpr q)), if_pos c199] at fin
                 exact fin)
              | (rw [if_neg (fun q => c181 (sz.mpr q)), if_neg c199] at fin
                 exact fin)
          · refine ew_iconst i211_202 ?_
            refine ev_goto i211_203 ?_
            refine ew_iadd i211_207 ?_
            refine ev_istore_7 i211_208 rfl ?_
            refine ew_iinc_8 i211_210 rfl ?_
            refine ev_goto i211_213 ?_
            rw [zwh_1 (by omega)] at h4
            have fin := ih (by omega) (by omega) (by omega) (g_draw f t y).1 (r + g_n2 f t y) (o + g_n3 f t y) M (.int (zI (f_len f t))) o3 hM1 h4
            rw [e7, n2, n3] at fin
            first
              | (rw [if_pos (sz.mp c181), if_pos c199] at fin
                 exact fin)
              | (rw [if_pos (sz.mp c181), if_neg c199] at fin
                 exact fin)
              | (rw [if_neg (fun q => c181 (sz.mpr q)), if_pos c199] at fin
                 exact fin)
              | (rw [if_neg (fun q => c181 (sz.mpr q)), if_neg c199] at fin
                 exact fin)
      · refine ev_iload_5 i211_85 ?_
        refine ew_ldc_w (z := (1103515245)) i211_87 g211_87 (by decide) ?_
        refine ew_imul i211_90 ?_
        refine ew_sipush i211_91 (by decide) ?_
        refine ew_iadd i211_94 ?_
        refine ev_istore_5 i211_95 rfl ?_
        refine ev_aloadn_0 i211_97 ?_
        refine ev_getA i211_98 g211_98 rfl rfl (by decide) ?_
        refine ew_bipush i211_101 (by decide) ?_
        refine ew_bipush i211_103 (by decide) ?_
        refine ev_iloadn_3 i211_105 ?_
        refine ew_imul i211_106 ?_
        refine ew_iadd i211_107 ?_
        refine ev_iload_9 i211_108 ?_
        refine ew_iadd i211_110 ?_
        refine ew_iaload i211_111 rfl (by omega) (by omega) (by omega) ((hM2.say (by omega) (by omega) _ (by omega) (by omega))) (fun b111 => ?_)
        refine ev_istore_10 i211_112 rfl ?_
        refine ev_aloadn_0 i211_114 ?_
        refine ev_getA i211_115 g211_115 rfl rfl (by decide) ?_
        refine ev_iload_9 i211_118 ?_
        refine ev_iload_5 i211_120 ?_
        refine ew_bipush i211_122 (by decide) ?_
        refine ew_iushr i211_124 ?_
        refine ew_bipush i211_125 (by decide) ?_
        refine ew_irem i211_127 (by omega) (by omega) ?_
        refine ev_aloadn_0 i211_128 ?_
        refine ev_getA i211_129 g211_129 rfl rfl (by decide) ?_
        refine ew_bipush i211_132 (by decide) ?_
        refine ev_iload_9 i211_134 ?_
        refine ev_aloadn_0 i211_136 ?_
        refine ew_getI i211_137 g211_137 rfl (by first | exact hM2.len _ (by omega) (by omega) | exact hM2.men | exact hM.men | exact hM.told | exact hM.road | exact hM.stand _ (by omega) (by omega) | exact hM.reach _ (by omega) (by omega) | exact hM.arm _ (by omega) (by omega) | exact hM.late _ (by omega) (by omega) | exact hM.len _ (by omega) (by omega) | exact hM.corn _ (by omega) (by omega) | exact hM.say (by omega) (by omega) _ (by omega) (by omega) | exact hM.tone _ (by omega) (by omega)) (fun b137 => ?_)
        refine ew_iremB i211_140 (by omega) (by omega) (fun r140 => ?_)
        refine ew_iadd i211_141 ?_
        refine ew_iaload i211_142 rfl (by omega) (by omega) (by omega) ((hM2.arm _ (by omega) (by omega))) (fun b142 => ?_)
        refine ew_icmpge i211_143 (by omega) (fun c143 => ?_) (fun c143 => ?_)
        · refine ev_iload_10 i211_151 ?_
          refine ew_iconst i211_153 ?_
          refine ew_iadd i211_154 ?_
          refine ev_iload_5 i211_155 ?_
          refine ew_bipush i211_157 (by decide) ?_
          refine ew_iushr i211_159 ?_
          refine ew_bipush i211_160 (by decide) ?_
          refine ew_irem i211_162 (by omega) (by omega) ?_
          refine ew_iadd i211_163 ?_
          refine ew_bipush i211_164 (by decide) ?_
          refine ew_irem i211_166 (by omega) (by omega) ?_
          refine ew_iastore i211_167 rfl (by omega) (by omega) (by omega) ?_
          refine ew_iinc_9 i211_168 rfl ?_
          refine ev_goto i211_171 ?_
          rw [zwh_1 (by omega)] at k4
          have hg : 0 ≤ g_dt f t k y' ∧ g_dt f t k y' ≤ 7 := by
            unfold g_dt
            have e3 : g_arm f k = f_arm f (k % f_men f) := rfl
            rw [e3]
            omega
          first
            | (have e5 : f_say f t k = g_dt f t k y' := by unfold g_dt; rw [show g_arm f k = f_arm f (k % f_men f) from rfl]; omega
               have e6 := ihk (by omega) (by omega) (by omega) _ _ (ts_up M 85 k.toNat (zI (g_dt f t k y'))) (.int (zI (f_say f t k))) (fr_up hM1 (by omega)) r2 (ar_ext ra k0 hg) k4
               rw [← e5] at e6
               exact e6)
            | (have e5 : (f_say f t k + 1 + zushr (y' * 1103515245 + 12345) 16 % 7) % 8 = g_dt f t k y' := by unfold g_dt; rw [show g_arm f k = f_arm f (k % f_men f) from rfl]; omega
               have e6 := ihk (by omega) (by omega) (by omega) _ _ (ts_up M 85 k.toNat (zI (g_dt f t k y'))) (.int (zI (f_say f t k))) (fr_up hM1 (by omega)) r2 (ar_ext ra k0 hg) k4
               rw [← e5] at e6
               exact e6)
        · refine ev_iload_10 i211_146 ?_
          refine ev_goto i211_148 ?_
          refine ew_iastore i211_167 rfl (by omega) (by omega) (by omega) ?_
          refine ew_iinc_9 i211_168 rfl ?_
          refine ev_goto i211_171 ?_
          rw [zwh_1 (by omega)] at k4
          have hg : 0 ≤ g_dt f t k y' ∧ g_dt f t k y' ≤ 7 := by
            unfold g_dt
            have e3 : g_arm f k = f_arm f (k % f_men f) := rfl
            rw [e3]
            omega
          first
            | (have e5 : f_say f t k = g_dt f t k y' := by unfold g_dt; rw [show g_arm f k = f_arm f (k % f_men f) from rfl]; omega
               have e6 := ihk (by omega) (by omega) (by omega) _ _ (ts_up M 85 k.toNat (zI (g_dt f t k y'))) (.int (zI (f_say f t k))) (fr_up hM1 (by omega)) r2 (ar_ext ra k0 hg) k4
               rw [← e5] at e6
               exact e6)
            | (have e5 : (f_say f t k + 1 + zushr (y' * 1103515245 + 12345) 16 % 7) % 8 = g_dt f t k y' := by unfold g_dt; rw [show g_arm f k = f_arm f (k % f_men f) from rfl]; omega
               have e6 := ihk (by omega) (by omega) (by omega) _ _ (ts_up M 85 k.toNat (zI (g_dt f t k y'))) (.int (zI (f_say f t k))) (fr_up hM1 (by omega)) r2 (ar_ext ra k0 hg) k4
               rw [← e5] at e6
               exact e6)
    refine ev_iload_8 i211_55 ?_
    refine ev_iloadn_2 i211_57 ?_
    refine ew_icmpge i211_58 (by omega) (fun c58 => ?_) (fun c58 => ?_)
    · refine ev_iload_4 i211_216 ?_
      first
      | refine ew_ifneB i211_218 (fun c218 => ?_) (fun c218 => ?_)
      | refine ew_ifne i211_218 (by omega) (fun c218 => ?_) (fun c218 => ?_)
      · refine ev_iload_7 i211_226 ?_
        refine ev_ireturn i211_228 r211 ?_
        rw [zwh_0 (by omega)] at h4
        rw [if_neg (by omega), ← h4] at hK
        first
          | (rw [if_pos c218] at hK
             exact hK J hJ)
          | (rw [if_neg c218] at hK
             exact hK J hJ)
      · refine ev_iload_6 i211_221 ?_
        refine ev_goto i211_223 ?_
        refine ev_ireturn i211_228 r211 ?_
        rw [zwh_0 (by omega)] at h4
        rw [if_neg (by omega), ← h4] at hK
        first
          | (rw [if_pos c218] at hK
             exact hK J hJ)
          | (rw [if_neg c218] at hK
             exact hK J hJ)
    · refine ev_aloadn_0 i211_61 ?_
      refine ev_aloadn_0 i211_62 ?_
      refine ev_getA i211_63 g211_63 rfl rfl (by decide) ?_
      refine ev_iloadn_3 i211_66 ?_
      refine ew_iaload i211_67 rfl (by omega) (by omega) (by omega) (by first | exact (hM.fom hJ).len _ (by omega) (by omega) | exact hM.men | exact hM.told | exact hM.road | exact hM.stand _ (by omega) (by omega) | exact hM.reach _ (by omega) (by omega) | exact hM.arm _ (by omega) (by omega) | exact hM.late _ (by omega) (by omega) | exact hM.len _ (by omega) (by omega) | exact hM.corn _ (by omega) (by omega) | exact hM.say (by omega) (by omega) _ (by omega) (by omega) | exact hM.tone _ (by omega) (by omega)) (fun b67 => ?_)
      refine ev_putI i211_68 g211_68 rfl ?_
      refine ew_iconst i211_71 ?_
      refine ev_istore_9 i211_72 rfl ?_
      exact inner (by omega) 0 (by decide) (by omega) y (fun _ => 0) _ _ (fr_up hJ (by omega)) (rd_zI (by omega)) (fun p p0 p1 => by omega) rfl
  refine ev_enter (lv := [.ref 72, .int (zI (z)), .int (zI (n)), .int (zI (t)), .int (zI (w)), .null, .null, .null, .null, .null, .null]) l211 rfl (Nat.le_of_ble_eq_true rfl) ?_
  refine ev_iloadn_2 i211_0 ?_
  refine ew_i2l i211_1 (by omega) ?_
  refine ew_lconst (z := 1) i211_2 (by decide) ?_
  refine ew_ldc2_w (z := (30)) i211_3 g211_3 (by decide) ?_
  refine ev_stat3 i211_6 g211_6 (by decide +kernel) (Nat.le_of_ble_eq_true rfl) (m_within (by omega) (by omega) (by omega) ?_)
  first
  | refine ew_ifeqB i211_9 (fun c9 => ?_) (fun c9 => ?_)
  | refine ew_ifeq i211_9 (by omega) (fun c9 => ?_) (fun c9 => ?_)
  · refine ew_ldc_w (z := (-2000000000)) i211_39 g211_39 (by decide) ?_
    refine ev_ireturn i211_42 r211 ?_
    rw [if_pos (by omega)] at hK
    exact hK I (fr_rfl _ _)
  · refine ev_aloadn_0 i211_12 ?_
    refine ev_iloadn_3 i211_13 ?_
    refine ew_i2l i211_14 (by omega) ?_
    refine ev_virt1 i211_15 g211_15 rfl (by decide +kernel) (Nat.le_of_ble_eq_true rfl) (m_isSaying hM (by omega) ?_)
    first
    | refine ew_ifeqB i211_18 (fun c18 => ?_) (fun c18 => ?_)
    | refine ew_ifeq i211_18 (by omega) (fun c18 => ?_) (fun c18 => ?_)
    · refine ew_ldc_w (z := (-2000000000)) i211_39 g211_39 (by decide) ?_
      refine ev_ireturn i211_42 r211 ?_
      rw [if_pos (by omega)] at hK
      exact hK I (fr_rfl _ _)
    · refine ev_aloadn_0 i211_21 ?_
      refine ew_getI i211_22 g211_22 rfl (by first | exact hM.men | exact hM.told | exact hM.road | exact hM.stand _ (by omega) (by omega) | exact hM.reach _ (by omega) (by omega) | exact hM.arm _ (by omega) (by omega) | exact hM.late _ (by omega) (by omega) | exact hM.len _ (by omega) (by omega) | exact hM.corn _ (by omega) (by omega) | exact hM.say (by omega) (by omega) _ (by omega) (by omega) | exact hM.tone _ (by omega) (by omega)) (fun b22 => ?_)
      first
      | refine ew_ifeqB i211_25 (fun c25 => ?_) (fun c25 => ?_)
      | refine ew_ifeq i211_25 (by omega) (fun c25 => ?_) (fun c25 => ?_)
      · refine ew_ldc_w (z := (-2000000000)) i211_39 g211_39 (by decide) ?_
        refine ev_ireturn i211_42 r211 ?_
        rw [if_pos (by omega)] at hK
        exact hK I (fr_rfl _ _)
      · refine ev_iload_4 i211_28 ?_
        refine ew_i2l i211_30 (by omega) ?_
        refine ew_lconst (z := 0) i211_31 (by decide) ?_
        refine ew_lconst (z := 1) i211_32 (by decide) ?_
        refine ev_stat3 i211_33 g211_33 (by decide +kernel) (Nat.le_of_ble_eq_true rfl) (m_within (by omega) (by omega) (by omega) ?_)
        first
        | refine ew_ifneB i211_36 (fun c36 => ?_) (fun c36 => ?_)
        | refine ew_ifne i211_36 (by omega) (fun c36 => ?_) (fun c36 => ?_)
        · refine ev_iloadn_1 i211_43 ?_
          refine ev_istore_5 i211_44 rfl ?_
          refine ew_iconst i211_46 ?_
          refine ev_istore_6 i211_47 rfl ?_
          refine ew_iconst i211_49 ?_
          refine ev_istore_7 i211_50 rfl ?_
          refine ew_iconst i211_52 ?_
          refine ev_istore_8 i211_53 rfl ?_
          exact loop (by omega) (by omega) (by omega) (by omega) 0 (by decide) (by omega) z 0 0 I _ _ (fr_rfl _ _) rfl
        · refine ew_ldc_w (z := (-2000000000)) i211_39 g211_39 (by decide) ?_
          refine ev_ireturn i211_42 r211 ?_
          rw [if_pos (by omega)] at hK
          exact hK I (fr_rfl _ _)
end DR
