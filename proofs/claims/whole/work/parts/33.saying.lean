theorem i65_0 : ts_ins 65 0 = some (.aload_n 0, 1, 0) := by decide +kernel
theorem i65_1 : ts_ins 65 1 = some (.iload_n 1, 2, 0) := by decide +kernel
theorem i65_2 : ts_ins 65 2 = some (.iload_n 2, 3, 0) := by decide +kernel
theorem i65_3 : ts_ins 65 3 = some (.invokevirtual 34, 6, 0) := by decide +kernel
theorem g65_3 : ts_cal (ts_mc 65) 34 = some (0, 64, 2) := by decide +kernel
theorem i65_6 : ts_ins 65 6 = some (.ifCond .ne 5, 9, 11) := by decide +kernel
theorem i65_9 : ts_ins 65 9 = some (.iconst 0, 10, 0) := by decide +kernel
theorem i65_10 : ts_ins 65 10 = some (.ireturn, 11, 0) := by decide +kernel
theorem i65_11 : ts_ins 65 11 = some (.iload_n 1, 12, 0) := by decide +kernel
theorem i65_12 : ts_ins 65 12 = some (.istore_n 3, 13, 0) := by decide +kernel
theorem i65_13 : ts_ins 65 13 = some (.iload_n 3, 14, 0) := by decide +kernel
theorem i65_14 : ts_ins 65 14 = some (.iload_n 1, 15, 0) := by decide +kernel
theorem i65_15 : ts_ins 65 15 = some (.iload_n 2, 16, 0) := by decide +kernel
theorem i65_16 : ts_ins 65 16 = some (.iadd, 17, 0) := by decide +kernel
theorem i65_17 : ts_ins 65 17 = some (.if_icmp .ge 35, 20, 52) := by decide +kernel
theorem i65_20 : ts_ins 65 20 = some (.aload_n 0, 21, 0) := by decide +kernel
theorem i65_21 : ts_ins 65 21 = some (.getfield 9, 24, 0) := by decide +kernel
theorem g65_21 : ts_fm 65 9 = some (7, 0, 2) := by decide +kernel
theorem i65_24 : ts_ins 65 24 = some (.iload_n 3, 25, 0) := by decide +kernel
theorem i65_25 : ts_ins 65 25 = some (.laload, 26, 0) := by decide +kernel
theorem i65_26 : ts_ins 65 26 = some (.lconst 0, 27, 0) := by decide +kernel
theorem i65_27 : ts_ins 65 27 = some (.lcmp, 28, 0) := by decide +kernel
theorem i65_28 : ts_ins 65 28 = some (.ifCond .lt 16, 31, 44) := by decide +kernel
theorem i65_31 : ts_ins 65 31 = some (.aload_n 0, 32, 0) := by decide +kernel
theorem i65_32 : ts_ins 65 32 = some (.getfield 9, 35, 0) := by decide +kernel
theorem g65_32 : ts_fm 65 9 = some (7, 0, 2) := by decide +kernel
theorem i65_35 : ts_ins 65 35 = some (.iload_n 3, 36, 0) := by decide +kernel
theorem i65_36 : ts_ins 65 36 = some (.laload, 37, 0) := by decide +kernel
theorem i65_37 : ts_ins 65 37 = some (.ldc2_w 38, 40, 0) := by decide +kernel
theorem g65_37 : ts_lc (ts_mc 65) 38 = some (.long (8)) := by decide +kernel
theorem i65_40 : ts_ins 65 40 = some (.lcmp, 41, 0) := by decide +kernel
theorem i65_41 : ts_ins 65 41 = some (.ifCond .lt 5, 44, 46) := by decide +kernel
theorem i65_44 : ts_ins 65 44 = some (.iconst 0, 45, 0) := by decide +kernel
theorem i65_45 : ts_ins 65 45 = some (.ireturn, 46, 0) := by decide +kernel
theorem i65_46 : ts_ins 65 46 = some (.iinc 3 1, 49, 0) := by decide +kernel
theorem i65_49 : ts_ins 65 49 = some (.goto (-36), 52, 13) := by decide +kernel
theorem i65_52 : ts_ins 65 52 = some (.iconst 1, 53, 0) := by decide +kernel
theorem i65_53 : ts_ins 65 53 = some (.ireturn, 54, 0) := by decide +kernel
theorem r65 : ts_rt 65 = ((some .boolean), 0, 0) := by decide +kernel
theorem l65 : ts_ml 65 = 4 := by decide +kernel
theorem i18_0 : ts_ins 18 0 = some (.aload_n 0, 1, 0) := by decide +kernel
theorem i18_1 : ts_ins 18 1 = some (.getfield 42, 4, 0) := by decide +kernel
theorem g18_1 : ts_fm 18 42 = some (3, 9, 0) := by decide +kernel
theorem i18_4 : ts_ins 18 4 = some (.bipush 8, 6, 0) := by decide +kernel
theorem i18_6 : ts_ins 18 6 = some (.if_icmp .lt 6, 9, 12) := by decide +kernel
theorem i18_9 : ts_ins 18 9 = some (.bipush (-3), 11, 0) := by decide +kernel
theorem i18_11 : ts_ins 18 11 = some (.ireturn, 12, 0) := by decide +kernel
theorem i18_12 : ts_ins 18 12 = some (.iconst 0, 13, 0) := by decide +kernel
theorem i18_13 : ts_ins 18 13 = some (.istore 4, 15, 0) := by decide +kernel
theorem i18_15 : ts_ins 18 15 = some (.iload 4, 17, 0) := by decide +kernel
theorem i18_17 : ts_ins 18 17 = some (.iload_n 3, 18, 0) := by decide +kernel
theorem i18_18 : ts_ins 18 18 = some (.if_icmp .ge 31, 21, 49) := by decide +kernel
theorem i18_21 : ts_ins 18 21 = some (.aload_n 0, 22, 0) := by decide +kernel
theorem i18_22 : ts_ins 18 22 = some (.getfield 32, 25, 0) := by decide +kernel
theorem g18_22 : ts_fm 18 32 = some (3, 6, 2) := by decide +kernel
theorem i18_25 : ts_ins 18 25 = some (.aload_n 0, 26, 0) := by decide +kernel
theorem i18_26 : ts_ins 18 26 = some (.getfield 42, 29, 0) := by decide +kernel
theorem g18_26 : ts_fm 18 42 = some (3, 9, 0) := by decide +kernel
theorem i18_29 : ts_ins 18 29 = some (.aaload, 30, 0) := by decide +kernel
theorem i18_30 : ts_ins 18 30 = some (.iload 4, 32, 0) := by decide +kernel
theorem i18_32 : ts_ins 18 32 = some (.aload_n 1, 33, 0) := by decide +kernel
theorem i18_33 : ts_ins 18 33 = some (.getfield 59, 36, 0) := by decide +kernel
theorem g18_33 : ts_fm 18 59 = some (7, 0, 2) := by decide +kernel
theorem i18_36 : ts_ins 18 36 = some (.iload_n 2, 37, 0) := by decide +kernel
theorem i18_37 : ts_ins 18 37 = some (.iload 4, 39, 0) := by decide +kernel
theorem i18_39 : ts_ins 18 39 = some (.iadd, 40, 0) := by decide +kernel
theorem i18_40 : ts_ins 18 40 = some (.laload, 41, 0) := by decide +kernel
theorem i18_41 : ts_ins 18 41 = some (.l2i, 42, 0) := by decide +kernel
theorem i18_42 : ts_ins 18 42 = some (.iastore, 43, 0) := by decide +kernel
theorem i18_43 : ts_ins 18 43 = some (.iinc 4 1, 46, 0) := by decide +kernel
theorem i18_46 : ts_ins 18 46 = some (.goto (-31), 49, 15) := by decide +kernel
theorem i18_49 : ts_ins 18 49 = some (.aload_n 0, 50, 0) := by decide +kernel
theorem i18_50 : ts_ins 18 50 = some (.getfield 35, 53, 0) := by decide +kernel
theorem g18_50 : ts_fm 18 35 = some (3, 7, 2) := by decide +kernel
theorem i18_53 : ts_ins 18 53 = some (.aload_n 0, 54, 0) := by decide +kernel
theorem i18_54 : ts_ins 18 54 = some (.getfield 42, 57, 0) := by decide +kernel
theorem g18_54 : ts_fm 18 42 = some (3, 9, 0) := by decide +kernel
theorem i18_57 : ts_ins 18 57 = some (.iload_n 3, 58, 0) := by decide +kernel
theorem i18_58 : ts_ins 18 58 = some (.iastore, 59, 0) := by decide +kernel
theorem i18_59 : ts_ins 18 59 = some (.aload_n 0, 60, 0) := by decide +kernel
theorem i18_60 : ts_ins 18 60 = some (.dup, 61, 0) := by decide +kernel
theorem i18_61 : ts_ins 18 61 = some (.getfield 42, 64, 0) := by decide +kernel
theorem g18_61 : ts_fm 18 42 = some (3, 9, 0) := by decide +kernel
theorem i18_64 : ts_ins 18 64 = some (.iconst 1, 65, 0) := by decide +kernel
theorem i18_65 : ts_ins 18 65 = some (.iadd, 66, 0) := by decide +kernel
theorem i18_66 : ts_ins 18 66 = some (.putfield 42, 69, 0) := by decide +kernel
theorem g18_66 : ts_fmm 18 42 = some (3, 9, 0, false) := by decide +kernel
theorem i18_69 : ts_ins 18 69 = some (.aload_n 0, 70, 0) := by decide +kernel
theorem i18_70 : ts_ins 18 70 = some (.getfield 42, 73, 0) := by decide +kernel
theorem g18_70 : ts_fm 18 42 = some (3, 9, 0) := by decide +kernel
theorem i18_73 : ts_ins 18 73 = some (.iconst 1, 74, 0) := by decide +kernel
theorem i18_74 : ts_ins 18 74 = some (.isub, 75, 0) := by decide +kernel
theorem i18_75 : ts_ins 18 75 = some (.ireturn, 76, 0) := by decide +kernel
theorem r18 : ts_rt 18 = ((some .int), 0, 0) := by decide +kernel
theorem l18 : ts_ml 18 = 5 := by decide +kernel
theorem i95_0 : ts_ins 95 0 = some (.iload_n 3, 1, 0) := by decide +kernel
theorem i95_1 : ts_ins 95 1 = some (.iconst 1, 2, 0) := by decide +kernel
theorem i95_2 : ts_ins 95 2 = some (.if_icmp .lt 9, 5, 11) := by decide +kernel
theorem i95_5 : ts_ins 95 5 = some (.iload_n 3, 6, 0) := by decide +kernel
theorem i95_6 : ts_ins 95 6 = some (.bipush 6, 8, 0) := by decide +kernel
theorem i95_8 : ts_ins 95 8 = some (.if_icmp .le 5, 11, 13) := by decide +kernel
theorem i95_11 : ts_ins 95 11 = some (.iconst (-1), 12, 0) := by decide +kernel
theorem i95_12 : ts_ins 95 12 = some (.ireturn, 13, 0) := by decide +kernel
theorem i95_13 : ts_ins 95 13 = some (.aload_n 0, 14, 0) := by decide +kernel
theorem i95_14 : ts_ins 95 14 = some (.iload_n 1, 15, 0) := by decide +kernel
theorem i95_15 : ts_ins 95 15 = some (.invokevirtual 100, 18, 0) := by decide +kernel
theorem g95_15 : ts_cal (ts_mc 95) 100 = some (0, 141, 1) := by decide +kernel
theorem i95_18 : ts_ins 95 18 = some (.istore 4, 20, 0) := by decide +kernel
theorem i95_20 : ts_ins 95 20 = some (.iload 4, 22, 0) := by decide +kernel
theorem i95_22 : ts_ins 95 22 = some (.ifCond .eq 6, 25, 28) := by decide +kernel
theorem i95_25 : ts_ins 95 25 = some (.iload 4, 27, 0) := by decide +kernel
theorem i95_27 : ts_ins 95 27 = some (.ireturn, 28, 0) := by decide +kernel
theorem i95_28 : ts_ins 95 28 = some (.aload_n 0, 29, 0) := by decide +kernel
theorem i95_29 : ts_ins 95 29 = some (.getfield 87, 32, 0) := by decide +kernel
theorem g95_29 : ts_fm 95 87 = some (11, 12, 2) := by decide +kernel
theorem i95_32 : ts_ins 95 32 = some (.iload_n 1, 33, 0) := by decide +kernel
theorem i95_33 : ts_ins 95 33 = some (.aaload, 34, 0) := by decide +kernel
theorem i95_34 : ts_ins 95 34 = some (.astore 5, 36, 0) := by decide +kernel
theorem i95_36 : ts_ins 95 36 = some (.aload 5, 38, 0) := by decide +kernel
theorem i95_38 : ts_ins 95 38 = some (.iload_n 2, 39, 0) := by decide +kernel
theorem i95_39 : ts_ins 95 39 = some (.iload_n 3, 40, 0) := by decide +kernel
theorem i95_40 : ts_ins 95 40 = some (.invokevirtual 103, 43, 0) := by decide +kernel
theorem g95_40 : ts_cal (ts_mc 95) 103 = some (0, 65, 2) := by decide +kernel
theorem i95_43 : ts_ins 95 43 = some (.ifCond .ne 5, 46, 48) := by decide +kernel
theorem i95_46 : ts_ins 95 46 = some (.iconst (-1), 47, 0) := by decide +kernel
theorem i95_47 : ts_ins 95 47 = some (.ireturn, 48, 0) := by decide +kernel
theorem i95_48 : ts_ins 95 48 = some (.aload_n 0, 49, 0) := by decide +kernel
theorem i95_49 : ts_ins 95 49 = some (.getfield 10, 52, 0) := by decide +kernel
theorem g95_49 : ts_fm 95 10 = some (11, 0, 2) := by decide +kernel
theorem i95_52 : ts_ins 95 52 = some (.aload 5, 54, 0) := by decide +kernel
theorem i95_54 : ts_ins 95 54 = some (.iload_n 2, 55, 0) := by decide +kernel
theorem i95_55 : ts_ins 95 55 = some (.iload_n 3, 56, 0) := by decide +kernel
theorem i95_56 : ts_ins 95 56 = some (.invokevirtual 107, 59, 0) := by decide +kernel
theorem g95_56 : ts_cal (ts_mc 95) 107 = some (0, 18, 3) := by decide +kernel
theorem i95_59 : ts_ins 95 59 = some (.ireturn, 60, 0) := by decide +kernel
theorem r95 : ts_rt 95 = ((some .int), 0, 0) := by decide +kernel
theorem l95 : ts_ml 95 = 6 := by decide +kernel
theorem i154_0 : ts_ins 154 0 = some (.aload_n 0, 1, 0) := by decide +kernel
theorem i154_1 : ts_ins 154 1 = some (.iload_n 1, 2, 0) := by decide +kernel
theorem i154_2 : ts_ins 154 2 = some (.invokevirtual 115, 5, 0) := by decide +kernel
theorem g154_2 : ts_cal (ts_mc 154) 115 = some (0, 153, 1) := by decide +kernel
theorem i154_5 : ts_ins 154 5 = some (.iconst (-1), 6, 0) := by decide +kernel
theorem i154_6 : ts_ins 154 6 = some (.if_icmp .eq 15, 9, 21) := by decide +kernel
theorem i154_9 : ts_ins 154 9 = some (.iload_n 3, 10, 0) := by decide +kernel
theorem i154_10 : ts_ins 154 10 = some (.i2l, 11, 0) := by decide +kernel
theorem i154_11 : ts_ins 154 11 = some (.lconst 1, 12, 0) := by decide +kernel
theorem i154_12 : ts_ins 154 12 = some (.ldc2_w 119, 15, 0) := by decide +kernel
theorem g154_12 : ts_lc (ts_mc 154) 119 = some (.long (6)) := by decide +kernel
theorem i154_15 : ts_ins 154 15 = some (.invokestatic 95, 18, 0) := by decide +kernel
theorem g154_15 : ts_cal (ts_mc 154) 95 = some (1, 143, 3) := by decide +kernel
theorem i154_18 : ts_ins 154 18 = some (.ifCond .ne 5, 21, 23) := by decide +kernel
theorem i154_21 : ts_ins 154 21 = some (.iconst (-1), 22, 0) := by decide +kernel
theorem i154_22 : ts_ins 154 22 = some (.ireturn, 23, 0) := by decide +kernel
theorem i154_23 : ts_ins 154 23 = some (.aload_n 0, 24, 0) := by decide +kernel
theorem i154_24 : ts_ins 154 24 = some (.iload_n 1, 25, 0) := by decide +kernel
theorem i154_25 : ts_ins 154 25 = some (.invokevirtual 115, 28, 0) := by decide +kernel
theorem g154_25 : ts_cal (ts_mc 154) 115 = some (0, 153, 1) := by decide +kernel
theorem i154_28 : ts_ins 154 28 = some (.iconst 1, 29, 0) := by decide +kernel
theorem i154_29 : ts_ins 154 29 = some (.if_icmp .ne 58, 32, 87) := by decide +kernel
theorem i154_32 : ts_ins 154 32 = some (.iload_n 2, 33, 0) := by decide +kernel
theorem i154_33 : ts_ins 154 33 = some (.ifCond .lt 15, 36, 48) := by decide +kernel
theorem i154_36 : ts_ins 154 36 = some (.iload_n 2, 37, 0) := by decide +kernel
theorem i154_37 : ts_ins 154 37 = some (.aload_n 0, 38, 0) := by decide +kernel
theorem i154_38 : ts_ins 154 38 = some (.getfield 73, 41, 0) := by decide +kernel
theorem g154_38 : ts_fm 154 73 = some (12, 39, 2) := by decide +kernel
theorem i154_41 : ts_ins 154 41 = some (.iload_n 1, 42, 0) := by decide +kernel
theorem i154_42 : ts_ins 154 42 = some (.iaload, 43, 0) := by decide +kernel
theorem i154_43 : ts_ins 154 43 = some (.iload_n 3, 44, 0) := by decide +kernel
theorem i154_44 : ts_ins 154 44 = some (.isub, 45, 0) := by decide +kernel
theorem i154_45 : ts_ins 154 45 = some (.if_icmp .le 5, 48, 50) := by decide +kernel
theorem i154_48 : ts_ins 154 48 = some (.iconst (-1), 49, 0) := by decide +kernel
theorem i154_49 : ts_ins 154 49 = some (.ireturn, 50, 0) := by decide +kernel
theorem i154_50 : ts_ins 154 50 = some (.iconst 0, 51, 0) := by decide +kernel
theorem i154_51 : ts_ins 154 51 = some (.istore 4, 53, 0) := by decide +kernel
theorem i154_53 : ts_ins 154 53 = some (.iload 4, 55, 0) := by decide +kernel
theorem i154_55 : ts_ins 154 55 = some (.iload_n 3, 56, 0) := by decide +kernel
theorem i154_56 : ts_ins 154 56 = some (.if_icmp .ge 31, 59, 87) := by decide +kernel
theorem i154_59 : ts_ins 154 59 = some (.aload_n 0, 60, 0) := by decide +kernel
theorem i154_60 : ts_ins 154 60 = some (.getfield 76, 63, 0) := by decide +kernel
theorem g154_60 : ts_fm 154 76 = some (12, 40, 2) := by decide +kernel
theorem i154_63 : ts_ins 154 63 = some (.bipush 60, 65, 0) := by decide +kernel
theorem i154_65 : ts_ins 154 65 = some (.iload_n 1, 66, 0) := by decide +kernel
theorem i154_66 : ts_ins 154 66 = some (.imul, 67, 0) := by decide +kernel
theorem i154_67 : ts_ins 154 67 = some (.iload_n 2, 68, 0) := by decide +kernel
theorem i154_68 : ts_ins 154 68 = some (.iadd, 69, 0) := by decide +kernel
theorem i154_69 : ts_ins 154 69 = some (.iload 4, 71, 0) := by decide +kernel
theorem i154_71 : ts_ins 154 71 = some (.iadd, 72, 0) := by decide +kernel
theorem i154_72 : ts_ins 154 72 = some (.laload, 73, 0) := by decide +kernel
theorem i154_73 : ts_ins 154 73 = some (.invokestatic 121, 76, 0) := by decide +kernel
theorem g154_73 : ts_cal (ts_mc 154) 121 = some (1, 151, 1) := by decide +kernel
theorem i154_76 : ts_ins 154 76 = some (.ifCond .ne 5, 79, 81) := by decide +kernel
theorem i154_79 : ts_ins 154 79 = some (.iconst (-1), 80, 0) := by decide +kernel
theorem i154_80 : ts_ins 154 80 = some (.ireturn, 81, 0) := by decide +kernel
theorem i154_81 : ts_ins 154 81 = some (.iinc 4 1, 84, 0) := by decide +kernel
theorem i154_84 : ts_ins 154 84 = some (.goto (-31), 87, 53) := by decide +kernel
theorem i154_87 : ts_ins 154 87 = some (.aload_n 0, 88, 0) := by decide +kernel
theorem i154_88 : ts_ins 154 88 = some (.iload_n 1, 89, 0) := by decide +kernel
theorem i154_89 : ts_ins 154 89 = some (.invokevirtual 115, 92, 0) := by decide +kernel
theorem g154_89 : ts_cal (ts_mc 154) 115 = some (0, 153, 1) := by decide +kernel
theorem i154_92 : ts_ins 154 92 = some (.ifCond .ge 9, 95, 101) := by decide +kernel
theorem i154_95 : ts_ins 154 95 = some (.aload_n 0, 96, 0) := by decide +kernel
theorem i154_96 : ts_ins 154 96 = some (.iload_n 1, 97, 0) := by decide +kernel
theorem i154_97 : ts_ins 154 97 = some (.invokevirtual 115, 100, 0) := by decide +kernel
theorem g154_97 : ts_cal (ts_mc 154) 115 = some (0, 153, 1) := by decide +kernel
theorem i154_100 : ts_ins 154 100 = some (.ireturn, 101, 0) := by decide +kernel
theorem i154_101 : ts_ins 154 101 = some (.aload_n 0, 102, 0) := by decide +kernel
theorem i154_102 : ts_ins 154 102 = some (.getfield 102, 105, 0) := by decide +kernel
theorem g154_102 : ts_fm 154 102 = some (12, 7, 0) := by decide +kernel
theorem i154_105 : ts_ins 154 105 = some (.bipush 8, 107, 0) := by decide +kernel
theorem i154_107 : ts_ins 154 107 = some (.if_icmp .ne 6, 110, 113) := by decide +kernel
theorem i154_110 : ts_ins 154 110 = some (.bipush (-3), 112, 0) := by decide +kernel
theorem i154_112 : ts_ins 154 112 = some (.ireturn, 113, 0) := by decide +kernel
theorem i154_113 : ts_ins 154 113 = some (.iconst 0, 114, 0) := by decide +kernel
theorem i154_114 : ts_ins 154 114 = some (.istore 4, 116, 0) := by decide +kernel
theorem i154_116 : ts_ins 154 116 = some (.iload 4, 118, 0) := by decide +kernel
theorem i154_118 : ts_ins 154 118 = some (.iload_n 3, 119, 0) := by decide +kernel
theorem i154_119 : ts_ins 154 119 = some (.if_icmp .ge 42, 122, 161) := by decide +kernel
theorem i154_122 : ts_ins 154 122 = some (.aload_n 0, 123, 0) := by decide +kernel
theorem i154_123 : ts_ins 154 123 = some (.getfield 9, 126, 0) := by decide +kernel
theorem g154_123 : ts_fm 154 9 = some (12, 0, 2) := by decide +kernel
theorem i154_126 : ts_ins 154 126 = some (.bipush 49, 128, 0) := by decide +kernel
theorem i154_128 : ts_ins 154 128 = some (.bipush 6, 130, 0) := by decide +kernel
theorem i154_130 : ts_ins 154 130 = some (.aload_n 0, 131, 0) := by decide +kernel
theorem i154_131 : ts_ins 154 131 = some (.getfield 102, 134, 0) := by decide +kernel
theorem g154_131 : ts_fm 154 102 = some (12, 7, 0) := by decide +kernel
theorem i154_134 : ts_ins 154 134 = some (.imul, 135, 0) := by decide +kernel
theorem i154_135 : ts_ins 154 135 = some (.iadd, 136, 0) := by decide +kernel
theorem i154_136 : ts_ins 154 136 = some (.iload 4, 138, 0) := by decide +kernel
theorem i154_138 : ts_ins 154 138 = some (.iadd, 139, 0) := by decide +kernel
theorem i154_139 : ts_ins 154 139 = some (.aload_n 0, 140, 0) := by decide +kernel
theorem i154_140 : ts_ins 154 140 = some (.getfield 76, 143, 0) := by decide +kernel
theorem g154_140 : ts_fm 154 76 = some (12, 40, 2) := by decide +kernel
theorem i154_143 : ts_ins 154 143 = some (.bipush 60, 145, 0) := by decide +kernel
theorem i154_145 : ts_ins 154 145 = some (.iload_n 1, 146, 0) := by decide +kernel
theorem i154_146 : ts_ins 154 146 = some (.imul, 147, 0) := by decide +kernel
theorem i154_147 : ts_ins 154 147 = some (.iload_n 2, 148, 0) := by decide +kernel
theorem i154_148 : ts_ins 154 148 = some (.iadd, 149, 0) := by decide +kernel
theorem i154_149 : ts_ins 154 149 = some (.iload 4, 151, 0) := by decide +kernel
theorem i154_151 : ts_ins 154 151 = some (.iadd, 152, 0) := by decide +kernel
theorem i154_152 : ts_ins 154 152 = some (.laload, 153, 0) := by decide +kernel
theorem i154_153 : ts_ins 154 153 = some (.l2i, 154, 0) := by decide +kernel
theorem i154_154 : ts_ins 154 154 = some (.iastore, 155, 0) := by decide +kernel
theorem i154_155 : ts_ins 154 155 = some (.iinc 4 1, 158, 0) := by decide +kernel
theorem i154_158 : ts_ins 154 158 = some (.goto (-42), 161, 116) := by decide +kernel
theorem i154_161 : ts_ins 154 161 = some (.aload_n 0, 162, 0) := by decide +kernel
theorem i154_162 : ts_ins 154 162 = some (.getfield 22, 165, 0) := by decide +kernel
theorem g154_162 : ts_fm 154 22 = some (12, 8, 2) := by decide +kernel
theorem i154_165 : ts_ins 154 165 = some (.aload_n 0, 166, 0) := by decide +kernel
theorem i154_166 : ts_ins 154 166 = some (.getfield 102, 169, 0) := by decide +kernel
theorem g154_166 : ts_fm 154 102 = some (12, 7, 0) := by decide +kernel
theorem i154_169 : ts_ins 154 169 = some (.iload_n 3, 170, 0) := by decide +kernel
theorem i154_170 : ts_ins 154 170 = some (.iastore, 171, 0) := by decide +kernel
theorem i154_171 : ts_ins 154 171 = some (.aload_n 0, 172, 0) := by decide +kernel
theorem i154_172 : ts_ins 154 172 = some (.dup, 173, 0) := by decide +kernel
theorem i154_173 : ts_ins 154 173 = some (.getfield 102, 176, 0) := by decide +kernel
theorem g154_173 : ts_fm 154 102 = some (12, 7, 0) := by decide +kernel
theorem i154_176 : ts_ins 154 176 = some (.iconst 1, 177, 0) := by decide +kernel
theorem i154_177 : ts_ins 154 177 = some (.iadd, 178, 0) := by decide +kernel
theorem i154_178 : ts_ins 154 178 = some (.putfield 102, 181, 0) := by decide +kernel
theorem g154_178 : ts_fmm 154 102 = some (12, 7, 0, false) := by decide +kernel
theorem i154_181 : ts_ins 154 181 = some (.aload_n 0, 182, 0) := by decide +kernel
theorem i154_182 : ts_ins 154 182 = some (.getfield 102, 185, 0) := by decide +kernel
theorem g154_182 : ts_fm 154 102 = some (12, 7, 0) := by decide +kernel
theorem i154_185 : ts_ins 154 185 = some (.iconst 1, 186, 0) := by decide +kernel
theorem i154_186 : ts_ins 154 186 = some (.isub, 187, 0) := by decide +kernel
theorem i154_187 : ts_ins 154 187 = some (.ireturn, 188, 0) := by decide +kernel
theorem r154 : ts_rt 154 = ((some .int), 0, 0) := by decide +kernel
theorem l154 : ts_ml 154 = 5 := by decide +kernel
/-! SAYINGS FROM ROWS -/
/-- all of 0 .. n-1 are g -/
def zall (g : Int → Prop) [DecidablePred g] : Nat → Bool
  | 0 => true
  | n + 1 => zall g n && decide (g n)
theorem zall_s {g : Int → Prop} [DecidablePred g] {j : Int} (h : 0 ≤ j) : zall g (j + 1).toNat = true ↔ zall g j.toNat = true ∧ g j := by
  obtain ⟨n, rfl⟩ : ∃ n : Nat, j = n := ⟨j.toNat, by omega⟩
  show (zall g n && decide (g n)) = true ↔ zall g n = true ∧ g n
  rw [Bool.and_eq_true, decide_eq_true_iff]
theorem zall_i {g : Int → Prop} [DecidablePred g] {N : Nat} : zall g N = true ↔ ∀ k : Int, 0 ≤ k → k < N → g k := by
  induction N with
  | zero => exact ⟨fun _ k h0 h1 => by omega, fun _ => rfl⟩
  | succ n ih =>
    have e := zall_s (g := g) (j := (n : Int)) (by omega)
    rw [show ((n : Int) + 1).toNat = n + 1 from by omega, show ((n : Int)).toNat = n from by omega, ih] at e
    rw [e]
    refine ⟨fun q k h0 h1 => ?_, fun q => ⟨fun k h0 h1 => q k h0 (by omega), q n (by omega) (by omega)⟩⟩
    by_cases c : k = n
    · rw [c]; exact q.2
    · exact q.1 k h0 (by omega)
theorem zall_t {g : Int → Prop} [DecidablePred g] {n : Int} : zall g n.toNat = true ↔ ∀ k : Int, 0 ≤ k → k < n → g k := by
  rw [zall_i]
  exact ⟨fun q k h0 h1 => q k h0 (by omega), fun q k h0 h1 => q k h0 (by omega)⟩
/-- n tones from place i on -/
abbrev g_tones (it : Int → Int) (i n : Int) : Prop := zall (fun t => 0 ≤ it (i + t) ∧ it (i + t) < 8) n.toNat = true
abbrev g_sayOk (s : ts_Sh) (x i n : Int) : Prop := 0 ≤ i ∧ 0 ≤ n ∧ i + n ≤ s.2.1 x ∧ g_tones (s.2.2 x) i n
def g_fill (f : ts_Fl) (t : Int) (it : Int → Int) (i k : Int) : ts_Fl := fs_say f (fun s' k' => if s' = t ∧ 0 ≤ k' ∧ k' < k then it (i + k') else f_say f s' k')
theorem g_fill_0 (f : ts_Fl) (t : Int) (it : Int → Int) (i : Int) : g_fill f t it i 0 = f := by
  unfold g_fill
  have e : (fun s' k' => if s' = t ∧ 0 ≤ k' ∧ k' < 0 then it (i + k') else f_say f s' k') = f_say f := by
    funext s' k'
    exact if_neg (fun q => by omega)
  rw [e]
theorem g_fill_s (f : ts_Fl) (t : Int) (it : Int → Int) (i k : Int) (hk : 0 ≤ k) : fs_say (g_fill f t it i k) (fun s' k' => if s' = t ∧ k' = k then it (i + k) else f_say (g_fill f t it i k) s' k') = g_fill f t it i (k + 1) := by
  refine congrArg (fs_say f) ?_
  funext s' k'
  show (if s' = t ∧ k' = k then it (i + k) else (if s' = t ∧ 0 ≤ k' ∧ k' < k then it (i + k') else f_say f s' k')) = (if s' = t ∧ 0 ≤ k' ∧ k' < k + 1 then it (i + k') else f_say f s' k')
  by_cases c : s' = t ∧ k' = k
  · rw [if_pos c, if_pos ⟨c.1, by omega, by omega⟩, c.2]
  · rw [if_neg c]
    by_cases c2 : s' = t ∧ 0 ≤ k' ∧ k' < k
    · rw [if_pos c2, if_pos ⟨c2.1, by omega, by omega⟩]
    · rw [if_neg c2, if_neg (fun q => by omega)]
def g_sayA (s : ts_Sh) (f : ts_Fl) (x i n : Int) : Int := if n < 1 ∨ 6 < n then -1 else if ¬ g_bytes s x = 0 then g_bytes s x else if ¬ g_sayOk s x i n then -1 else if f_told f < 8 then f_told f else -3
def g_sayF (s : ts_Sh) (f : ts_Fl) (x i n : Int) : ts_Fl := if (1 ≤ n ∧ n ≤ 6) ∧ g_bytes s x = 0 ∧ g_sayOk s x i n ∧ f_told f < 8 then fs_told (fs_len (g_fill f (f_told f) (s.2.2 x) i n) (zu (f_len f) (f_told f) n)) (f_told f + 1) else f
theorem g_bytes_0 {s : ts_Sh} {x : Int} (h : g_bytes s x = 0) : 0 ≤ x ∧ x < 6 ∧ s.1 x = 50 := by unfold g_bytes at h; omega
theorem g_bytes_r (s : ts_Sh) (x : Int) : -12 ≤ g_bytes s x ∧ g_bytes s x ≤ 0 := by unfold g_bytes; omega
section SAY
variable {X : ts_X} {I : Nat → Nat → Int32} {L : Nat → Nat → Int64} {sw : Bool} {K : Option Value → ts_H → Prop} {d : Nat} {f : ts_Fl} {s : ts_Sh} {q : Nat}
theorem x_hasTones (hS : RXs I L s) (hq : q < 6) {i n : Int} (hi : -2147483648 ≤ i ∧ i ≤ 2147483647) (hn : -2147483648 ≤ n ∧ n ≤ 2147483647) (hK : K (some (.int (zI (if g_sayOk s q i n then 1 else 0)))) (I, L, ts_P0 sw, ts_S0)) : ts_Cal X (d + 2) 65 [.ref (60 + 2 * q), .int (zI (i)), .int (zI (n))] (I, L, ts_P0 sw, ts_S0) K := by
  have hz := (hS.size hq).2
  have loop : 0 ≤ i ∧ 0 ≤ n ∧ i + n ≤ s.2.1 q → ∀ k, i ≤ k → k ≤ i + n → g_tones (s.2.2 q) i (k - i) → ts_Ev X (ts_Cal X (d + 1)) 65 ts_S0 K 13 [.ref (60 + 2 * q), .int (zI (i)), .int (zI (n)), .int (zI (k))] [] (I, L, ts_P0 sw, ts_S0) := by
    intro h0
    refine ts_ind (i + n) (fun k ih h1 h2 h3 => ?_)
    refine ev_iloadn_3 i65_13 ?_
    refine ev_iloadn_1 i65_14 ?_
    refine ev_iloadn_2 i65_15 ?_
    refine ew_iadd i65_16 ?_
    refine ew_icmpge i65_17 (by omega) (fun c17 => ?_) (fun c17 => ?_)
    · refine ew_iconst i65_52 ?_
      refine ew_zreturn i65_53 r65 (Or.inl ⟨rfl, h0.1, h0.2.1, h0.2.2, ?_⟩) hK
      obtain rfl : k = i + n := by omega
      rw [show i + n - i = n from by omega] at h3
      exact h3
    · refine ev_aloadn_0 i65_20 ?_
      refine ev_getA i65_21 g65_21 (she_I hq) (she_P hq) (by omega) ?_
      refine ev_iloadn_3 i65_24 ?_
      refine ew_laload i65_25 (she_A hq) (by omega) (by omega) (by omega) ((hS.it hq (by omega) (by omega))) (fun b25 => ?_)
      refine ew_lconst (z := 0) i65_26 (by decide) ?_
      refine ew_lcmp i65_27 (by omega) (by omega) ?_
      refine ew_iflt i65_28 (by omega) (fun c28 => ?_) (fun c28 => ?_)
      · refine ew_iconst i65_44 ?_
        refine ew_zreturn i65_45 r65 (Or.inr ⟨rfl, fun c => ?_⟩) hK
        have c2 := zall_t.mp c.2.2.2 (k - i) (by omega) (by omega)
        rw [show i + (k - i) = k from by omega] at c2
        omega
      · refine ev_aloadn_0 i65_31 ?_
        refine ev_getA i65_32 g65_32 (she_I hq) (she_P hq) (by omega) ?_
        refine ev_iloadn_3 i65_35 ?_
        refine ew_laload i65_36 (she_A hq) (by omega) (by omega) (by omega) ((hS.it hq (by omega) (by omega))) (fun b36 => ?_)
        refine ew_ldc2_w (z := (8)) i65_37 g65_37 (by decide) ?_
        refine ew_lcmp i65_40 (by omega) (by omega) ?_
        refine ew_iflt i65_41 (by omega) (fun c41 => ?_) (fun c41 => ?_)
        · refine ew_iinc_3 i65_46 rfl ?_
          refine ev_goto i65_49 ?_
          refine ih (by omega) (by omega) (by omega) ?_
          unfold g_tones
          rw [show k + 1 - i = (k - i) + 1 from by omega, zall_s (by omega)]
          refine ⟨h3, ?_⟩
          show 0 ≤ s.2.2 q (i + (k - i)) ∧ s.2.2 q (i + (k - i)) < 8
          rw [show i + (k - i) = k from by omega]
          omega
        · refine ew_iconst i65_44 ?_
          refine ew_zreturn i65_45 r65 (Or.inr ⟨rfl, fun c => ?_⟩) hK
          have c2 := zall_t.mp c.2.2.2 (k - i) (by omega) (by omega)
          rw [show i + (k - i) = k from by omega] at c2
          omega
  refine ev_enter (lv := [.ref (60 + 2 * q), .int (zI (i)), .int (zI (n)), .null]) l65 rfl (Nat.le_of_ble_eq_true rfl) ?_
  refine ev_aloadn_0 i65_0 ?_
  refine ev_iloadn_1 i65_1 ?_
  refine ev_iloadn_2 i65_2 ?_
  refine ev_virt2 i65_3 g65_3 (she_R hq (by decide +kernel)) (by decide +kernel) (Nat.le_of_ble_eq_true rfl) (x_hasPlaces hS hq hi hn ?_)
  first
  | refine ew_ifneB i65_6 (fun c6 => ?_) (fun c6 => ?_)
  | refine ew_ifne i65_6 (by omega) (fun c6 => ?_) (fun c6 => ?_)
  · refine ev_iloadn_1 i65_11 ?_
    refine ev_istoren_3 i65_12 rfl ?_
    refine loop c6 i (by omega) (by omega) ?_
    rw [show i - i = 0 from by omega]
    rfl
  · refine ew_iconst i65_9 ?_
    exact ew_zreturn i65_10 r65 (Or.inr ⟨rfl, fun c => c6 ⟨c.1, c.2.1, c.2.2.1⟩⟩) hK
theorem x_addSaying (hX : RX I f) (hS : RXs I L s) (hq : q < 6) {i n : Int} (hi : -2147483648 ≤ i ∧ i ≤ 2147483647) (hn : 1 ≤ n ∧ n ≤ 6) (hok : g_sayOk s q i n) (hK : ∀ J, fr ffl I J → RX J (if f_told f < 8 then fs_told (fs_len (g_fill f (f_told f) (s.2.2 q) i n) (zu (f_len f) (f_told f) n)) (f_told f + 1) else f) → K (some (.int (zI (if f_told f < 8 then f_told f else -3)))) (J, L, ts_P0 sw, ts_S0)) : ts_Cal X (d + 1) 18 [.ref 2, .ref (60 + 2 * q), .int (zI (i)), .int (zI (n))] (I, L, ts_P0 sw, ts_S0) K := by
  have b1 := hX.told.2
  have hz := (hS.size hq).2
  have hk3 := hok.2.2.1
  have ht := zall_t.mp hok.2.2.2
  have loop : f_told f < 8 → ∀ k, 0 ≤ k → k ≤ n → ∀ J, fr ffl I J → RX J (g_fill f (f_told f) (s.2.2 q) i k) → ts_Ev X (ts_Cal X (d + 0)) 18 ts_S0 K 15 [.ref 2, .ref (60 + 2 * q), .int (zI (i)), .int (zI (n)), .int (zI (k))] [] (J, L, ts_P0 sw, ts_S0) := by
    intro c0
    refine ts_ind n (fun k ih h1 h2 J hJ hR => ?_)
    have hT : rd (J 2 9) 0 8 (f_told f) := hR.told
    refine ev_iload_4 i18_15 ?_
    refine ev_iloadn_3 i18_17 ?_
    refine ew_icmpge i18_18 (by omega) (fun c18 => ?_) (fun c18 => ?_)
    · refine ev_aloadn_0 i18_49 ?_
      refine ev_getA i18_50 g18_50 rfl rfl (by decide) ?_
      refine ev_aloadn_0 i18_53 ?_
      refine ew_getI i18_54 g18_54 rfl (by first | exact hT | exact hX.men | exact hX.told | exact hX.road | exact hX.tone _ (by omega) (by omega) | exact hX.corn _ (by omega) (by omega) | exact hX.stand _ (by omega) (by omega) | exact hX.reach _ (by omega) (by omega) | exact hX.arm _ (by omega) (by omega) | exact hX.late _ (by omega) (by omega) | exact hX.len _ (by omega) (by omega) | exact hX.say (by omega) (by omega) _ (by omega) (by omega)) (fun b54 => ?_)
      refine ev_iloadn_3 i18_57 ?_
      refine ew_iastore i18_58 rfl (by omega) (by omega) (by omega) ?_
      refine ev_aloadn_0 i18_59 ?_
      refine ev_dup i18_60 rfl ?_
      refine ew_getI i18_61 g18_61 rfl (by first | exact hT | exact hX.men | exact hX.told | exact hX.road | exact hX.tone _ (by omega) (by omega) | exact hX.corn _ (by omega) (by omega) | exact hX.stand _ (by omega) (by omega) | exact hX.reach _ (by omega) (by omega) | exact hX.arm _ (by omega) (by omega) | exact hX.late _ (by omega) (by omega) | exact hX.len _ (by omega) (by omega) | exact hX.say (by omega) (by omega) _ (by omega) (by omega)) (fun b61 => ?_)
      refine ew_iconst i18_64 ?_
      refine ew_iadd i18_65 ?_
      refine ev_putI i18_66 g18_66 rfl ?_
      refine ev_aloadn_0 i18_69 ?_
      refine ew_getI i18_70 g18_70 rfl ((rd_zI (lo := 0) (hi := 8) (v := f_told f + 1) (by omega))) (fun b70 => ?_)
      refine ew_iconst i18_73 ?_
      refine ew_isub i18_74 ?_
      refine ev_ireturn i18_75 r18 ?_
      rw [if_pos c0, if_pos c0] at hK
      obtain rfl : k = n := by omega
      have h3 := (hR.sLen (p := f_told f) (v := k) (by omega) (by omega)).sTold (v := f_told f + 1) (by omega)
      have e := hK _ (fr_up (fr_up hJ (by omega)) (by omega)) h3
      exact zK e (by omega)
    · refine ev_aloadn_0 i18_21 ?_
      refine ev_getA i18_22 g18_22 rfl rfl (by decide) ?_
      refine ev_aloadn_0 i18_25 ?_
      refine ew_getI i18_26 g18_26 rfl (by first | exact hT | exact hX.men | exact hX.told | exact hX.road | exact hX.tone _ (by omega) (by omega) | exact hX.corn _ (by omega) (by omega) | exact hX.stand _ (by omega) (by omega) | exact hX.reach _ (by omega) (by omega) | exact hX.arm _ (by omega) (by omega) | exact hX.late _ (by omega) (by omega) | exact hX.len _ (by omega) (by omega) | exact hX.say (by omega) (by omega) _ (by omega) (by omega)) (fun b26 => ?_)
      refine ew_aaloadG i18_29 rfl (by omega) (by omega) (by omega) (floor_P (by omega) (by omega)) (by omega) ?_
      refine ev_iload_4 i18_30 ?_
      refine ev_aloadn_1 i18_32 ?_
      refine ev_getA i18_33 g18_33 (she_I hq) (she_P hq) (by omega) ?_
      refine ev_iloadn_2 i18_36 ?_
      refine ev_iload_4 i18_37 ?_
      refine ew_iadd i18_39 ?_
      refine ew_laload i18_40 (she_A hq) (by omega) (by omega) (by omega) ((hS.it hq (by omega) (by omega))) (fun b40 => ?_)
      refine ew_l2i i18_41 ?_
      refine ew_iastore i18_42 (floor_S (by omega) (by omega)) (by omega) (by omega) (by omega) ?_
      refine ew_iinc_4 i18_43 rfl ?_
      refine ev_goto i18_46 ?_
      have t := ht k h1 (by omega)
      have hR2 := hR.sSay (s := f_told f) (k := k) (v := s.2.2 q (i + k)) (by omega) h1 (by omega)
      rw [g_fill_s _ _ _ _ _ h1] at hR2
      exact ih (by omega) (by omega) (by omega) _ (fr_up hJ (by omega)) hR2
  refine ev_enter (lv := [.ref 2, .ref (60 + 2 * q), .int (zI (i)), .int (zI (n)), .null]) l18 rfl (Nat.le_of_ble_eq_true rfl) ?_
  refine ev_aloadn_0 i18_0 ?_
  refine ew_getI i18_1 g18_1 rfl (by first | exact hX.men | exact hX.told | exact hX.road | exact hX.tone _ (by omega) (by omega) | exact hX.corn _ (by omega) (by omega) | exact hX.stand _ (by omega) (by omega) | exact hX.reach _ (by omega) (by omega) | exact hX.arm _ (by omega) (by omega) | exact hX.late _ (by omega) (by omega) | exact hX.len _ (by omega) (by omega) | exact hX.say (by omega) (by omega) _ (by omega) (by omega)) (fun b1 => ?_)
  refine ew_bipush i18_4 (by decide) ?_
  refine ew_icmplt i18_6 (by omega) (fun c6 => ?_) (fun c6 => ?_)
  · refine ew_iconst i18_12 ?_
    refine ev_istore_4 i18_13 rfl ?_
    exact loop (by omega) 0 (by decide) (by omega) I (fr_rfl _ _) (by rw [g_fill_0]; exact hX)
  · refine ew_bipush i18_9 (by decide) ?_
    refine ev_ireturn i18_11 r18 ?_
    rw [if_neg (by omega), if_neg (by omega)] at hK
    exact hK I (fr_rfl _ _) hX
theorem x_saying (hX : RX I f) (hS : RXs I L s) {x i n : Int} (hx : -2147483648 ≤ x ∧ x ≤ 2147483647) (hi : -2147483648 ≤ i ∧ i ≤ 2147483647) (hn : -2147483648 ≤ n ∧ n ≤ 2147483647) (hK : ∀ J, fr ffl I J → RX J (g_sayF s f x i n) → K (some (.int (zI (g_sayA s f x i n)))) (J, L, ts_P0 sw, ts_S0)) : ts_Cal X (d + 3) 95 [.ref 1, .int (zI (x)), .int (zI (i)), .int (zI (n))] (I, L, ts_P0 sw, ts_S0) K := by
  have gr := g_bytes_r s x
  unfold g_sayF g_sayA at hK
  refine ev_enter (lv := [.ref 1, .int (zI (x)), .int (zI (i)), .int (zI (n)), .null, .null]) l95 rfl (Nat.le_of_ble_eq_true rfl) ?_
  refine ev_iloadn_3 i95_0 ?_
  refine ew_iconst i95_1 ?_
  refine ew_icmplt i95_2 (by omega) (fun c2 => ?_) (fun c2 => ?_)
  · refine ew_iconst i95_11 ?_
    refine ev_ireturn i95_12 r95 ?_
    rw [if_neg (by omega), if_pos (by omega)] at hK
    exact hK I (fr_rfl _ _) hX
  · refine ev_iloadn_3 i95_5 ?_
    refine ew_bipush i95_6 (by decide) ?_
    refine ew_icmple i95_8 (by omega) (fun c8 => ?_) (fun c8 => ?_)
    · refine ev_aloadn_0 i95_13 ?_
      refine ev_iloadn_1 i95_14 ?_
      refine ev_virt1 i95_15 g95_15 rfl (by decide +kernel) (Nat.le_of_ble_eq_true rfl) (x_bytesOn hS hx ?_)
      refine ev_istore_4 i95_18 rfl ?_
      refine ev_iload_4 i95_20 ?_
      first
      | refine ew_ifeqB i95_22 (fun c22 => ?_) (fun c22 => ?_)
      | refine ew_ifeq i95_22 (by omega) (fun c22 => ?_) (fun c22 => ?_)
      · have h0 := g_bytes_0 c22
        obtain ⟨q, rfl⟩ : ∃ q : Nat, x = q := ⟨x.toNat, by omega⟩
        have hq : q < 6 := by omega
        refine ev_aloadn_0 i95_28 ?_
        refine ev_getA i95_29 g95_29 rfl rfl (by decide) ?_
        refine ev_iloadn_1 i95_32 ?_
        refine ew_aaload i95_33 rfl (by omega) (by omega) (by omega) (she_Sq hq) (by omega) ?_
        refine ev_astore_5 i95_34 rfl ?_
        refine ev_aload_5 i95_36 ?_
        refine ev_iloadn_2 i95_38 ?_
        refine ev_iloadn_3 i95_39 ?_
        refine ev_virt2 i95_40 g95_40 (she_R hq (by decide +kernel)) (by decide +kernel) (Nat.le_of_ble_eq_true rfl) (x_hasTones hS hq hi hn ?_)
        first
        | refine ew_ifneB i95_43 (fun c43 => ?_) (fun c43 => ?_)
        | refine ew_ifne i95_43 (by omega) (fun c43 => ?_) (fun c43 => ?_)
        · refine ev_aloadn_0 i95_48 ?_
          refine ev_getA i95_49 g95_49 rfl rfl (by decide) ?_
          refine ev_aload_5 i95_52 ?_
          refine ev_iloadn_2 i95_54 ?_
          refine ev_iloadn_3 i95_55 ?_
          refine ev_virt3 i95_56 g95_56 rfl (by decide +kernel) (Nat.le_of_ble_eq_true rfl) (x_addSaying hX hS hq hi (by omega) c43 (fun J h1 h2 => ?_))
          refine ev_ireturn i95_59 r95 ?_
          by_cases c : f_told f < 8
          · rw [if_pos ⟨by omega, c22, c43, c⟩, if_neg (by omega), if_neg (by omega), if_neg (fun r => r c43), if_pos c] at hK
            rw [if_pos c] at h2
            rw [if_pos c]
            exact hK J h1 h2
          · rw [if_neg (fun r => c r.2.2.2), if_neg (by omega), if_neg (by omega), if_neg (fun r => r c43), if_neg c] at hK
            rw [if_neg c] at h2
            rw [if_neg c]
            exact hK J h1 h2
        · refine ew_iconst i95_46 ?_
          refine ev_ireturn i95_47 r95 ?_
          rw [if_neg (fun r => c43 r.2.2.1), if_neg (by omega), if_neg (by omega), if_pos c43] at hK
          exact hK I (fr_rfl _ _) hX
      · refine ev_iload_4 i95_25 ?_
        refine ev_ireturn i95_27 r95 ?_
        rw [if_neg (by omega), if_neg (by omega), if_pos c22] at hK
        exact hK I (fr_rfl _ _) hX
    · refine ew_iconst i95_11 ?_
      refine ev_ireturn i95_12 r95 ?_
      rw [if_neg (by omega), if_pos (by omega)] at hK
      exact hK I (fr_rfl _ _) hX
theorem m_saying (hM : RM I f) (hS : RMs I L s) {x i n : Int} (hx : -2147483648 ≤ x ∧ x ≤ 2147483647) (hi : -2147483648 ≤ i ∧ i ≤ 2147483647) (hn : -2147483648 ≤ n ∧ n ≤ 2147483647) (hK : ∀ J, fr ffm I J → RM J (g_sayF s f x i n) → K (some (.int (zI (g_sayA s f x i n)))) (J, L, ts_P0 sw, ts_S0)) : ts_Cal X (d + 4) 154 [.ref 72, .int (zI (x)), .int (zI (i)), .int (zI (n))] (I, L, ts_P0 sw, ts_S0) K := by
  have gr := g_bytes_r s x
  have b1 := hM.told.2
  unfold g_sayF g_sayA at hK
  have mid : (1 ≤ n ∧ n ≤ 6) → ¬ g_bytes s x = -1 → (g_bytes s x = 0 → g_sayOk s x i n) → ∀ o, ts_Ev X (ts_Cal X (d + 3)) 154 ts_S0 K 87 [.ref 72, .int (zI (x)), .int (zI (i)), .int (zI (n)), o] [] (I, L, ts_P0 sw, ts_S0) := by
    intro h1 h2 h3 o
    have loop : g_bytes s x = 0 → f_told f < 8 → ∀ k, 0 ≤ k → k ≤ n → ∀ J, fr ffm I J → RM J (g_fill f (f_told f) (s.2.2 x) i k) → ts_Ev X (ts_Cal X (d + 3)) 154 ts_S0 K 116 [.ref 72, .int (zI (x)), .int (zI (i)), .int (zI (n)), .int (zI (k))] [] (J, L, ts_P0 sw, ts_S0) := by
      intro c00 c0
      have h0 := g_bytes_0 c00
      have hz := (hS.2.1 x (by omega) (by omega)).2
      have hok := h3 c00
      have hk3 := hok.2.2.1
      have ht := zall_t.mp hok.2.2.2
      refine ts_ind n (fun k ih k1 k2 J hJ hR => ?_)
      have hT : rd (J 72 7) 0 8 (f_told f) := hR.told
      refine ev_iload_4 i154_116 ?_
      refine ev_iloadn_3 i154_118 ?_
      refine ew_icmpge i154_119 (by omega) (fun c119 => ?_) (fun c119 => ?_)
      · refine ev_aloadn_0 i154_161 ?_
        refine ev_getA i154_162 g154_162 rfl rfl (by decide) ?_
        refine ev_aloadn_0 i154_165 ?_
        refine ew_getI i154_166 g154_166 rfl (by first | exact hT | exact hS.2.2 _ (by omega) (by omega) _ (by omega) (by omega) | exact hM.men | exact hM.told | exact hM.road | exact hM.stand _ (by omega) (by omega) | exact hM.reach _ (by omega) (by omega) | exact hM.arm _ (by omega) (by omega) | exact hM.late _ (by omega) (by omega) | exact hM.len _ (by omega) (by omega) | exact hM.corn _ (by omega) (by omega) | exact hM.say (by omega) (by omega) _ (by omega) (by omega) | exact hM.tone _ (by omega) (by omega)) (fun b166 => ?_)
        refine ev_iloadn_3 i154_169 ?_
        refine ew_iastore i154_170 rfl (by omega) (by omega) (by omega) ?_
        refine ev_aloadn_0 i154_171 ?_
        refine ev_dup i154_172 rfl ?_
        refine ew_getI i154_173 g154_173 rfl (by first | exact hT | exact hS.2.2 _ (by omega) (by omega) _ (by omega) (by omega) | exact hM.men | exact hM.told | exact hM.road | exact hM.stand _ (by omega) (by omega) | exact hM.reach _ (by omega) (by omega) | exact hM.arm _ (by omega) (by omega) | exact hM.late _ (by omega) (by omega) | exact hM.len _ (by omega) (by omega) | exact hM.corn _ (by omega) (by omega) | exact hM.say (by omega) (by omega) _ (by omega) (by omega) | exact hM.tone _ (by omega) (by omega)) (fun b173 => ?_)
        refine ew_iconst i154_176 ?_
        refine ew_iadd i154_177 ?_
        refine ev_putI i154_178 g154_178 rfl ?_
        refine ev_aloadn_0 i154_181 ?_
        refine ew_getI i154_182 g154_182 rfl ((rd_zI (lo := 0) (hi := 8) (v := f_told f + 1) (by omega))) (fun b182 => ?_)
        refine ew_iconst i154_185 ?_
        refine ew_isub i154_186 ?_
        refine ev_ireturn i154_187 r154 ?_
        rw [if_pos ⟨h1, c00, hok, c0⟩, if_neg (by omega), if_neg (fun r => r c00), if_neg (fun r => r hok), if_pos c0] at hK
        obtain rfl : k = n := by omega
        have h3 := (hR.sLen (p := f_told f) (v := k) (by omega) (by omega)).sTold (v := f_told f + 1) (by omega)
        have e := hK _ (fr_up (fr_up hJ (by omega)) (by omega)) h3
        exact zK e (by omega)
      · refine ev_aloadn_0 i154_122 ?_
        refine ev_getA i154_123 g154_123 rfl rfl (by decide) ?_
        refine ew_bipush i154_126 (by decide) ?_
        refine ew_bipush i154_128 (by decide) ?_
        refine ev_aloadn_0 i154_130 ?_
        refine ew_getI i154_131 g154_131 rfl (by first | exact hT | exact hS.2.2 _ (by omega) (by omega) _ (by omega) (by omega) | exact hM.men | exact hM.told | exact hM.road | exact hM.stand _ (by omega) (by omega) | exact hM.reach _ (by omega) (by omega) | exact hM.arm _ (by omega) (by omega) | exact hM.late _ (by omega) (by omega) | exact hM.len _ (by omega) (by omega) | exact hM.corn _ (by omega) (by omega) | exact hM.say (by omega) (by omega) _ (by omega) (by omega) | exact hM.tone _ (by omega) (by omega)) (fun b131 => ?_)
        refine ew_imul i154_134 ?_
        refine ew_iadd i154_135 ?_
        refine ev_iload_4 i154_136 ?_
        refine ew_iadd i154_138 ?_
        refine ev_aloadn_0 i154_139 ?_
        refine ev_getA i154_140 g154_140 rfl rfl (by decide) ?_
        refine ew_bipush i154_143 (by decide) ?_
        refine ev_iloadn_1 i154_145 ?_
        refine ew_imul i154_146 ?_
        refine ev_iloadn_2 i154_147 ?_
        refine ew_iadd i154_148 ?_
        refine ev_iload_4 i154_149 ?_
        refine ew_iadd i154_151 ?_
        refine ew_laload i154_152 rfl (by omega) (by omega) (by omega) ((by have e := hS.2.2 x (by omega) (by omega) (i + k) (by omega) (by omega); rw [show 60 * x + (i + k) = 60 * x + i + k from by omega] at e; exact e)) (fun b152 => ?_)
        refine ew_l2i i154_153 ?_
        refine ew_iastore i154_154 rfl (by omega) (by omega) (by omega) ?_
        refine ew_iinc_4 i154_155 rfl ?_
        refine ev_goto i154_158 ?_
        have t := ht k k1 (by omega)
        have hR2 := hR.sSay (s := f_told f) (k := k) (v := s.2.2 x (i + k)) (by omega) (by omega) (by omega)
        rw [g_fill_s _ _ _ _ _ k1] at hR2
        exact ih (by omega) (by omega) (by omega) _ (fr_up hJ (by omega)) hR2
    refine ev_aloadn_0 i154_87 ?_
    refine ev_iloadn_1 i154_88 ?_
    refine ev_virt1 i154_89 g154_89 rfl (by decide +kernel) (Nat.le_of_ble_eq_true rfl) (m_bytesIs hS hx ?_)
    refine ew_ifge i154_92 (by omega) (fun c92 => ?_) (fun c92 => ?_)
    · refine ev_aloadn_0 i154_101 ?_
      refine ew_getI i154_102 g154_102 rfl (by first | exact hM.men | exact hM.told | exact hM.road | exact hM.stand _ (by omega) (by omega) | exact hM.reach _ (by omega) (by omega) | exact hM.arm _ (by omega) (by omega) | exact hM.late _ (by omega) (by omega) | exact hM.len _ (by omega) (by omega) | exact hM.corn _ (by omega) (by omega) | exact hM.say (by omega) (by omega) _ (by omega) (by omega) | exact hM.tone _ (by omega) (by omega)) (fun b102 => ?_)
      refine ew_bipush i154_105 (by decide) ?_
      refine ew_icmpne i154_107 (by omega) (fun c107 => ?_) (fun c107 => ?_)
      · refine ew_iconst i154_113 ?_
        refine ev_istore_4 i154_114 rfl ?_
        exact loop (by omega) (by omega) 0 (by decide) (by omega) I (fr_rfl _ _) (by rw [g_fill_0]; exact hM)
      · refine ew_bipush i154_110 (by decide) ?_
        refine ev_ireturn i154_112 r154 ?_
        have c00 : g_bytes s x = 0 := by omega
        rw [if_neg (by omega), if_neg (by omega), if_neg (fun r => r c00), if_neg (fun r => r (h3 c00)), if_neg (by omega)] at hK
        exact hK I (fr_rfl _ _) hM
    · refine ev_aloadn_0 i154_95 ?_
      refine ev_iloadn_1 i154_96 ?_
      refine ev_virt1 i154_97 g154_97 rfl (by decide +kernel) (Nat.le_of_ble_eq_true rfl) (m_bytesIs hS hx ?_)
      refine ev_ireturn i154_100 r154 ?_
      rw [if_neg (by omega), if_neg (by omega), if_pos (by omega)] at hK
      exact zK (hK I (fr_rfl _ _) hM) (by omega)
  refine ev_enter (lv := [.ref 72, .int (zI (x)), .int (zI (i)), .int (zI (n)), .null]) l154 rfl (Nat.le_of_ble_eq_true rfl) ?_
  refine ev_aloadn_0 i154_0 ?_
  refine ev_iloadn_1 i154_1 ?_
  refine ev_virt1 i154_2 g154_2 rfl (by decide +kernel) (Nat.le_of_ble_eq_true rfl) (m_bytesIs hS hx ?_)
  refine ew_iconst i154_5 ?_
  refine ew_icmpeq i154_6 (by omega) (fun c6 => ?_) (fun c6 => ?_)
  · refine ew_iconst i154_21 ?_
    refine ev_ireturn i154_22 r154 ?_
    first
    | (have c : n < 1 ∨ 6 < n := by omega
       rw [if_neg (by omega), if_pos c] at hK
       exact hK I (fr_rfl _ _) hM)
    | (by_cases c : n < 1 ∨ 6 < n
       · rw [if_neg (by omega), if_pos c] at hK
         exact hK I (fr_rfl _ _) hM
       · rw [if_neg (by omega), if_neg c, if_pos (by omega)] at hK
         exact zK (hK I (fr_rfl _ _) hM) (by omega))
  · refine ev_iloadn_3 i154_9 ?_
    refine ew_i2l i154_10 (by omega) ?_
    refine ew_lconst (z := 1) i154_11 (by decide) ?_
    refine ew_ldc2_w (z := (6)) i154_12 g154_12 (by decide) ?_
    refine ev_stat3 i154_15 g154_15 (by decide +kernel) (Nat.le_of_ble_eq_true rfl) (m_within (by omega) (by omega) (by omega) ?_)
    first
    | refine ew_ifneB i154_18 (fun c18 => ?_) (fun c18 => ?_)
    | refine ew_ifne i154_18 (by omega) (fun c18 => ?_) (fun c18 => ?_)
    · refine ev_aloadn_0 i154_23 ?_
      refine ev_iloadn_1 i154_24 ?_
      refine ev_virt1 i154_25 g154_25 rfl (by decide +kernel) (Nat.le_of_ble_eq_true rfl) (m_bytesIs hS hx ?_)
      refine ew_iconst i154_28 ?_
      refine ew_icmpne i154_29 (by omega) (fun c29 => ?_) (fun c29 => ?_)
      · exact mid (by omega) (by omega) (fun r => by omega) _
      · have c00 : g_bytes s x = 0 := by omega
        have h0 := g_bytes_0 c00
        have hz := (hS.2.1 x (by omega) (by omega)).2
        refine ev_iloadn_2 i154_32 ?_
        refine ew_iflt i154_33 (by omega) (fun c33 => ?_) (fun c33 => ?_)
        · refine ew_iconst i154_48 ?_
          refine ev_ireturn i154_49 r154 ?_
          have e : ¬ g_sayOk s x i n := fun r => by have r1 := r.1; have r3 := r.2.2.1; omega
          rw [if_neg (fun r => e r.2.2.1), if_neg (by omega), if_neg (fun r => r c00), if_pos e] at hK
          exact hK I (fr_rfl _ _) hM
        · refine ev_iloadn_2 i154_36 ?_
          refine ev_aloadn_0 i154_37 ?_
          refine ev_getA i154_38 g154_38 rfl rfl (by decide) ?_
          refine ev_iloadn_1 i154_41 ?_
          refine ew_iaload i154_42 rfl (by omega) (by omega) (by omega) (by first | exact hS.2.1 _ (by omega) (by omega) | exact hM.men | exact hM.told | exact hM.road | exact hM.stand _ (by omega) (by omega) | exact hM.reach _ (by omega) (by omega) | exact hM.arm _ (by omega) (by omega) | exact hM.late _ (by omega) (by omega) | exact hM.len _ (by omega) (by omega) | exact hM.corn _ (by omega) (by omega) | exact hM.say (by omega) (by omega) _ (by omega) (by omega) | exact hM.tone _ (by omega) (by omega)) (fun b42 => ?_)
          refine ev_iloadn_3 i154_43 ?_
          refine ew_isub i154_44 ?_
          refine ew_icmple i154_45 (by omega) (fun c45 => ?_) (fun c45 => ?_)
          · refine ew_iconst i154_50 ?_
            refine ev_istore_4 i154_51 rfl ?_
            have loop : ∀ k, 0 ≤ k → k ≤ n → g_tones (s.2.2 x) i k → ts_Ev X (ts_Cal X (d + 3)) 154 ts_S0 K 53 [.ref 72, .int (zI (x)), .int (zI (i)), .int (zI (n)), .int (zI (k))] [] (I, L, ts_P0 sw, ts_S0) := by
              refine ts_ind n (fun k ih k1 k2 k3 => ?_)
              refine ev_iload_4 i154_53 ?_
              refine ev_iloadn_3 i154_55 ?_
              refine ew_icmpge i154_56 (by omega) (fun c56 => ?_) (fun c56 => ?_)
              · obtain rfl : k = n := by omega
                exact mid (by omega) (by omega) (fun _ => ⟨by omega, by omega, by omega, k3⟩) _
              · refine ev_aloadn_0 i154_59 ?_
                refine ev_getA i154_60 g154_60 rfl rfl (by decide) ?_
                refine ew_bipush i154_63 (by decide) ?_
                refine ev_iloadn_1 i154_65 ?_
                refine ew_imul i154_66 ?_
                refine ev_iloadn_2 i154_67 ?_
                refine ew_iadd i154_68 ?_
                refine ev_iload_4 i154_69 ?_
                refine ew_iadd i154_71 ?_
                refine ew_laload i154_72 rfl (by omega) (by omega) (by omega) ((by have e := hS.2.2 x (by omega) (by omega) (i + k) (by omega) (by omega); rw [show 60 * x + (i + k) = 60 * x + i + k from by omega] at e; exact e)) (fun b72 => ?_)
                refine ev_stat1 i154_73 g154_73 (by decide +kernel) (Nat.le_of_ble_eq_true rfl) (m_isTone (by omega) ?_)
                first
                | refine ew_ifneB i154_76 (fun c76 => ?_) (fun c76 => ?_)
                | refine ew_ifne i154_76 (by omega) (fun c76 => ?_) (fun c76 => ?_)
                · refine ew_iinc_4 i154_81 rfl ?_
                  refine ev_goto i154_84 ?_
                  exact ih (by omega) (by omega) (by omega) ((zall_s k1).mpr ⟨k3, c76⟩)
                · refine ew_iconst i154_79 ?_
                  refine ev_ireturn i154_80 r154 ?_
                  have e : ¬ g_sayOk s x i n := fun r => c76 (zall_t.mp r.2.2.2 k k1 (by omega))
                  rw [if_neg (fun r => e r.2.2.1), if_neg (by omega), if_neg (fun r => r c00), if_pos e] at hK
                  exact hK I (fr_rfl _ _) hM
            exact loop 0 (by decide) (by omega) rfl
          · refine ew_iconst i154_48 ?_
            refine ev_ireturn i154_49 r154 ?_
            have e : ¬ g_sayOk s x i n := fun r => by have r1 := r.1; have r3 := r.2.2.1; omega
            rw [if_neg (fun r => e r.2.2.1), if_neg (by omega), if_neg (fun r => r c00), if_pos e] at hK
            exact hK I (fr_rfl _ _) hM
    · refine ew_iconst i154_21 ?_
      refine ev_ireturn i154_22 r154 ?_
      first
      | (have c : n < 1 ∨ 6 < n := by omega
         rw [if_neg (by omega), if_pos c] at hK
         exact hK I (fr_rfl _ _) hM)
      | (by_cases c : n < 1 ∨ 6 < n
         · rw [if_neg (by omega), if_pos c] at hK
           exact hK I (fr_rfl _ _) hM
         · rw [if_neg (by omega), if_neg c, if_pos (by omega)] at hK
           exact zK (hK I (fr_rfl _ _) hM) (by omega))
theorem RO.saying (hO : RO f) (b1 : 0 ≤ f_told f) {x i n : Int} : RO (g_sayF s f x i n) := by
  unfold g_sayF
  split
  · rename_i c
    refine ⟨hO.1, fun t h0 h1 => ?_⟩
    have h2 : t < f_told f + 1 := h1
    show 1 ≤ zu (f_len f) (f_told f) n t
    by_cases e : t = f_told f
    · subst e
      rw [zu_e]
      exact c.1.1
    · rw [zu_n e]
      exact hO.2 t h0 (by omega)
  · exact hO
end SAY
