theorem i217_0 : ts_ins 217 0 = some (.iload_n 1, 1, 0) := by decide +kernel
theorem i217_1 : ts_ins 217 1 = some (.i2l, 2, 0) := by decide +kernel
theorem i217_2 : ts_ins 217 2 = some (.lconst 0, 3, 0) := by decide +kernel
theorem i217_3 : ts_ins 217 3 = some (.aload_n 0, 4, 0) := by decide +kernel
theorem i217_4 : ts_ins 217 4 = some (.getfield 294, 7, 0) := by decide +kernel
theorem g217_4 : ts_fm 217 294 = some (12, 32, 0) := by decide +kernel
theorem i217_7 : ts_ins 217 7 = some (.iconst 1, 8, 0) := by decide +kernel
theorem i217_8 : ts_ins 217 8 = some (.isub, 9, 0) := by decide +kernel
theorem i217_9 : ts_ins 217 9 = some (.i2l, 10, 0) := by decide +kernel
theorem i217_10 : ts_ins 217 10 = some (.invokestatic 95, 13, 0) := by decide +kernel
theorem g217_10 : ts_cal (ts_mc 217) 95 = some (1, 143, 3) := by decide +kernel
theorem i217_13 : ts_ins 217 13 = some (.ireturn, 14, 0) := by decide +kernel
theorem r217 : ts_rt 217 = ((some .boolean), 0, 0) := by decide +kernel
theorem l217 : ts_ml 217 = 2 := by decide +kernel
theorem i229_0 : ts_ins 229 0 = some (.iload_n 1, 1, 0) := by decide +kernel
theorem i229_1 : ts_ins 229 1 = some (.invokestatic 111, 4, 0) := by decide +kernel
theorem g229_1 : ts_cal (ts_mc 229) 111 = some (1, 228, 1) := by decide +kernel
theorem i229_4 : ts_ins 229 4 = some (.ifCond .eq 16, 7, 20) := by decide +kernel
theorem i229_7 : ts_ins 229 7 = some (.iload_n 2, 8, 0) := by decide +kernel
theorem i229_8 : ts_ins 229 8 = some (.iconst (-1), 9, 0) := by decide +kernel
theorem i229_9 : ts_ins 229 9 = some (.if_icmp .eq 13, 12, 22) := by decide +kernel
theorem i229_12 : ts_ins 229 12 = some (.aload_n 0, 13, 0) := by decide +kernel
theorem i229_13 : ts_ins 229 13 = some (.iload_n 2, 14, 0) := by decide +kernel
theorem i229_14 : ts_ins 229 14 = some (.invokevirtual 321, 17, 0) := by decide +kernel
theorem g229_14 : ts_cal (ts_mc 229) 321 = some (0, 217, 1) := by decide +kernel
theorem i229_17 : ts_ins 229 17 = some (.ifCond .ne 5, 20, 22) := by decide +kernel
theorem i229_20 : ts_ins 229 20 = some (.iconst (-1), 21, 0) := by decide +kernel
theorem i229_21 : ts_ins 229 21 = some (.ireturn, 22, 0) := by decide +kernel
theorem i229_22 : ts_ins 229 22 = some (.aload_n 0, 23, 0) := by decide +kernel
theorem i229_23 : ts_ins 229 23 = some (.getfield 70, 26, 0) := by decide +kernel
theorem g229_23 : ts_fm 229 70 = some (12, 38, 2) := by decide +kernel
theorem i229_26 : ts_ins 229 26 = some (.iload_n 1, 27, 0) := by decide +kernel
theorem i229_27 : ts_ins 229 27 = some (.iload_n 2, 28, 0) := by decide +kernel
theorem i229_28 : ts_ins 229 28 = some (.iastore, 29, 0) := by decide +kernel
theorem i229_29 : ts_ins 229 29 = some (.aload_n 0, 30, 0) := by decide +kernel
theorem i229_30 : ts_ins 229 30 = some (.getfield 73, 33, 0) := by decide +kernel
theorem g229_30 : ts_fm 229 73 = some (12, 39, 2) := by decide +kernel
theorem i229_33 : ts_ins 229 33 = some (.iload_n 1, 34, 0) := by decide +kernel
theorem i229_34 : ts_ins 229 34 = some (.iconst 0, 35, 0) := by decide +kernel
theorem i229_35 : ts_ins 229 35 = some (.iastore, 36, 0) := by decide +kernel
theorem i229_36 : ts_ins 229 36 = some (.iconst 1, 37, 0) := by decide +kernel
theorem i229_37 : ts_ins 229 37 = some (.ireturn, 38, 0) := by decide +kernel
theorem r229 : ts_rt 229 = ((some .int), 0, 0) := by decide +kernel
theorem l229 : ts_ml 229 = 3 := by decide +kernel
theorem i230_0 : ts_ins 230 0 = some (.iload_n 1, 1, 0) := by decide +kernel
theorem i230_1 : ts_ins 230 1 = some (.invokestatic 111, 4, 0) := by decide +kernel
theorem g230_1 : ts_cal (ts_mc 230) 111 = some (1, 228, 1) := by decide +kernel
theorem i230_4 : ts_ins 230 4 = some (.ifCond .eq 21, 7, 25) := by decide +kernel
theorem i230_7 : ts_ins 230 7 = some (.iload_n 2, 8, 0) := by decide +kernel
theorem i230_8 : ts_ins 230 8 = some (.i2l, 9, 0) := by decide +kernel
theorem i230_9 : ts_ins 230 9 = some (.lconst 0, 10, 0) := by decide +kernel
theorem i230_10 : ts_ins 230 10 = some (.ldc2_w 220, 13, 0) := by decide +kernel
theorem g230_10 : ts_lc (ts_mc 230) 220 = some (.long (4)) := by decide +kernel
theorem i230_13 : ts_ins 230 13 = some (.invokestatic 95, 16, 0) := by decide +kernel
theorem g230_13 : ts_cal (ts_mc 230) 95 = some (1, 143, 3) := by decide +kernel
theorem i230_16 : ts_ins 230 16 = some (.ifCond .eq 9, 19, 25) := by decide +kernel
theorem i230_19 : ts_ins 230 19 = some (.iload_n 3, 20, 0) := by decide +kernel
theorem i230_20 : ts_ins 230 20 = some (.bipush 60, 22, 0) := by decide +kernel
theorem i230_22 : ts_ins 230 22 = some (.if_icmp .le 5, 25, 27) := by decide +kernel
theorem i230_25 : ts_ins 230 25 = some (.iconst (-1), 26, 0) := by decide +kernel
theorem i230_26 : ts_ins 230 26 = some (.ireturn, 27, 0) := by decide +kernel
theorem i230_27 : ts_ins 230 27 = some (.iload_n 3, 28, 0) := by decide +kernel
theorem i230_28 : ts_ins 230 28 = some (.ifCond .ge 6, 31, 34) := by decide +kernel
theorem i230_31 : ts_ins 230 31 = some (.bipush (-14), 33, 0) := by decide +kernel
theorem i230_33 : ts_ins 230 33 = some (.ireturn, 34, 0) := by decide +kernel
theorem i230_34 : ts_ins 230 34 = some (.aload_n 0, 35, 0) := by decide +kernel
theorem i230_35 : ts_ins 230 35 = some (.getfield 70, 38, 0) := by decide +kernel
theorem g230_35 : ts_fm 230 70 = some (12, 38, 2) := by decide +kernel
theorem i230_38 : ts_ins 230 38 = some (.iload_n 1, 39, 0) := by decide +kernel
theorem i230_39 : ts_ins 230 39 = some (.bipush 50, 41, 0) := by decide +kernel
theorem i230_41 : ts_ins 230 41 = some (.iload_n 2, 42, 0) := by decide +kernel
theorem i230_42 : ts_ins 230 42 = some (.iadd, 43, 0) := by decide +kernel
theorem i230_43 : ts_ins 230 43 = some (.iastore, 44, 0) := by decide +kernel
theorem i230_44 : ts_ins 230 44 = some (.aload_n 0, 45, 0) := by decide +kernel
theorem i230_45 : ts_ins 230 45 = some (.getfield 73, 48, 0) := by decide +kernel
theorem g230_45 : ts_fm 230 73 = some (12, 39, 2) := by decide +kernel
theorem i230_48 : ts_ins 230 48 = some (.iload_n 1, 49, 0) := by decide +kernel
theorem i230_49 : ts_ins 230 49 = some (.iload_n 3, 50, 0) := by decide +kernel
theorem i230_50 : ts_ins 230 50 = some (.iastore, 51, 0) := by decide +kernel
theorem i230_51 : ts_ins 230 51 = some (.bipush 60, 53, 0) := by decide +kernel
theorem i230_53 : ts_ins 230 53 = some (.iload_n 1, 54, 0) := by decide +kernel
theorem i230_54 : ts_ins 230 54 = some (.imul, 55, 0) := by decide +kernel
theorem i230_55 : ts_ins 230 55 = some (.istore 4, 57, 0) := by decide +kernel
theorem i230_57 : ts_ins 230 57 = some (.iload 4, 59, 0) := by decide +kernel
theorem i230_59 : ts_ins 230 59 = some (.bipush 60, 61, 0) := by decide +kernel
theorem i230_61 : ts_ins 230 61 = some (.iload_n 1, 62, 0) := by decide +kernel
theorem i230_62 : ts_ins 230 62 = some (.imul, 63, 0) := by decide +kernel
theorem i230_63 : ts_ins 230 63 = some (.bipush 60, 65, 0) := by decide +kernel
theorem i230_65 : ts_ins 230 65 = some (.iadd, 66, 0) := by decide +kernel
theorem i230_66 : ts_ins 230 66 = some (.if_icmp .ge 17, 69, 83) := by decide +kernel
theorem i230_69 : ts_ins 230 69 = some (.aload_n 0, 70, 0) := by decide +kernel
theorem i230_70 : ts_ins 230 70 = some (.getfield 76, 73, 0) := by decide +kernel
theorem g230_70 : ts_fm 230 76 = some (12, 40, 2) := by decide +kernel
theorem i230_73 : ts_ins 230 73 = some (.iload 4, 75, 0) := by decide +kernel
theorem i230_75 : ts_ins 230 75 = some (.lconst 0, 76, 0) := by decide +kernel
theorem i230_76 : ts_ins 230 76 = some (.lastore, 77, 0) := by decide +kernel
theorem i230_77 : ts_ins 230 77 = some (.iinc 4 1, 80, 0) := by decide +kernel
theorem i230_80 : ts_ins 230 80 = some (.goto (-23), 83, 57) := by decide +kernel
theorem i230_83 : ts_ins 230 83 = some (.iconst 1, 84, 0) := by decide +kernel
theorem i230_84 : ts_ins 230 84 = some (.ireturn, 85, 0) := by decide +kernel
theorem r230 : ts_rt 230 = ((some .int), 0, 0) := by decide +kernel
theorem l230 : ts_ml 230 = 5 := by decide +kernel
theorem i232_0 : ts_ins 232 0 = some (.iload_n 0, 1, 0) := by decide +kernel
theorem i232_1 : ts_ins 232 1 = some (.ifCond .ne 10, 4, 11) := by decide +kernel
theorem i232_4 : ts_ins 232 4 = some (.lload_n 1, 5, 0) := by decide +kernel
theorem i232_5 : ts_ins 232 5 = some (.l2i, 6, 0) := by decide +kernel
theorem i232_6 : ts_ins 232 6 = some (.i2b, 7, 0) := by decide +kernel
theorem i232_7 : ts_ins 232 7 = some (.i2l, 8, 0) := by decide +kernel
theorem i232_8 : ts_ins 232 8 = some (.goto 46, 11, 54) := by decide +kernel
theorem i232_11 : ts_ins 232 11 = some (.iload_n 0, 12, 0) := by decide +kernel
theorem i232_12 : ts_ins 232 12 = some (.iconst 1, 13, 0) := by decide +kernel
theorem i232_13 : ts_ins 232 13 = some (.if_icmp .ne 10, 16, 23) := by decide +kernel
theorem i232_16 : ts_ins 232 16 = some (.lload_n 1, 17, 0) := by decide +kernel
theorem i232_17 : ts_ins 232 17 = some (.l2i, 18, 0) := by decide +kernel
theorem i232_18 : ts_ins 232 18 = some (.i2s, 19, 0) := by decide +kernel
theorem i232_19 : ts_ins 232 19 = some (.i2l, 20, 0) := by decide +kernel
theorem i232_20 : ts_ins 232 20 = some (.goto 34, 23, 54) := by decide +kernel
theorem i232_23 : ts_ins 232 23 = some (.iload_n 0, 24, 0) := by decide +kernel
theorem i232_24 : ts_ins 232 24 = some (.iconst 2, 25, 0) := by decide +kernel
theorem i232_25 : ts_ins 232 25 = some (.if_icmp .ne 9, 28, 34) := by decide +kernel
theorem i232_28 : ts_ins 232 28 = some (.lload_n 1, 29, 0) := by decide +kernel
theorem i232_29 : ts_ins 232 29 = some (.l2i, 30, 0) := by decide +kernel
theorem i232_30 : ts_ins 232 30 = some (.i2l, 31, 0) := by decide +kernel
theorem i232_31 : ts_ins 232 31 = some (.goto 23, 34, 54) := by decide +kernel
theorem i232_34 : ts_ins 232 34 = some (.iload_n 0, 35, 0) := by decide +kernel
theorem i232_35 : ts_ins 232 35 = some (.iconst 4, 36, 0) := by decide +kernel
theorem i232_36 : ts_ins 232 36 = some (.if_icmp .ne 17, 39, 53) := by decide +kernel
theorem i232_39 : ts_ins 232 39 = some (.lload_n 1, 40, 0) := by decide +kernel
theorem i232_40 : ts_ins 232 40 = some (.lconst 0, 41, 0) := by decide +kernel
theorem i232_41 : ts_ins 232 41 = some (.lcmp, 42, 0) := by decide +kernel
theorem i232_42 : ts_ins 232 42 = some (.ifCond .eq 7, 45, 49) := by decide +kernel
theorem i232_45 : ts_ins 232 45 = some (.lconst 1, 46, 0) := by decide +kernel
theorem i232_46 : ts_ins 232 46 = some (.goto 8, 49, 54) := by decide +kernel
theorem i232_49 : ts_ins 232 49 = some (.lconst 0, 50, 0) := by decide +kernel
theorem i232_50 : ts_ins 232 50 = some (.goto 4, 53, 54) := by decide +kernel
theorem i232_53 : ts_ins 232 53 = some (.lload_n 1, 54, 0) := by decide +kernel
theorem i232_54 : ts_ins 232 54 = some (.lreturn, 55, 0) := by decide +kernel
theorem r232 : ts_rt 232 = ((some .long), 0, 0) := by decide +kernel
theorem l232 : ts_ml 232 = 3 := by decide +kernel
theorem i233_0 : ts_ins 233 0 = some (.aload_n 0, 1, 0) := by decide +kernel
theorem i233_1 : ts_ins 233 1 = some (.iload_n 1, 2, 0) := by decide +kernel
theorem i233_2 : ts_ins 233 2 = some (.iload_n 2, 3, 0) := by decide +kernel
theorem i233_3 : ts_ins 233 3 = some (.invokevirtual 324, 6, 0) := by decide +kernel
theorem g233_3 : ts_cal (ts_mc 233) 324 = some (0, 231, 2) := by decide +kernel
theorem i233_6 : ts_ins 233 6 = some (.istore 5, 8, 0) := by decide +kernel
theorem i233_8 : ts_ins 233 8 = some (.iload 5, 10, 0) := by decide +kernel
theorem i233_10 : ts_ins 233 10 = some (.ifCond .ne 27, 13, 37) := by decide +kernel
theorem i233_13 : ts_ins 233 13 = some (.aload_n 0, 14, 0) := by decide +kernel
theorem i233_14 : ts_ins 233 14 = some (.getfield 76, 17, 0) := by decide +kernel
theorem g233_14 : ts_fm 233 76 = some (12, 40, 2) := by decide +kernel
theorem i233_17 : ts_ins 233 17 = some (.bipush 60, 19, 0) := by decide +kernel
theorem i233_19 : ts_ins 233 19 = some (.iload_n 1, 20, 0) := by decide +kernel
theorem i233_20 : ts_ins 233 20 = some (.imul, 21, 0) := by decide +kernel
theorem i233_21 : ts_ins 233 21 = some (.iload_n 2, 22, 0) := by decide +kernel
theorem i233_22 : ts_ins 233 22 = some (.iadd, 23, 0) := by decide +kernel
theorem i233_23 : ts_ins 233 23 = some (.aload_n 0, 24, 0) := by decide +kernel
theorem i233_24 : ts_ins 233 24 = some (.getfield 70, 27, 0) := by decide +kernel
theorem g233_24 : ts_fm 233 70 = some (12, 38, 2) := by decide +kernel
theorem i233_27 : ts_ins 233 27 = some (.iload_n 1, 28, 0) := by decide +kernel
theorem i233_28 : ts_ins 233 28 = some (.iaload, 29, 0) := by decide +kernel
theorem i233_29 : ts_ins 233 29 = some (.bipush 50, 31, 0) := by decide +kernel
theorem i233_31 : ts_ins 233 31 = some (.isub, 32, 0) := by decide +kernel
theorem i233_32 : ts_ins 233 32 = some (.lload_n 3, 33, 0) := by decide +kernel
theorem i233_33 : ts_ins 233 33 = some (.invokestatic 327, 36, 0) := by decide +kernel
theorem g233_33 : ts_cal (ts_mc 233) 327 = some (1, 232, 2) := by decide +kernel
theorem i233_36 : ts_ins 233 36 = some (.lastore, 37, 0) := by decide +kernel
theorem i233_37 : ts_ins 233 37 = some (.iload 5, 39, 0) := by decide +kernel
theorem i233_39 : ts_ins 233 39 = some (.ifCond .ne 7, 42, 46) := by decide +kernel
theorem i233_42 : ts_ins 233 42 = some (.iconst 1, 43, 0) := by decide +kernel
theorem i233_43 : ts_ins 233 43 = some (.goto 5, 46, 48) := by decide +kernel
theorem i233_46 : ts_ins 233 46 = some (.iload 5, 48, 0) := by decide +kernel
theorem i233_48 : ts_ins 233 48 = some (.ireturn, 49, 0) := by decide +kernel
theorem r233 : ts_rt 233 = ((some .int), 0, 0) := by decide +kernel
theorem l233 : ts_ml 233 = 6 := by decide +kernel
theorem i235_0 : ts_ins 235 0 = some (.iload_n 1, 1, 0) := by decide +kernel
theorem i235_1 : ts_ins 235 1 = some (.invokestatic 111, 4, 0) := by decide +kernel
theorem g235_1 : ts_cal (ts_mc 235) 111 = some (1, 228, 1) := by decide +kernel
theorem i235_4 : ts_ins 235 4 = some (.ifCond .eq 10, 7, 14) := by decide +kernel
theorem i235_7 : ts_ins 235 7 = some (.iload_n 3, 8, 0) := by decide +kernel
theorem i235_8 : ts_ins 235 8 = some (.invokestatic 111, 11, 0) := by decide +kernel
theorem g235_8 : ts_cal (ts_mc 235) 111 = some (1, 228, 1) := by decide +kernel
theorem i235_11 : ts_ins 235 11 = some (.ifCond .ne 5, 14, 16) := by decide +kernel
theorem i235_14 : ts_ins 235 14 = some (.iconst (-1), 15, 0) := by decide +kernel
theorem i235_15 : ts_ins 235 15 = some (.ireturn, 16, 0) := by decide +kernel
theorem i235_16 : ts_ins 235 16 = some (.aload_n 0, 17, 0) := by decide +kernel
theorem i235_17 : ts_ins 235 17 = some (.getfield 70, 20, 0) := by decide +kernel
theorem g235_17 : ts_fm 235 70 = some (12, 38, 2) := by decide +kernel
theorem i235_20 : ts_ins 235 20 = some (.iload_n 1, 21, 0) := by decide +kernel
theorem i235_21 : ts_ins 235 21 = some (.iaload, 22, 0) := by decide +kernel
theorem i235_22 : ts_ins 235 22 = some (.ifCond .lt 12, 25, 34) := by decide +kernel
theorem i235_25 : ts_ins 235 25 = some (.aload_n 0, 26, 0) := by decide +kernel
theorem i235_26 : ts_ins 235 26 = some (.getfield 70, 29, 0) := by decide +kernel
theorem g235_26 : ts_fm 235 70 = some (12, 38, 2) := by decide +kernel
theorem i235_29 : ts_ins 235 29 = some (.iload_n 3, 30, 0) := by decide +kernel
theorem i235_30 : ts_ins 235 30 = some (.iaload, 31, 0) := by decide +kernel
theorem i235_31 : ts_ins 235 31 = some (.ifCond .ge 6, 34, 37) := by decide +kernel
theorem i235_34 : ts_ins 235 34 = some (.bipush (-11), 36, 0) := by decide +kernel
theorem i235_36 : ts_ins 235 36 = some (.ireturn, 37, 0) := by decide +kernel
theorem i235_37 : ts_ins 235 37 = some (.aload_n 0, 38, 0) := by decide +kernel
theorem i235_38 : ts_ins 235 38 = some (.getfield 70, 41, 0) := by decide +kernel
theorem g235_38 : ts_fm 235 70 = some (12, 38, 2) := by decide +kernel
theorem i235_41 : ts_ins 235 41 = some (.iload_n 1, 42, 0) := by decide +kernel
theorem i235_42 : ts_ins 235 42 = some (.iaload, 43, 0) := by decide +kernel
theorem i235_43 : ts_ins 235 43 = some (.bipush 50, 45, 0) := by decide +kernel
theorem i235_45 : ts_ins 235 45 = some (.if_icmp .lt 18, 48, 63) := by decide +kernel
theorem i235_48 : ts_ins 235 48 = some (.aload_n 0, 49, 0) := by decide +kernel
theorem i235_49 : ts_ins 235 49 = some (.getfield 70, 52, 0) := by decide +kernel
theorem g235_49 : ts_fm 235 70 = some (12, 38, 2) := by decide +kernel
theorem i235_52 : ts_ins 235 52 = some (.iload_n 1, 53, 0) := by decide +kernel
theorem i235_53 : ts_ins 235 53 = some (.iaload, 54, 0) := by decide +kernel
theorem i235_54 : ts_ins 235 54 = some (.aload_n 0, 55, 0) := by decide +kernel
theorem i235_55 : ts_ins 235 55 = some (.getfield 70, 58, 0) := by decide +kernel
theorem g235_55 : ts_fm 235 70 = some (12, 38, 2) := by decide +kernel
theorem i235_58 : ts_ins 235 58 = some (.iload_n 3, 59, 0) := by decide +kernel
theorem i235_59 : ts_ins 235 59 = some (.iaload, 60, 0) := by decide +kernel
theorem i235_60 : ts_ins 235 60 = some (.if_icmp .eq 6, 63, 66) := by decide +kernel
theorem i235_63 : ts_ins 235 63 = some (.bipush (-12), 65, 0) := by decide +kernel
theorem i235_65 : ts_ins 235 65 = some (.ireturn, 66, 0) := by decide +kernel
theorem i235_66 : ts_ins 235 66 = some (.iload 5, 68, 0) := by decide +kernel
theorem i235_68 : ts_ins 235 68 = some (.ifCond .lt 39, 71, 107) := by decide +kernel
theorem i235_71 : ts_ins 235 71 = some (.iload_n 2, 72, 0) := by decide +kernel
theorem i235_72 : ts_ins 235 72 = some (.ifCond .lt 35, 75, 107) := by decide +kernel
theorem i235_75 : ts_ins 235 75 = some (.iload 4, 77, 0) := by decide +kernel
theorem i235_77 : ts_ins 235 77 = some (.ifCond .lt 30, 80, 107) := by decide +kernel
theorem i235_80 : ts_ins 235 80 = some (.iload_n 2, 81, 0) := by decide +kernel
theorem i235_81 : ts_ins 235 81 = some (.aload_n 0, 82, 0) := by decide +kernel
theorem i235_82 : ts_ins 235 82 = some (.getfield 73, 85, 0) := by decide +kernel
theorem g235_82 : ts_fm 235 73 = some (12, 39, 2) := by decide +kernel
theorem i235_85 : ts_ins 235 85 = some (.iload_n 1, 86, 0) := by decide +kernel
theorem i235_86 : ts_ins 235 86 = some (.iaload, 87, 0) := by decide +kernel
theorem i235_87 : ts_ins 235 87 = some (.iload 5, 89, 0) := by decide +kernel
theorem i235_89 : ts_ins 235 89 = some (.isub, 90, 0) := by decide +kernel
theorem i235_90 : ts_ins 235 90 = some (.if_icmp .gt 17, 93, 107) := by decide +kernel
theorem i235_93 : ts_ins 235 93 = some (.iload 4, 95, 0) := by decide +kernel
theorem i235_95 : ts_ins 235 95 = some (.aload_n 0, 96, 0) := by decide +kernel
theorem i235_96 : ts_ins 235 96 = some (.getfield 73, 99, 0) := by decide +kernel
theorem g235_96 : ts_fm 235 73 = some (12, 39, 2) := by decide +kernel
theorem i235_99 : ts_ins 235 99 = some (.iload_n 3, 100, 0) := by decide +kernel
theorem i235_100 : ts_ins 235 100 = some (.iaload, 101, 0) := by decide +kernel
theorem i235_101 : ts_ins 235 101 = some (.iload 5, 103, 0) := by decide +kernel
theorem i235_103 : ts_ins 235 103 = some (.isub, 104, 0) := by decide +kernel
theorem i235_104 : ts_ins 235 104 = some (.if_icmp .le 6, 107, 110) := by decide +kernel
theorem i235_107 : ts_ins 235 107 = some (.bipush (-13), 109, 0) := by decide +kernel
theorem i235_109 : ts_ins 235 109 = some (.ireturn, 110, 0) := by decide +kernel
theorem i235_110 : ts_ins 235 110 = some (.iconst 0, 111, 0) := by decide +kernel
theorem i235_111 : ts_ins 235 111 = some (.istore 6, 113, 0) := by decide +kernel
theorem i235_113 : ts_ins 235 113 = some (.iload 6, 115, 0) := by decide +kernel
theorem i235_115 : ts_ins 235 115 = some (.iload 5, 117, 0) := by decide +kernel
theorem i235_117 : ts_ins 235 117 = some (.if_icmp .ge 30, 120, 147) := by decide +kernel
theorem i235_120 : ts_ins 235 120 = some (.aload_n 0, 121, 0) := by decide +kernel
theorem i235_121 : ts_ins 235 121 = some (.getfield 80, 124, 0) := by decide +kernel
theorem g235_121 : ts_fm 235 80 = some (12, 41, 2) := by decide +kernel
theorem i235_124 : ts_ins 235 124 = some (.iload 6, 126, 0) := by decide +kernel
theorem i235_126 : ts_ins 235 126 = some (.aload_n 0, 127, 0) := by decide +kernel
theorem i235_127 : ts_ins 235 127 = some (.getfield 76, 130, 0) := by decide +kernel
theorem g235_127 : ts_fm 235 76 = some (12, 40, 2) := by decide +kernel
theorem i235_130 : ts_ins 235 130 = some (.bipush 60, 132, 0) := by decide +kernel
theorem i235_132 : ts_ins 235 132 = some (.iload_n 1, 133, 0) := by decide +kernel
theorem i235_133 : ts_ins 235 133 = some (.imul, 134, 0) := by decide +kernel
theorem i235_134 : ts_ins 235 134 = some (.iload_n 2, 135, 0) := by decide +kernel
theorem i235_135 : ts_ins 235 135 = some (.iadd, 136, 0) := by decide +kernel
theorem i235_136 : ts_ins 235 136 = some (.iload 6, 138, 0) := by decide +kernel
theorem i235_138 : ts_ins 235 138 = some (.iadd, 139, 0) := by decide +kernel
theorem i235_139 : ts_ins 235 139 = some (.laload, 140, 0) := by decide +kernel
theorem i235_140 : ts_ins 235 140 = some (.lastore, 141, 0) := by decide +kernel
theorem i235_141 : ts_ins 235 141 = some (.iinc 6 1, 144, 0) := by decide +kernel
theorem i235_144 : ts_ins 235 144 = some (.goto (-31), 147, 113) := by decide +kernel
theorem i235_147 : ts_ins 235 147 = some (.iconst 0, 148, 0) := by decide +kernel
theorem i235_148 : ts_ins 235 148 = some (.istore 6, 150, 0) := by decide +kernel
theorem i235_150 : ts_ins 235 150 = some (.iload 6, 152, 0) := by decide +kernel
theorem i235_152 : ts_ins 235 152 = some (.iload 5, 154, 0) := by decide +kernel
theorem i235_154 : ts_ins 235 154 = some (.if_icmp .ge 31, 157, 185) := by decide +kernel
theorem i235_157 : ts_ins 235 157 = some (.aload_n 0, 158, 0) := by decide +kernel
theorem i235_158 : ts_ins 235 158 = some (.getfield 76, 161, 0) := by decide +kernel
theorem g235_158 : ts_fm 235 76 = some (12, 40, 2) := by decide +kernel
theorem i235_161 : ts_ins 235 161 = some (.bipush 60, 163, 0) := by decide +kernel
theorem i235_163 : ts_ins 235 163 = some (.iload_n 3, 164, 0) := by decide +kernel
theorem i235_164 : ts_ins 235 164 = some (.imul, 165, 0) := by decide +kernel
theorem i235_165 : ts_ins 235 165 = some (.iload 4, 167, 0) := by decide +kernel
theorem i235_167 : ts_ins 235 167 = some (.iadd, 168, 0) := by decide +kernel
theorem i235_168 : ts_ins 235 168 = some (.iload 6, 170, 0) := by decide +kernel
theorem i235_170 : ts_ins 235 170 = some (.iadd, 171, 0) := by decide +kernel
theorem i235_171 : ts_ins 235 171 = some (.aload_n 0, 172, 0) := by decide +kernel
theorem i235_172 : ts_ins 235 172 = some (.getfield 80, 175, 0) := by decide +kernel
theorem g235_172 : ts_fm 235 80 = some (12, 41, 2) := by decide +kernel
theorem i235_175 : ts_ins 235 175 = some (.iload 6, 177, 0) := by decide +kernel
theorem i235_177 : ts_ins 235 177 = some (.laload, 178, 0) := by decide +kernel
theorem i235_178 : ts_ins 235 178 = some (.lastore, 179, 0) := by decide +kernel
theorem i235_179 : ts_ins 235 179 = some (.iinc 6 1, 182, 0) := by decide +kernel
theorem i235_182 : ts_ins 235 182 = some (.goto (-32), 185, 150) := by decide +kernel
theorem i235_185 : ts_ins 235 185 = some (.iload 5, 187, 0) := by decide +kernel
theorem i235_187 : ts_ins 235 187 = some (.ireturn, 188, 0) := by decide +kernel
theorem r235 : ts_rt 235 = ((some .int), 0, 0) := by decide +kernel
theorem l235 : ts_ml 235 = 7 := by decide +kernel
/-! ROWS in the reference -/
section RO2
variable {X : ts_X} {I J : Nat → Nat → Int32} {L M : Nat → Nat → Int64} {sw : Bool} {K : Option Value → ts_H → Prop} {d : Nat} {s : ts_Sh} {b : ts_Bo}
abbrev IT (L : Nat → Nat → Int64) (it : Int → Int → Int) : Prop := ∀ q : Int, 0 ≤ q → q < 6 → ∀ k : Int, 0 ≤ k → k < 60 → rl (L 95 (60 * q + k).toNat) (-9223372036854775808) 9223372036854775807 (it q k)
theorem IT.up {it : Int → Int → Int} (h : IT L it) {x k v : Int} (hx : 0 ≤ x ∧ x < 6) (hk : 0 ≤ k ∧ k < 60) (hv : -9223372036854775808 ≤ v ∧ v ≤ 9223372036854775807) : IT (ts_up L 95 (60 * x + k).toNat (zL v)) (fun e k' => if e = x ∧ k' = k then v else it e k') := by
  intro e h0 h1 k' k0 k1
  show rl _ _ _ (if e = x ∧ k' = k then v else it e k')
  by_cases c : e = x ∧ k' = k
  · rw [if_pos c, c.1, c.2, ts_up_e]
    exact rl_zL hv
  · rw [if_neg c, ts_up_nj (by omega)]
    exact h e h0 h1 k' k0 k1
theorem m_isBody (hB : RMb I b) {x : Int} (hx : -2147483648 ≤ x ∧ x ≤ 2147483647) (hK : K (some (.int (zI (if 0 ≤ x ∧ x < b.1 then 1 else 0)))) (I, L, ts_P0 sw, ts_S0)) : ts_Cal X (d + 2) 217 [.ref 72, .int (zI (x))] (I, L, ts_P0 sw, ts_S0) K := by
  have b1 := hB.1.2
  refine ev_enter (lv := [.ref 72, .int (zI (x))]) l217 rfl (Nat.le_of_ble_eq_true rfl) ?_
  refine ev_iloadn_1 i217_0 ?_
  refine ew_i2l i217_1 (by omega) ?_
  refine ew_lconst (z := 0) i217_2 (by decide) ?_
  refine ev_aloadn_0 i217_3 ?_
  refine ew_getI i217_4 g217_4 rfl (by first | exact hB.1 | exact hM.men | exact hM.told | exact hM.road | exact hM.stand _ (by omega) (by omega) | exact hM.reach _ (by omega) (by omega) | exact hM.arm _ (by omega) (by omega) | exact hM.late _ (by omega) (by omega) | exact hM.len _ (by omega) (by omega) | exact hM.corn _ (by omega) (by omega) | exact hM.say (by omega) (by omega) _ (by omega) (by omega) | exact hM.tone _ (by omega) (by omega)) (fun b4 => ?_)
  refine ew_iconst i217_7 ?_
  refine ew_isub i217_8 ?_
  refine ew_i2l i217_9 (by omega) ?_
  refine ev_stat3 i217_10 g217_10 (by decide +kernel) (Nat.le_of_ble_eq_true rfl) (m_within (by omega) (by omega) (by omega) ?_)
  exact ew_zreturn i217_13 r217 (by omega) hK
theorem m_keep (hS : RMs I L s) (hB : RMb I b) {x w : Int} (hx : -2147483648 ≤ x ∧ x ≤ 2147483647) (hw : -2147483648 ≤ w ∧ w ≤ 2147483647) (hK : ∀ J, fr fsm I J → RMs J L (g_keep s b.1 x w) → K (some (.int (zI (if 0 ≤ x ∧ x < 6 ∧ -1 ≤ w ∧ w < b.1 then 1 else -1)))) (J, L, ts_P0 sw, ts_S0)) : ts_Cal X (d + 3) 229 [.ref 72, .int (zI (x)), .int (zI (w))] (I, L, ts_P0 sw, ts_S0) K := by
  have b1 := hB.1.2
  unfold g_keep at hK
  refine ev_enter (lv := [.ref 72, .int (zI (x)), .int (zI (w))]) l229 rfl (Nat.le_of_ble_eq_true rfl) ?_
  refine ev_iloadn_1 i229_0 ?_
  refine ev_stat1 i229_1 g229_1 (by decide +kernel) (Nat.le_of_ble_eq_true rfl) (m_isShelf hx ?_)
  first
  | refine ew_ifeqB i229_4 (fun c4 => ?_) (fun c4 => ?_)
  | refine ew_ifeq i229_4 (by omega) (fun c4 => ?_) (fun c4 => ?_)
  · refine ew_iconst i229_20 ?_
    refine ev_ireturn i229_21 r229 ?_
    rw [if_neg (by omega), if_neg (by omega)] at hK
    exact hK I (fr_rfl _ _) hS
  · refine ev_iloadn_2 i229_7 ?_
    refine ew_iconst i229_8 ?_
    refine ew_icmpeq i229_9 (by omega) (fun c9 => ?_) (fun c9 => ?_)
    · refine ev_aloadn_0 i229_22 ?_
      refine ev_getA i229_23 g229_23 rfl rfl (by decide) ?_
      refine ev_iloadn_1 i229_26 ?_
      refine ev_iloadn_2 i229_27 ?_
      refine ew_iastore i229_28 rfl (by omega) (by omega) (by omega) ?_
      refine ev_aloadn_0 i229_29 ?_
      refine ev_getA i229_30 g229_30 rfl rfl (by decide) ?_
      refine ev_iloadn_1 i229_33 ?_
      refine ew_iconst i229_34 ?_
      refine ew_iastore i229_35 rfl (by omega) (by omega) (by omega) ?_
      refine ew_iconst i229_36 ?_
      refine ev_ireturn i229_37 r229 ?_
      rw [if_pos (by omega), if_pos (by omega)] at hK
      exact hK _ (fr_up (fr_up (fr_rfl _ _) (by omega)) (by omega)) ⟨ar_up hS.1 (by omega) (by omega), ar_up hS.2.1 (by omega) (by omega), hS.2.2⟩
    · refine ev_aloadn_0 i229_12 ?_
      refine ev_iloadn_2 i229_13 ?_
      refine ev_virt1 i229_14 g229_14 rfl (by decide +kernel) (Nat.le_of_ble_eq_true rfl) (m_isBody hB hw ?_)
      first
      | refine ew_ifneB i229_17 (fun c17 => ?_) (fun c17 => ?_)
      | refine ew_ifne i229_17 (by omega) (fun c17 => ?_) (fun c17 => ?_)
      · refine ev_aloadn_0 i229_22 ?_
        refine ev_getA i229_23 g229_23 rfl rfl (by decide) ?_
        refine ev_iloadn_1 i229_26 ?_
        refine ev_iloadn_2 i229_27 ?_
        refine ew_iastore i229_28 rfl (by omega) (by omega) (by omega) ?_
        refine ev_aloadn_0 i229_29 ?_
        refine ev_getA i229_30 g229_30 rfl rfl (by decide) ?_
        refine ev_iloadn_1 i229_33 ?_
        refine ew_iconst i229_34 ?_
        refine ew_iastore i229_35 rfl (by omega) (by omega) (by omega) ?_
        refine ew_iconst i229_36 ?_
        refine ev_ireturn i229_37 r229 ?_
        rw [if_pos (by omega), if_pos (by omega)] at hK
        exact hK _ (fr_up (fr_up (fr_rfl _ _) (by omega)) (by omega)) ⟨ar_up hS.1 (by omega) (by omega), ar_up hS.2.1 (by omega) (by omega), hS.2.2⟩
      · refine ew_iconst i229_20 ?_
        refine ev_ireturn i229_21 r229 ?_
        rw [if_neg (by omega), if_neg (by omega)] at hK
        exact hK I (fr_rfl _ _) hS
theorem m_row (hS : RMs I L s) {x so n : Int} (hx : -2147483648 ≤ x ∧ x ≤ 2147483647) (hs : -2147483648 ≤ so ∧ so ≤ 2147483647) (hn : -2147483648 ≤ n ∧ n ≤ 2147483647) (hK : ∀ J M, fr fsm I J → fr fsm L M → RMs J M (g_rowS s x so n) → K (some (.int (zI (g_rowA x so n)))) (J, M, ts_P0 sw, ts_S0)) : ts_Cal X (d + 3) 230 [.ref 72, .int (zI (x)), .int (zI (so)), .int (zI (n))] (I, L, ts_P0 sw, ts_S0) K := by
  unfold g_rowS g_rowA at hK
  refine ev_enter (lv := [.ref 72, .int (zI (x)), .int (zI (so)), .int (zI (n)), .null]) l230 rfl (Nat.le_of_ble_eq_true rfl) ?_
  refine ev_iloadn_1 i230_0 ?_
  refine ev_stat1 i230_1 g230_1 (by decide +kernel) (Nat.le_of_ble_eq_true rfl) (m_isShelf hx ?_)
  first
  | refine ew_ifeqB i230_4 (fun c4 => ?_) (fun c4 => ?_)
  | refine ew_ifeq i230_4 (by omega) (fun c4 => ?_) (fun c4 => ?_)
  · refine ew_iconst i230_25 ?_
    refine ev_ireturn i230_26 r230 ?_
    rw [if_neg (by omega), if_pos (by omega)] at hK
    exact hK I L (fr_rfl _ _) (fr_rfl _ _) hS
  · refine ev_iloadn_2 i230_7 ?_
    refine ew_i2l i230_8 (by omega) ?_
    refine ew_lconst (z := 0) i230_9 (by decide) ?_
    refine ew_ldc2_w (z := (4)) i230_10 g230_10 (by decide) ?_
    refine ev_stat3 i230_13 g230_13 (by decide +kernel) (Nat.le_of_ble_eq_true rfl) (m_within (by omega) (by omega) (by omega) ?_)
    first
    | refine ew_ifeqB i230_16 (fun c16 => ?_) (fun c16 => ?_)
    | refine ew_ifeq i230_16 (by omega) (fun c16 => ?_) (fun c16 => ?_)
    · refine ew_iconst i230_25 ?_
      refine ev_ireturn i230_26 r230 ?_
      rw [if_neg (by omega), if_pos (by omega)] at hK
      exact hK I L (fr_rfl _ _) (fr_rfl _ _) hS
    · refine ev_iloadn_3 i230_19 ?_
      refine ew_bipush i230_20 (by decide) ?_
      refine ew_icmple i230_22 (by omega) (fun c22 => ?_) (fun c22 => ?_)
      · refine ev_iloadn_3 i230_27 ?_
        refine ew_ifge i230_28 (by omega) (fun c28 => ?_) (fun c28 => ?_)
        · rw [if_pos (by omega), if_neg (by omega), if_neg (by omega)] at hK
          refine ev_aloadn_0 i230_34 ?_
          refine ev_getA i230_35 g230_35 rfl rfl (by decide) ?_
          refine ev_iloadn_1 i230_38 ?_
          refine ew_bipush i230_39 (by decide) ?_
          refine ev_iloadn_2 i230_41 ?_
          refine ew_iadd i230_42 ?_
          refine ew_iastore i230_43 rfl (by omega) (by omega) (by omega) ?_
          refine ev_aloadn_0 i230_44 ?_
          refine ev_getA i230_45 g230_45 rfl rfl (by decide) ?_
          refine ev_iloadn_1 i230_48 ?_
          refine ev_iloadn_3 i230_49 ?_
          refine ew_iastore i230_50 rfl (by omega) (by omega) (by omega) ?_
          refine ew_bipush i230_51 (by decide) ?_
          refine ev_iloadn_1 i230_53 ?_
          refine ew_imul i230_54 ?_
          refine ev_istore_4 i230_55 rfl ?_
          have loop : ∀ j : Int, 60 * x ≤ j → j ≤ 60 * x + 60 → ∀ M, fr fsm L M → IT M (fun e k => if e = x ∧ k < j - 60 * x then 0 else s.2.2 e k) → ts_Ev X (ts_Cal X (d + 2)) 230 ts_S0 K 57 [.ref 72, .int (zI (x)), .int (zI (so)), .int (zI (n)), .int (zI (j))] [] (ts_up (ts_up I 93 x.toNat (zI (50 + so))) 94 x.toNat (zI n), M, ts_P0 sw, ts_S0) := by
            refine ts_ind (60 * x + 60) (fun j ih h0 h1 M hM hT => ?_)
            refine ev_iload_4 i230_57 ?_
            refine ew_bipush i230_59 (by decide) ?_
            refine ev_iloadn_1 i230_61 ?_
            refine ew_imul i230_62 ?_
            refine ew_bipush i230_63 (by decide) ?_
            refine ew_iadd i230_65 ?_
            refine ew_icmpge i230_66 (by omega) (fun c66 => ?_) (fun c66 => ?_)
            · refine ew_iconst i230_83 ?_
              refine ev_ireturn i230_84 r230 ?_
              refine hK _ M (fr_up (fr_up (fr_rfl _ _) (by omega)) (by omega)) hM ⟨ar_up hS.1 (by omega) (by omega), ar_up hS.2.1 (by omega) (by omega), fun e h0 h1 k k0 k1 => ?_⟩
              have q := hT e h0 h1 k k0 k1
              have e3 : (if e = x ∧ k < j - 60 * x then 0 else s.2.2 e k) = (if e = x then 0 else s.2.2 e k) := by
                by_cases c : e = x
                · rw [if_pos ⟨c, by omega⟩, if_pos c]
                · rw [if_neg (fun r => c r.1), if_neg c]
              show rl _ _ _ (if e = x then 0 else s.2.2 e k)
              rw [← e3]
              exact q
            · refine ev_aloadn_0 i230_69 ?_
              refine ev_getA i230_70 g230_70 rfl rfl (by decide) ?_
              refine ev_iload_4 i230_73 ?_
              refine ew_lconst (z := 0) i230_75 (by decide) ?_
              refine ew_lastore i230_76 rfl (by omega) (by omega) (by omega) ?_
              refine ew_iinc_4 i230_77 rfl ?_
              refine ev_goto i230_80 ?_
              have e := hT.up (x := x) (k := j - 60 * x) (v := 0) (by omega) (by omega) (by decide)
              rw [show 60 * x + (j - 60 * x) = j from by omega] at e
              refine ih (by omega) (by omega) (by omega) _ (fr_up hM (by omega)) ?_
              have e2 : (fun e k' => if e = x ∧ k' = j - 60 * x then 0 else (if e = x ∧ k' < j - 60 * x then 0 else s.2.2 e k')) = (fun e k' => if e = x ∧ k' < j + 1 - 60 * x then 0 else s.2.2 e k') := by
                funext e k'
                by_cases c : e = x ∧ k' = j - 60 * x
                · rw [if_pos c, if_pos (by omega)]
                · rw [if_neg c]
                  by_cases c2 : e = x ∧ k' < j - 60 * x
                  · rw [if_pos c2, if_pos (by omega)]
                  · rw [if_neg c2, if_neg (by omega)]
              rw [← e2]
              exact e
          exact loop (60 * x) (by omega) (by omega) L (fr_rfl _ _) (fun e h0 h1 k k0 k1 => by
            show rl _ _ _ (if e = x ∧ k < 60 * x - 60 * x then 0 else s.2.2 e k)
            rw [if_neg (by omega)]
            exact hS.2.2 e h0 h1 k k0 k1)
        · refine ew_bipush i230_31 (by decide) ?_
          refine ev_ireturn i230_33 r230 ?_
          rw [if_neg (by omega), if_neg (by omega), if_pos (by omega)] at hK
          exact hK I L (fr_rfl _ _) (fr_rfl _ _) hS
      · refine ew_iconst i230_25 ?_
        refine ev_ireturn i230_26 r230 ?_
        rw [if_neg (by omega), if_pos (by omega)] at hK
        exact hK I L (fr_rfl _ _) (fr_rfl _ _) hS
theorem m_asSort {so v : Int} (hs : 0 ≤ so ∧ so ≤ 4) (hv : -9223372036854775808 ≤ v ∧ v ≤ 9223372036854775807) (hK : K (some (.long (zL (g_fit so v)))) (I, L, ts_P0 sw, ts_S0)) : ts_Cal X (d + 1) 232 [.int (zI (so)), .long (zL (v))] (I, L, ts_P0 sw, ts_S0) K := by
  have h1 := zi2b_r v
  have h2 := zi2s_r v
  have h3 := zI_r (zI v)
  unfold g_fit at hK
  refine ev_enter (lv := [.int (zI (so)), .long (zL (v)), .null]) l232 rfl (Nat.le_of_ble_eq_true rfl) ?_
  refine ev_iloadn_0 i232_0 ?_
  first
  | refine ew_ifneB i232_1 (fun c1 => ?_) (fun c1 => ?_)
  | refine ew_ifne i232_1 (by omega) (fun c1 => ?_) (fun c1 => ?_)
  · refine ev_iloadn_0 i232_11 ?_
    refine ew_iconst i232_12 ?_
    refine ew_icmpne i232_13 (by omega) (fun c13 => ?_) (fun c13 => ?_)
    · refine ev_iloadn_0 i232_23 ?_
      refine ew_iconst i232_24 ?_
      refine ew_icmpne i232_25 (by omega) (fun c25 => ?_) (fun c25 => ?_)
      · refine ev_iloadn_0 i232_34 ?_
        refine ew_iconst i232_35 ?_
        refine ew_icmpne i232_36 (by omega) (fun c36 => ?_) (fun c36 => ?_)
        · refine ev_lloadn_1 i232_53 ?_
          refine ev_lreturn i232_54 r232 ?_
          first | exact hK | exact zKl hK (by omega)
        · refine ev_lloadn_1 i232_39 ?_
          refine ew_lconst (z := 0) i232_40 (by decide) ?_
          refine ew_lcmp i232_41 (by omega) (by omega) ?_
          first
          | refine ew_ifeqB i232_42 (fun c42 => ?_) (fun c42 => ?_)
          | refine ew_ifeq i232_42 (by omega) (fun c42 => ?_) (fun c42 => ?_)
          · refine ew_lconst (z := 0) i232_49 (by decide) ?_
            refine ev_goto i232_50 ?_
            refine ev_lreturn i232_54 r232 ?_
            first | exact hK | exact zKl hK (by omega)
          · refine ew_lconst (z := 1) i232_45 (by decide) ?_
            refine ev_goto i232_46 ?_
            refine ev_lreturn i232_54 r232 ?_
            first | exact hK | exact zKl hK (by omega)
      · refine ev_lloadn_1 i232_28 ?_
        refine ew_l2i i232_29 ?_
        rw [show zI v = zI (zI v).toInt from (zI_of _).symm]
        refine ew_i2l i232_30 (by omega) ?_
        refine ev_goto i232_31 ?_
        refine ev_lreturn i232_54 r232 ?_
        first | exact hK | exact zKl hK (by omega)
    · refine ev_lloadn_1 i232_16 ?_
      refine ew_l2i i232_17 ?_
      refine ew_i2s i232_18 ?_
      refine ew_i2l i232_19 (by omega) ?_
      refine ev_goto i232_20 ?_
      refine ev_lreturn i232_54 r232 ?_
      first | exact hK | exact zKl hK (by omega)
  · refine ev_lloadn_1 i232_4 ?_
    refine ew_l2i i232_5 ?_
    refine ew_i2b i232_6 ?_
    refine ew_i2l i232_7 (by omega) ?_
    refine ev_goto i232_8 ?_
    refine ev_lreturn i232_54 r232 ?_
    first | exact hK | exact zKl hK (by omega)
theorem m_put (hS : RMs I L s) {x i v : Int} (hx : -2147483648 ≤ x ∧ x ≤ 2147483647) (hi : -2147483648 ≤ i ∧ i ≤ 2147483647) (hv : -9223372036854775808 ≤ v ∧ v ≤ 9223372036854775807) (hK : ∀ M, fr fsm L M → RMs I M (g_putS s x i v) → K (some (.int (zI (g_putA s x i)))) (I, M, ts_P0 sw, ts_S0)) : ts_Cal X (d + 4) 233 [.ref 72, .int (zI (x)), .int (zI (i)), .long (zL (v))] (I, L, ts_P0 sw, ts_S0) K := by
  have gr := g_refusal_r s x i
  unfold g_putS g_putA at hK
  refine ev_enter (lv := [.ref 72, .int (zI (x)), .int (zI (i)), .long (zL (v)), .null, .null]) l233 rfl (Nat.le_of_ble_eq_true rfl) ?_
  refine ev_aloadn_0 i233_0 ?_
  refine ev_iloadn_1 i233_1 ?_
  refine ev_iloadn_2 i233_2 ?_
  refine ev_virt2 i233_3 g233_3 rfl (by decide +kernel) (Nat.le_of_ble_eq_true rfl) (m_refusal hS hx hi ?_)
  refine ev_istore_5 i233_6 rfl ?_
  refine ev_iload_5 i233_8 ?_
  first
  | refine ew_ifneB i233_10 (fun c10 => ?_) (fun c10 => ?_)
  | refine ew_ifne i233_10 (by omega) (fun c10 => ?_) (fun c10 => ?_)
  · refine ev_iload_5 i233_37 ?_
    first
    | refine ew_ifneB i233_39 (fun c39 => ?_) (fun c39 => ?_)
    | refine ew_ifne i233_39 (by omega) (fun c39 => ?_) (fun c39 => ?_)
    · refine ev_iload_5 i233_46 ?_
      refine ev_ireturn i233_48 r233 ?_
      first
      | (rw [if_neg c10, if_neg c10] at hK
         exact hK L (fr_rfl _ _) hS)
      | (rw [show 60 * x + i = 60 * x + i from rfl] at *
         exact hK _ (fr_up (fr_rfl _ _) (by omega)) ⟨hS.1, hS.2.1, IT.up hS.2.2 (by omega) (by omega) hfr⟩)
      | (exfalso; omega)
    · refine ew_iconst i233_42 ?_
      refine ev_goto i233_43 ?_
      refine ev_ireturn i233_48 r233 ?_
      first
      | (rw [if_neg c10, if_neg c10] at hK
         exact hK L (fr_rfl _ _) hS)
      | (rw [show 60 * x + i = 60 * x + i from rfl] at *
         exact hK _ (fr_up (fr_rfl _ _) (by omega)) ⟨hS.1, hS.2.1, IT.up hS.2.2 (by omega) (by omega) hfr⟩)
      | (exfalso; omega)
  · rw [if_pos c10, if_pos c10] at hK
    have h0 := g_refusal_0 c10
    have hz := (hS.2.1 x (by omega) (by omega)).2
    have hfr := g_fit_r (so := s.1 x - 50) hv
    refine ev_aloadn_0 i233_13 ?_
    refine ev_getA i233_14 g233_14 rfl rfl (by decide) ?_
    refine ew_bipush i233_17 (by decide) ?_
    refine ev_iloadn_1 i233_19 ?_
    refine ew_imul i233_20 ?_
    refine ev_iloadn_2 i233_21 ?_
    refine ew_iadd i233_22 ?_
    refine ev_aloadn_0 i233_23 ?_
    refine ev_getA i233_24 g233_24 rfl rfl (by decide) ?_
    refine ev_iloadn_1 i233_27 ?_
    refine ew_iaload i233_28 rfl (by omega) (by omega) (by omega) (by first | exact hS.1 _ (by omega) (by omega) | exact hM.men | exact hM.told | exact hM.road | exact hM.stand _ (by omega) (by omega) | exact hM.reach _ (by omega) (by omega) | exact hM.arm _ (by omega) (by omega) | exact hM.late _ (by omega) (by omega) | exact hM.len _ (by omega) (by omega) | exact hM.corn _ (by omega) (by omega) | exact hM.say (by omega) (by omega) _ (by omega) (by omega) | exact hM.tone _ (by omega) (by omega)) (fun b28 => ?_)
    refine ew_bipush i233_29 (by decide) ?_
    refine ew_isub i233_31 ?_
    refine ev_lloadn_3 i233_32 ?_
    refine ev_stat2 i233_33 g233_33 (by decide +kernel) (Nat.le_of_ble_eq_true rfl) (m_asSort (by omega) hv ?_)
    refine ew_lastore i233_36 rfl (by omega) (by omega) (by omega) ?_
    refine ev_iload_5 i233_37 ?_
    first
    | refine ew_ifneB i233_39 (fun c39 => ?_) (fun c39 => ?_)
    | refine ew_ifne i233_39 (by omega) (fun c39 => ?_) (fun c39 => ?_)
    · refine ev_iload_5 i233_46 ?_
      refine ev_ireturn i233_48 r233 ?_
      first
      | (rw [if_neg c10, if_neg c10] at hK
         exact hK L (fr_rfl _ _) hS)
      | (rw [show 60 * x + i = 60 * x + i from rfl] at *
         exact hK _ (fr_up (fr_rfl _ _) (by omega)) ⟨hS.1, hS.2.1, IT.up hS.2.2 (by omega) (by omega) hfr⟩)
      | (exfalso; omega)
    · refine ew_iconst i233_42 ?_
      refine ev_goto i233_43 ?_
      refine ev_ireturn i233_48 r233 ?_
      first
      | (rw [if_neg c10, if_neg c10] at hK
         exact hK L (fr_rfl _ _) hS)
      | (rw [show 60 * x + i = 60 * x + i from rfl] at *
         exact hK _ (fr_up (fr_rfl _ _) (by omega)) ⟨hS.1, hS.2.1, IT.up hS.2.2 (by omega) (by omega) hfr⟩)
      | (exfalso; omega)
theorem m_shift (hS : RMs I L s) {x i y j n : Int} (hx : -2147483648 ≤ x ∧ x ≤ 2147483647) (hi : -2147483648 ≤ i ∧ i ≤ 2147483647) (hy : -2147483648 ≤ y ∧ y ≤ 2147483647) (hj : -2147483648 ≤ j ∧ j ≤ 2147483647) (hn : -2147483648 ≤ n ∧ n ≤ 2147483647) (hK : ∀ M, fr fsm L M → RMs I M (g_shS s x i y j n) → K (some (.int (zI (g_shA s x i y j n)))) (I, M, ts_P0 sw, ts_S0)) : ts_Cal X (d + 3) 235 [.ref 72, .int (zI (x)), .int (zI (i)), .int (zI (y)), .int (zI (j)), .int (zI (n))] (I, L, ts_P0 sw, ts_S0) K := by
  unfold g_shS g_shA at hK
  refine ev_enter (lv := [.ref 72, .int (zI (x)), .int (zI (i)), .int (zI (y)), .int (zI (j)), .int (zI (n)), .null]) l235 rfl (Nat.le_of_ble_eq_true rfl) ?_
  refine ev_iloadn_1 i235_0 ?_
  refine ev_stat1 i235_1 g235_1 (by decide +kernel) (Nat.le_of_ble_eq_true rfl) (m_isShelf hx ?_)
  first
  | refine ew_ifeqB i235_4 (fun c4 => ?_) (fun c4 => ?_)
  | refine ew_ifeq i235_4 (by omega) (fun c4 => ?_) (fun c4 => ?_)
  · refine ew_iconst i235_14 ?_
    refine ev_ireturn i235_15 r235 ?_
    rw [if_neg (by omega), if_pos (by omega)] at hK
    exact hK L (fr_rfl _ _) hS
  · refine ev_iloadn_3 i235_7 ?_
    refine ev_stat1 i235_8 g235_8 (by decide +kernel) (Nat.le_of_ble_eq_true rfl) (m_isShelf hy ?_)
    first
    | refine ew_ifneB i235_11 (fun c11 => ?_) (fun c11 => ?_)
    | refine ew_ifne i235_11 (by omega) (fun c11 => ?_) (fun c11 => ?_)
    · refine ev_aloadn_0 i235_16 ?_
      refine ev_getA i235_17 g235_17 rfl rfl (by decide) ?_
      refine ev_iloadn_1 i235_20 ?_
      refine ew_iaload i235_21 rfl (by omega) (by omega) (by omega) (by first | exact hS.1 _ (by omega) (by omega) | exact hS.2.1 _ (by omega) (by omega) | exact hM.men | exact hM.told | exact hM.road | exact hM.stand _ (by omega) (by omega) | exact hM.reach _ (by omega) (by omega) | exact hM.arm _ (by omega) (by omega) | exact hM.late _ (by omega) (by omega) | exact hM.len _ (by omega) (by omega) | exact hM.corn _ (by omega) (by omega) | exact hM.say (by omega) (by omega) _ (by omega) (by omega) | exact hM.tone _ (by omega) (by omega)) (fun b21 => ?_)
      refine ew_iflt i235_22 (by omega) (fun c22 => ?_) (fun c22 => ?_)
      · refine ew_bipush i235_34 (by decide) ?_
        refine ev_ireturn i235_36 r235 ?_
        rw [if_neg (by omega), if_neg (by omega), if_pos (by omega)] at hK
        exact hK L (fr_rfl _ _) hS
      · refine ev_aloadn_0 i235_25 ?_
        refine ev_getA i235_26 g235_26 rfl rfl (by decide) ?_
        refine ev_iloadn_3 i235_29 ?_
        refine ew_iaload i235_30 rfl (by omega) (by omega) (by omega) (by first | exact hS.1 _ (by omega) (by omega) | exact hS.2.1 _ (by omega) (by omega) | exact hM.men | exact hM.told | exact hM.road | exact hM.stand _ (by omega) (by omega) | exact hM.reach _ (by omega) (by omega) | exact hM.arm _ (by omega) (by omega) | exact hM.late _ (by omega) (by omega) | exact hM.len _ (by omega) (by omega) | exact hM.corn _ (by omega) (by omega) | exact hM.say (by omega) (by omega) _ (by omega) (by omega) | exact hM.tone _ (by omega) (by omega)) (fun b30 => ?_)
        refine ew_ifge i235_31 (by omega) (fun c31 => ?_) (fun c31 => ?_)
        · refine ev_aloadn_0 i235_37 ?_
          refine ev_getA i235_38 g235_38 rfl rfl (by decide) ?_
          refine ev_iloadn_1 i235_41 ?_
          refine ew_iaload i235_42 rfl (by omega) (by omega) (by omega) (by first | exact hS.1 _ (by omega) (by omega) | exact hS.2.1 _ (by omega) (by omega) | exact hM.men | exact hM.told | exact hM.road | exact hM.stand _ (by omega) (by omega) | exact hM.reach _ (by omega) (by omega) | exact hM.arm _ (by omega) (by omega) | exact hM.late _ (by omega) (by omega) | exact hM.len _ (by omega) (by omega) | exact hM.corn _ (by omega) (by omega) | exact hM.say (by omega) (by omega) _ (by omega) (by omega) | exact hM.tone _ (by omega) (by omega)) (fun b42 => ?_)
          refine ew_bipush i235_43 (by decide) ?_
          refine ew_icmplt i235_45 (by omega) (fun c45 => ?_) (fun c45 => ?_)
          · refine ew_bipush i235_63 (by decide) ?_
            refine ev_ireturn i235_65 r235 ?_
            rw [if_neg (by omega), if_neg (by omega), if_neg (by omega), if_pos (by omega)] at hK
            exact hK L (fr_rfl _ _) hS
          · refine ev_aloadn_0 i235_48 ?_
            refine ev_getA i235_49 g235_49 rfl rfl (by decide) ?_
            refine ev_iloadn_1 i235_52 ?_
            refine ew_iaload i235_53 rfl (by omega) (by omega) (by omega) (by first | exact hS.1 _ (by omega) (by omega) | exact hS.2.1 _ (by omega) (by omega) | exact hM.men | exact hM.told | exact hM.road | exact hM.stand _ (by omega) (by omega) | exact hM.reach _ (by omega) (by omega) | exact hM.arm _ (by omega) (by omega) | exact hM.late _ (by omega) (by omega) | exact hM.len _ (by omega) (by omega) | exact hM.corn _ (by omega) (by omega) | exact hM.say (by omega) (by omega) _ (by omega) (by omega) | exact hM.tone _ (by omega) (by omega)) (fun b53 => ?_)
            refine ev_aloadn_0 i235_54 ?_
            refine ev_getA i235_55 g235_55 rfl rfl (by decide) ?_
            refine ev_iloadn_3 i235_58 ?_
            refine ew_iaload i235_59 rfl (by omega) (by omega) (by omega) (by first | exact hS.1 _ (by omega) (by omega) | exact hS.2.1 _ (by omega) (by omega) | exact hM.men | exact hM.told | exact hM.road | exact hM.stand _ (by omega) (by omega) | exact hM.reach _ (by omega) (by omega) | exact hM.arm _ (by omega) (by omega) | exact hM.late _ (by omega) (by omega) | exact hM.len _ (by omega) (by omega) | exact hM.corn _ (by omega) (by omega) | exact hM.say (by omega) (by omega) _ (by omega) (by omega) | exact hM.tone _ (by omega) (by omega)) (fun b59 => ?_)
            refine ew_icmpeq i235_60 (by omega) (fun c60 => ?_) (fun c60 => ?_)
            · have hz := (hS.2.1 x (by omega) (by omega)).2
              have hz2 := (hS.2.1 y (by omega) (by omega)).2
              refine ev_iload_5 i235_66 ?_
              refine ew_iflt i235_68 (by omega) (fun c68 => ?_) (fun c68 => ?_)
              · refine ew_bipush i235_107 (by decide) ?_
                refine ev_ireturn i235_109 r235 ?_
                rw [if_neg (by omega), if_neg (by omega), if_neg (by omega), if_neg (by omega), if_neg (by omega)] at hK
                exact hK L (fr_rfl _ _) hS
              · refine ev_iloadn_2 i235_71 ?_
                refine ew_iflt i235_72 (by omega) (fun c72 => ?_) (fun c72 => ?_)
                · refine ew_bipush i235_107 (by decide) ?_
                  refine ev_ireturn i235_109 r235 ?_
                  rw [if_neg (by omega), if_neg (by omega), if_neg (by omega), if_neg (by omega), if_neg (by omega)] at hK
                  exact hK L (fr_rfl _ _) hS
                · refine ev_iload_4 i235_75 ?_
                  refine ew_iflt i235_77 (by omega) (fun c77 => ?_) (fun c77 => ?_)
                  · refine ew_bipush i235_107 (by decide) ?_
                    refine ev_ireturn i235_109 r235 ?_
                    rw [if_neg (by omega), if_neg (by omega), if_neg (by omega), if_neg (by omega), if_neg (by omega)] at hK
                    exact hK L (fr_rfl _ _) hS
                  · refine ev_iloadn_2 i235_80 ?_
                    refine ev_aloadn_0 i235_81 ?_
                    refine ev_getA i235_82 g235_82 rfl rfl (by decide) ?_
                    refine ev_iloadn_1 i235_85 ?_
                    refine ew_iaload i235_86 rfl (by omega) (by omega) (by omega) (by first | exact hS.1 _ (by omega) (by omega) | exact hS.2.1 _ (by omega) (by omega) | exact hM.men | exact hM.told | exact hM.road | exact hM.stand _ (by omega) (by omega) | exact hM.reach _ (by omega) (by omega) | exact hM.arm _ (by omega) (by omega) | exact hM.late _ (by omega) (by omega) | exact hM.len _ (by omega) (by omega) | exact hM.corn _ (by omega) (by omega) | exact hM.say (by omega) (by omega) _ (by omega) (by omega) | exact hM.tone _ (by omega) (by omega)) (fun b86 => ?_)
                    refine ev_iload_5 i235_87 ?_
                    refine ew_isub i235_89 ?_
                    refine ew_icmpgt i235_90 (by omega) (fun c90 => ?_) (fun c90 => ?_)
                    · refine ew_bipush i235_107 (by decide) ?_
                      refine ev_ireturn i235_109 r235 ?_
                      rw [if_neg (by omega), if_neg (by omega), if_neg (by omega), if_neg (by omega), if_neg (by omega)] at hK
                      exact hK L (fr_rfl _ _) hS
                    · refine ev_iload_4 i235_93 ?_
                      refine ev_aloadn_0 i235_95 ?_
                      refine ev_getA i235_96 g235_96 rfl rfl (by decide) ?_
                      refine ev_iloadn_3 i235_99 ?_
                      refine ew_iaload i235_100 rfl (by omega) (by omega) (by omega) (by first | exact hS.1 _ (by omega) (by omega) | exact hS.2.1 _ (by omega) (by omega) | exact hM.men | exact hM.told | exact hM.road | exact hM.stand _ (by omega) (by omega) | exact hM.reach _ (by omega) (by omega) | exact hM.arm _ (by omega) (by omega) | exact hM.late _ (by omega) (by omega) | exact hM.len _ (by omega) (by omega) | exact hM.corn _ (by omega) (by omega) | exact hM.say (by omega) (by omega) _ (by omega) (by omega) | exact hM.tone _ (by omega) (by omega)) (fun b100 => ?_)
                      refine ev_iload_5 i235_101 ?_
                      refine ew_isub i235_103 ?_
                      refine ew_icmple i235_104 (by omega) (fun c104 => ?_) (fun c104 => ?_)
                      · rw [if_pos (by omega), if_neg (by omega), if_neg (by omega), if_neg (by omega), if_pos (by omega)] at hK
                        refine ew_iconst i235_110 ?_
                        refine ev_istore_6 i235_111 rfl ?_
                        have loop2 : ∀ k : Int, 0 ≤ k → k ≤ n → ∀ M, fr fsm L M → (∀ t : Int, 0 ≤ t → t < n → rl (M 96 t.toNat) (-9223372036854775808) 9223372036854775807 (s.2.2 x (i + t))) → IT M (fun e k' => if e = y ∧ j ≤ k' ∧ k' < j + k then s.2.2 x (i + (k' - j)) else s.2.2 e k') → ts_Ev X (ts_Cal X (d + 2)) 235 ts_S0 K 150 [.ref 72, .int (zI (x)), .int (zI (i)), .int (zI (y)), .int (zI (j)), .int (zI (n)), .int (zI (k))] [] (I, M, ts_P0 sw, ts_S0) := by
                          refine ts_ind n (fun k ih h0 h1 M hM hC hT => ?_)
                          refine ev_iload_6 i235_150 ?_
                          refine ev_iload_5 i235_152 ?_
                          refine ew_icmpge i235_154 (by omega) (fun c154 => ?_) (fun c154 => ?_)
                          · refine ev_iload_5 i235_185 ?_
                            refine ev_ireturn i235_187 r235 ?_
                            obtain rfl : k = n := by omega
                            exact hK M hM ⟨hS.1, hS.2.1, hT⟩
                          · refine ev_aloadn_0 i235_157 ?_
                            refine ev_getA i235_158 g235_158 rfl rfl (by decide) ?_
                            refine ew_bipush i235_161 (by decide) ?_
                            refine ev_iloadn_3 i235_163 ?_
                            refine ew_imul i235_164 ?_
                            refine ev_iload_4 i235_165 ?_
                            refine ew_iadd i235_167 ?_
                            refine ev_iload_6 i235_168 ?_
                            refine ew_iadd i235_170 ?_
                            refine ev_aloadn_0 i235_171 ?_
                            refine ev_getA i235_172 g235_172 rfl rfl (by decide) ?_
                            refine ev_iload_6 i235_175 ?_
                            refine ew_laload i235_177 rfl (by omega) (by omega) (by omega) (by first | exact hC _ (by omega) (by omega) | exact hM.men | exact hM.told | exact hM.road | exact hM.stand _ (by omega) (by omega) | exact hM.reach _ (by omega) (by omega) | exact hM.arm _ (by omega) (by omega) | exact hM.late _ (by omega) (by omega) | exact hM.len _ (by omega) (by omega) | exact hM.corn _ (by omega) (by omega) | exact hM.say (by omega) (by omega) _ (by omega) (by omega) | exact hM.tone _ (by omega) (by omega)) (fun b177 => ?_)
                            refine ew_lastore i235_178 rfl (by omega) (by omega) (by omega) ?_
                            refine ew_iinc_6 i235_179 rfl ?_
                            refine ev_goto i235_182 ?_
                            have e := hT.up (x := y) (k := j + k) (v := s.2.2 x (i + k)) (by omega) (by omega) (hC k h0 (by omega)).2
                            rw [show 60 * y + (j + k) = 60 * y + j + k from by omega] at e
                            refine ih (by omega) (by omega) (by omega) _ (fr_up hM (by omega)) (fun t t0 t1 => hC t t0 t1) ?_
                            have e2 : (fun e k' => if e = y ∧ k' = j + k then s.2.2 x (i + k) else (if e = y ∧ j ≤ k' ∧ k' < j + k then s.2.2 x (i + (k' - j)) else s.2.2 e k')) = (fun e k' => if e = y ∧ j ≤ k' ∧ k' < j + (k + 1) then s.2.2 x (i + (k' - j)) else s.2.2 e k') := by
                              funext e k'
                              by_cases c : e = y ∧ k' = j + k
                              · rw [if_pos c, if_pos (by omega), c.2, show i + (j + k - j) = i + k from by omega]
                              · rw [if_neg c]
                                by_cases c2 : e = y ∧ j ≤ k' ∧ k' < j + k
                                · rw [if_pos c2, if_pos (by omega)]
                                · rw [if_neg c2, if_neg (by omega)]
                            rw [← e2]
                            exact e
                        have loop : ∀ k : Int, 0 ≤ k → k ≤ n → ∀ M, fr fsm L M → M 95 = L 95 → (∀ t : Int, 0 ≤ t → t < k → rl (M 96 t.toNat) (-9223372036854775808) 9223372036854775807 (s.2.2 x (i + t))) → ts_Ev X (ts_Cal X (d + 2)) 235 ts_S0 K 113 [.ref 72, .int (zI (x)), .int (zI (i)), .int (zI (y)), .int (zI (j)), .int (zI (n)), .int (zI (k))] [] (I, M, ts_P0 sw, ts_S0) := by
                          refine ts_ind n (fun k ih h0 h1 M hM hE hC => ?_)
                          refine ev_iload_6 i235_113 ?_
                          refine ev_iload_5 i235_115 ?_
                          refine ew_icmpge i235_117 (by omega) (fun c117 => ?_) (fun c117 => ?_)
                          · refine ew_iconst i235_147 ?_
                            refine ev_istore_6 i235_148 rfl ?_
                            obtain rfl : k = n := by omega
                            refine loop2 0 (by decide) (by omega) M hM hC (fun e h0 h1 k' k0 k1 => ?_)
                            show rl _ _ _ (if e = y ∧ j ≤ k' ∧ k' < j + 0 then _ else _)
                            rw [if_neg (by omega), hE]
                            exact hS.2.2 e h0 h1 k' k0 k1
                          · refine ev_aloadn_0 i235_120 ?_
                            refine ev_getA i235_121 g235_121 rfl rfl (by decide) ?_
                            refine ev_iload_6 i235_124 ?_
                            refine ev_aloadn_0 i235_126 ?_
                            refine ev_getA i235_127 g235_127 rfl rfl (by decide) ?_
                            refine ew_bipush i235_130 (by decide) ?_
                            refine ev_iloadn_1 i235_132 ?_
                            refine ew_imul i235_133 ?_
                            refine ev_iloadn_2 i235_134 ?_
                            refine ew_iadd i235_135 ?_
                            refine ev_iload_6 i235_136 ?_
                            refine ew_iadd i235_138 ?_
                            refine ew_laload i235_139 rfl (by omega) (by omega) (by omega) ((by rw [hE]; have e := hS.2.2 x (by omega) (by omega) (i + k) (by omega) (by omega); rw [show 60 * x + (i + k) = 60 * x + i + k from by omega] at e; exact e)) (fun b139 => ?_)
                            refine ew_lastore i235_140 rfl (by omega) (by omega) (by omega) ?_
                            refine ew_iinc_6 i235_141 rfl ?_
                            refine ev_goto i235_144 ?_
                            refine ih (by omega) (by omega) (by omega) _ (fr_up hM (by omega)) hE (fun t t0 t1 => ?_)
                            by_cases c : t = k
                            · subst c
                              rw [ts_up_e]
                              exact rl_zL b139
                            · rw [ts_up_nj (by omega)]
                              exact hC t t0 (by omega)
                        exact loop 0 (by decide) (by omega) L (fr_rfl _ _) rfl (fun t t0 t1 => by omega)
                      · refine ew_bipush i235_107 (by decide) ?_
                        refine ev_ireturn i235_109 r235 ?_
                        rw [if_neg (by omega), if_neg (by omega), if_neg (by omega), if_neg (by omega), if_neg (by omega)] at hK
                        exact hK L (fr_rfl _ _) hS
            · refine ew_bipush i235_63 (by decide) ?_
              refine ev_ireturn i235_65 r235 ?_
              rw [if_neg (by omega), if_neg (by omega), if_neg (by omega), if_pos (by omega)] at hK
              exact hK L (fr_rfl _ _) hS
        · refine ew_bipush i235_34 (by decide) ?_
          refine ev_ireturn i235_36 r235 ?_
          rw [if_neg (by omega), if_neg (by omega), if_pos (by omega)] at hK
          exact hK L (fr_rfl _ _) hS
    · refine ew_iconst i235_14 ?_
      refine ev_ireturn i235_15 r235 ?_
      rw [if_neg (by omega), if_pos (by omega)] at hK
      exact hK L (fr_rfl _ _) hS
/-! what stays true of the shelves -/
theorem ROs.keep (h : ROs s) {nb x w : Int} (hnb : nb ≤ 50) : ROs (g_keep s nb x w) := by
  unfold g_keep
  split
  · intro q h0 h1
    have e := h q h0 h1
    show -1 ≤ zu s.1 x w q ∧ zu s.1 x w q ≤ 54 ∧ (zu s.1 x w q < 50 → zu s.2.1 x 0 q = 0) ∧ (zu s.1 x w q = 50 → _)
    unfold zu
    by_cases c : q = x
    · simp only [if_pos c]
      refine ⟨by omega, by omega, fun _ => trivial, fun r => by omega⟩
    · simp only [if_neg c]
      exact e
  · exact h
theorem ROs.row (h : ROs s) {x so n : Int} : ROs (g_rowS s x so n) := by
  unfold g_rowS
  split
  · intro q h0 h1
    have e := h q h0 h1
    show -1 ≤ zu s.1 x (50 + so) q ∧ zu s.1 x (50 + so) q ≤ 54 ∧ (zu s.1 x (50 + so) q < 50 → zu s.2.1 x n q = 0) ∧ (zu s.1 x (50 + so) q = 50 → ∀ k : Int, 0 ≤ k → k < 60 → -128 ≤ (if q = x then 0 else s.2.2 q k) ∧ (if q = x then 0 else s.2.2 q k) ≤ 127)
    unfold zu
    by_cases c : q = x
    · simp only [if_pos c]
      refine ⟨by omega, by omega, fun r => by omega, fun r k k0 k1 => by omega⟩
    · simp only [if_neg c]
      exact e
  · exact h
theorem ROs.put (h : ROs s) {x i v : Int} : ROs (g_putS s x i v) := by
  unfold g_putS
  split
  · intro q h0 h1
    have e := h q h0 h1
    refine ⟨e.1, e.2.1, e.2.2.1, fun r k k0 k1 => ?_⟩
    have e2 := e.2.2.2 r k k0 k1
    show -128 ≤ (if q = x ∧ k = i then g_fit (s.1 x - 50) v else s.2.2 q k) ∧ (if q = x ∧ k = i then g_fit (s.1 x - 50) v else s.2.2 q k) ≤ 127
    by_cases c : q = x ∧ k = i
    · rw [if_pos c]
      have r2 : s.1 x - 50 = 0 := by
        have r3 : s.1 q = 50 := r
        rw [c.1] at r3
        omega
      have e3 := zi2b_b v
      unfold g_fit
      rw [if_pos r2]
      exact e3
    · rw [if_neg c]
      exact e2
  · exact h
theorem ROs.shift (h : ROs s) (hm : ∀ q, 0 ≤ q → q < 6 → s.2.1 q ≤ 60) {x i y j n : Int} : ROs (g_shS s x i y j n) := by
  unfold g_shS
  split
  · rename_i cc
    intro q h0 h1
    have e := h q h0 h1
    refine ⟨e.1, e.2.1, e.2.2.1, fun r k k0 k1 => ?_⟩
    have e2 := e.2.2.2 r k k0 k1
    show -128 ≤ (if q = y ∧ j ≤ k ∧ k < j + n then s.2.2 x (i + (k - j)) else s.2.2 q k) ∧ (if q = y ∧ j ≤ k ∧ k < j + n then s.2.2 x (i + (k - j)) else s.2.2 q k) ≤ 127
    by_cases c : q = y ∧ j ≤ k ∧ k < j + n
    · rw [if_pos c]
      have r2 : s.1 x = 50 := by
        have r3 : s.1 q = 50 := r
        rw [c.1] at r3
        omega
      have ex := h x (by omega) (by omega)
      have em := hm x (by omega) (by omega)
      exact ex.2.2.2 r2 _ (by omega) (by omega)
    · rw [if_neg c]
      exact e2
  · exact h
end RO2
