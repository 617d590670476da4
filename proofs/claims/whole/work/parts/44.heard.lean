theorem i109_0 : ts_ins 109 0 = some (.iload_n 2, 1, 0) := by decide +kernel
theorem i109_1 : ts_ins 109 1 = some (.invokestatic 217, 4, 0) := by decide +kernel
theorem g109_1 : ts_cal (ts_mc 109) 217 = some (1, 140, 1) := by decide +kernel
theorem i109_4 : ts_ins 109 4 = some (.ifCond .ne 5, 7, 9) := by decide +kernel
theorem i109_7 : ts_ins 109 7 = some (.iconst (-1), 8, 0) := by decide +kernel
theorem i109_8 : ts_ins 109 8 = some (.ireturn, 9, 0) := by decide +kernel
theorem i109_9 : ts_ins 109 9 = some (.aload_n 0, 10, 0) := by decide +kernel
theorem i109_10 : ts_ins 109 10 = some (.iload_n 1, 11, 0) := by decide +kernel
theorem i109_11 : ts_ins 109 11 = some (.invokevirtual 100, 14, 0) := by decide +kernel
theorem g109_11 : ts_cal (ts_mc 109) 100 = some (0, 141, 1) := by decide +kernel
theorem i109_14 : ts_ins 109 14 = some (.istore_n 3, 15, 0) := by decide +kernel
theorem i109_15 : ts_ins 109 15 = some (.iload_n 3, 16, 0) := by decide +kernel
theorem i109_16 : ts_ins 109 16 = some (.ifCond .eq 5, 19, 21) := by decide +kernel
theorem i109_19 : ts_ins 109 19 = some (.iload_n 3, 20, 0) := by decide +kernel
theorem i109_20 : ts_ins 109 20 = some (.ireturn, 21, 0) := by decide +kernel
theorem i109_21 : ts_ins 109 21 = some (.aload_n 0, 22, 0) := by decide +kernel
theorem i109_22 : ts_ins 109 22 = some (.getfield 42, 25, 0) := by decide +kernel
theorem g109_22 : ts_fm 109 42 = some (11, 4, 2) := by decide +kernel
theorem i109_25 : ts_ins 109 25 = some (.aload_n 0, 26, 0) := by decide +kernel
theorem i109_26 : ts_ins 109 26 = some (.getfield 87, 29, 0) := by decide +kernel
theorem g109_26 : ts_fm 109 87 = some (11, 12, 2) := by decide +kernel
theorem i109_29 : ts_ins 109 29 = some (.iload_n 1, 30, 0) := by decide +kernel
theorem i109_30 : ts_ins 109 30 = some (.aaload, 31, 0) := by decide +kernel
theorem i109_31 : ts_ins 109 31 = some (.invokevirtual 231, 34, 0) := by decide +kernel
theorem g109_31 : ts_cal (ts_mc 109) 231 = some (0, 69, 1) := by decide +kernel
theorem i109_34 : ts_ins 109 34 = some (.aload_n 0, 35, 0) := by decide +kernel
theorem i109_35 : ts_ins 109 35 = some (.getfield 42, 38, 0) := by decide +kernel
theorem g109_35 : ts_fm 109 42 = some (11, 4, 2) := by decide +kernel
theorem i109_38 : ts_ins 109 38 = some (.invokevirtual 234, 41, 0) := by decide +kernel
theorem g109_38 : ts_cal (ts_mc 109) 234 = some (0, 73, 0) := by decide +kernel
theorem i109_41 : ts_ins 109 41 = some (.istore 4, 43, 0) := by decide +kernel
theorem i109_43 : ts_ins 109 43 = some (.iload_n 2, 44, 0) := by decide +kernel
theorem i109_44 : ts_ins 109 44 = some (.ifCond .eq 10, 47, 54) := by decide +kernel
theorem i109_47 : ts_ins 109 47 = some (.iload 4, 49, 0) := by decide +kernel
theorem i109_49 : ts_ins 109 49 = some (.bipush (-2), 51, 0) := by decide +kernel
theorem i109_51 : ts_ins 109 51 = some (.if_icmp .ne 8, 54, 59) := by decide +kernel
theorem i109_54 : ts_ins 109 54 = some (.iload 4, 56, 0) := by decide +kernel
theorem i109_56 : ts_ins 109 56 = some (.goto 12, 59, 68) := by decide +kernel
theorem i109_59 : ts_ins 109 59 = some (.aload_n 0, 60, 0) := by decide +kernel
theorem i109_60 : ts_ins 109 60 = some (.getfield 42, 63, 0) := by decide +kernel
theorem g109_60 : ts_fm 109 42 = some (11, 4, 2) := by decide +kernel
theorem i109_63 : ts_ins 109 63 = some (.iload 4, 65, 0) := by decide +kernel
theorem i109_65 : ts_ins 109 65 = some (.invokevirtual 237, 68, 0) := by decide +kernel
theorem g109_65 : ts_cal (ts_mc 109) 237 = some (0, 72, 1) := by decide +kernel
theorem i109_68 : ts_ins 109 68 = some (.ireturn, 69, 0) := by decide +kernel
theorem r109 : ts_rt 109 = ((some .int), 0, 0) := by decide +kernel
theorem l109 : ts_ml 109 = 5 := by decide +kernel
theorem i195_0 : ts_ins 195 0 = some (.aload_n 0, 1, 0) := by decide +kernel
theorem i195_1 : ts_ins 195 1 = some (.iload_n 1, 2, 0) := by decide +kernel
theorem i195_2 : ts_ins 195 2 = some (.invokevirtual 115, 5, 0) := by decide +kernel
theorem g195_2 : ts_cal (ts_mc 195) 115 = some (0, 153, 1) := by decide +kernel
theorem i195_5 : ts_ins 195 5 = some (.iconst (-1), 6, 0) := by decide +kernel
theorem i195_6 : ts_ins 195 6 = some (.if_icmp .eq 13, 9, 19) := by decide +kernel
theorem i195_9 : ts_ins 195 9 = some (.iload_n 2, 10, 0) := by decide +kernel
theorem i195_10 : ts_ins 195 10 = some (.i2l, 11, 0) := by decide +kernel
theorem i195_11 : ts_ins 195 11 = some (.lconst 0, 12, 0) := by decide +kernel
theorem i195_12 : ts_ins 195 12 = some (.lconst 1, 13, 0) := by decide +kernel
theorem i195_13 : ts_ins 195 13 = some (.invokestatic 95, 16, 0) := by decide +kernel
theorem g195_13 : ts_cal (ts_mc 195) 95 = some (1, 143, 3) := by decide +kernel
theorem i195_16 : ts_ins 195 16 = some (.ifCond .ne 5, 19, 21) := by decide +kernel
theorem i195_19 : ts_ins 195 19 = some (.iconst (-1), 20, 0) := by decide +kernel
theorem i195_20 : ts_ins 195 20 = some (.ireturn, 21, 0) := by decide +kernel
theorem i195_21 : ts_ins 195 21 = some (.aload_n 0, 22, 0) := by decide +kernel
theorem i195_22 : ts_ins 195 22 = some (.iload_n 1, 23, 0) := by decide +kernel
theorem i195_23 : ts_ins 195 23 = some (.invokevirtual 115, 26, 0) := by decide +kernel
theorem g195_23 : ts_cal (ts_mc 195) 115 = some (0, 153, 1) := by decide +kernel
theorem i195_26 : ts_ins 195 26 = some (.ifCond .ge 9, 29, 35) := by decide +kernel
theorem i195_29 : ts_ins 195 29 = some (.aload_n 0, 30, 0) := by decide +kernel
theorem i195_30 : ts_ins 195 30 = some (.iload_n 1, 31, 0) := by decide +kernel
theorem i195_31 : ts_ins 195 31 = some (.invokevirtual 115, 34, 0) := by decide +kernel
theorem g195_31 : ts_cal (ts_mc 195) 115 = some (0, 153, 1) := by decide +kernel
theorem i195_34 : ts_ins 195 34 = some (.ireturn, 35, 0) := by decide +kernel
theorem i195_35 : ts_ins 195 35 = some (.aload_n 0, 36, 0) := by decide +kernel
theorem i195_36 : ts_ins 195 36 = some (.iload_n 1, 37, 0) := by decide +kernel
theorem i195_37 : ts_ins 195 37 = some (.invokevirtual 256, 40, 0) := by decide +kernel
theorem g195_37 : ts_cal (ts_mc 195) 256 = some (0, 191, 1) := by decide +kernel
theorem i195_40 : ts_ins 195 40 = some (.aload_n 0, 41, 0) := by decide +kernel
theorem i195_41 : ts_ins 195 41 = some (.invokevirtual 259, 44, 0) := by decide +kernel
theorem g195_41 : ts_cal (ts_mc 195) 259 = some (0, 194, 0) := by decide +kernel
theorem i195_44 : ts_ins 195 44 = some (.istore_n 3, 45, 0) := by decide +kernel
theorem i195_45 : ts_ins 195 45 = some (.iload_n 3, 46, 0) := by decide +kernel
theorem i195_46 : ts_ins 195 46 = some (.ifCond .lt 7, 49, 53) := by decide +kernel
theorem i195_49 : ts_ins 195 49 = some (.iload_n 2, 50, 0) := by decide +kernel
theorem i195_50 : ts_ins 195 50 = some (.ifCond .ne 7, 53, 57) := by decide +kernel
theorem i195_53 : ts_ins 195 53 = some (.iload_n 3, 54, 0) := by decide +kernel
theorem i195_54 : ts_ins 195 54 = some (.goto 11, 57, 65) := by decide +kernel
theorem i195_57 : ts_ins 195 57 = some (.aload_n 0, 58, 0) := by decide +kernel
theorem i195_58 : ts_ins 195 58 = some (.iload_n 3, 59, 0) := by decide +kernel
theorem i195_59 : ts_ins 195 59 = some (.invokevirtual 250, 62, 0) := by decide +kernel
theorem g195_59 : ts_cal (ts_mc 195) 250 = some (0, 192, 1) := by decide +kernel
theorem i195_62 : ts_ins 195 62 = some (.invokestatic 253, 65, 0) := by decide +kernel
theorem g195_62 : ts_cal (ts_mc 195) 253 = some (1, 193, 1) := by decide +kernel
theorem i195_65 : ts_ins 195 65 = some (.ireturn, 66, 0) := by decide +kernel
theorem r195 : ts_rt 195 = ((some .int), 0, 0) := by decide +kernel
theorem l195 : ts_ml 195 = 4 := by decide +kernel
theorem i111_0 : ts_ins 111 0 = some (.aload_n 0, 1, 0) := by decide +kernel
theorem i111_1 : ts_ins 111 1 = some (.getfield 10, 4, 0) := by decide +kernel
theorem g111_1 : ts_fm 111 10 = some (11, 0, 2) := by decide +kernel
theorem i111_4 : ts_ins 111 4 = some (.iload_n 2, 5, 0) := by decide +kernel
theorem i111_5 : ts_ins 111 5 = some (.invokevirtual 129, 8, 0) := by decide +kernel
theorem g111_5 : ts_cal (ts_mc 111) 129 = some (0, 20, 1) := by decide +kernel
theorem i111_8 : ts_ins 111 8 = some (.ifCond .ne 5, 11, 13) := by decide +kernel
theorem i111_11 : ts_ins 111 11 = some (.iconst (-1), 12, 0) := by decide +kernel
theorem i111_12 : ts_ins 111 12 = some (.ireturn, 13, 0) := by decide +kernel
theorem i111_13 : ts_ins 111 13 = some (.aload_n 0, 14, 0) := by decide +kernel
theorem i111_14 : ts_ins 111 14 = some (.iload_n 1, 15, 0) := by decide +kernel
theorem i111_15 : ts_ins 111 15 = some (.invokevirtual 100, 18, 0) := by decide +kernel
theorem g111_15 : ts_cal (ts_mc 111) 100 = some (0, 141, 1) := by decide +kernel
theorem i111_18 : ts_ins 111 18 = some (.istore_n 3, 19, 0) := by decide +kernel
theorem i111_19 : ts_ins 111 19 = some (.iload_n 3, 20, 0) := by decide +kernel
theorem i111_20 : ts_ins 111 20 = some (.ifCond .eq 5, 23, 25) := by decide +kernel
theorem i111_23 : ts_ins 111 23 = some (.iload_n 3, 24, 0) := by decide +kernel
theorem i111_24 : ts_ins 111 24 = some (.ireturn, 25, 0) := by decide +kernel
theorem i111_25 : ts_ins 111 25 = some (.aload_n 0, 26, 0) := by decide +kernel
theorem i111_26 : ts_ins 111 26 = some (.getfield 42, 29, 0) := by decide +kernel
theorem g111_26 : ts_fm 111 42 = some (11, 4, 2) := by decide +kernel
theorem i111_29 : ts_ins 111 29 = some (.aload_n 0, 30, 0) := by decide +kernel
theorem i111_30 : ts_ins 111 30 = some (.getfield 87, 33, 0) := by decide +kernel
theorem g111_30 : ts_fm 111 87 = some (11, 12, 2) := by decide +kernel
theorem i111_33 : ts_ins 111 33 = some (.iload_n 1, 34, 0) := by decide +kernel
theorem i111_34 : ts_ins 111 34 = some (.aaload, 35, 0) := by decide +kernel
theorem i111_35 : ts_ins 111 35 = some (.invokevirtual 231, 38, 0) := by decide +kernel
theorem g111_35 : ts_cal (ts_mc 111) 231 = some (0, 69, 1) := by decide +kernel
theorem i111_38 : ts_ins 111 38 = some (.aload_n 0, 39, 0) := by decide +kernel
theorem i111_39 : ts_ins 111 39 = some (.getfield 42, 42, 0) := by decide +kernel
theorem g111_39 : ts_fm 111 42 = some (11, 4, 2) := by decide +kernel
theorem i111_42 : ts_ins 111 42 = some (.iload_n 2, 43, 0) := by decide +kernel
theorem i111_43 : ts_ins 111 43 = some (.invokevirtual 255, 46, 0) := by decide +kernel
theorem g111_43 : ts_cal (ts_mc 111) 255 = some (0, 71, 1) := by decide +kernel
theorem i111_46 : ts_ins 111 46 = some (.ireturn, 47, 0) := by decide +kernel
theorem r111 : ts_rt 111 = ((some .int), 0, 0) := by decide +kernel
theorem l111 : ts_ml 111 = 4 := by decide +kernel
theorem i199_0 : ts_ins 199 0 = some (.aload_n 0, 1, 0) := by decide +kernel
theorem i199_1 : ts_ins 199 1 = some (.iload_n 1, 2, 0) := by decide +kernel
theorem i199_2 : ts_ins 199 2 = some (.invokevirtual 115, 5, 0) := by decide +kernel
theorem g199_2 : ts_cal (ts_mc 199) 115 = some (0, 153, 1) := by decide +kernel
theorem i199_5 : ts_ins 199 5 = some (.iconst (-1), 6, 0) := by decide +kernel
theorem i199_6 : ts_ins 199 6 = some (.if_icmp .eq 12, 9, 18) := by decide +kernel
theorem i199_9 : ts_ins 199 9 = some (.aload_n 0, 10, 0) := by decide +kernel
theorem i199_10 : ts_ins 199 10 = some (.iload_n 2, 11, 0) := by decide +kernel
theorem i199_11 : ts_ins 199 11 = some (.i2l, 12, 0) := by decide +kernel
theorem i199_12 : ts_ins 199 12 = some (.invokevirtual 131, 15, 0) := by decide +kernel
theorem g199_12 : ts_cal (ts_mc 199) 131 = some (0, 150, 1) := by decide +kernel
theorem i199_15 : ts_ins 199 15 = some (.ifCond .ne 5, 18, 20) := by decide +kernel
theorem i199_18 : ts_ins 199 18 = some (.iconst (-1), 19, 0) := by decide +kernel
theorem i199_19 : ts_ins 199 19 = some (.ireturn, 20, 0) := by decide +kernel
theorem i199_20 : ts_ins 199 20 = some (.aload_n 0, 21, 0) := by decide +kernel
theorem i199_21 : ts_ins 199 21 = some (.iload_n 1, 22, 0) := by decide +kernel
theorem i199_22 : ts_ins 199 22 = some (.invokevirtual 115, 25, 0) := by decide +kernel
theorem g199_22 : ts_cal (ts_mc 199) 115 = some (0, 153, 1) := by decide +kernel
theorem i199_25 : ts_ins 199 25 = some (.ifCond .ge 9, 28, 34) := by decide +kernel
theorem i199_28 : ts_ins 199 28 = some (.aload_n 0, 29, 0) := by decide +kernel
theorem i199_29 : ts_ins 199 29 = some (.iload_n 1, 30, 0) := by decide +kernel
theorem i199_30 : ts_ins 199 30 = some (.invokevirtual 115, 33, 0) := by decide +kernel
theorem g199_30 : ts_cal (ts_mc 199) 115 = some (0, 153, 1) := by decide +kernel
theorem i199_33 : ts_ins 199 33 = some (.ireturn, 34, 0) := by decide +kernel
theorem i199_34 : ts_ins 199 34 = some (.aload_n 0, 35, 0) := by decide +kernel
theorem i199_35 : ts_ins 199 35 = some (.iload_n 1, 36, 0) := by decide +kernel
theorem i199_36 : ts_ins 199 36 = some (.invokevirtual 256, 39, 0) := by decide +kernel
theorem g199_36 : ts_cal (ts_mc 199) 256 = some (0, 191, 1) := by decide +kernel
theorem i199_39 : ts_ins 199 39 = some (.aload_n 0, 40, 0) := by decide +kernel
theorem i199_40 : ts_ins 199 40 = some (.getfield 22, 43, 0) := by decide +kernel
theorem g199_40 : ts_fm 199 22 = some (12, 8, 2) := by decide +kernel
theorem i199_43 : ts_ins 199 43 = some (.iload_n 2, 44, 0) := by decide +kernel
theorem i199_44 : ts_ins 199 44 = some (.iaload, 45, 0) := by decide +kernel
theorem i199_45 : ts_ins 199 45 = some (.aload_n 0, 46, 0) := by decide +kernel
theorem i199_46 : ts_ins 199 46 = some (.getfield 247, 49, 0) := by decide +kernel
theorem g199_46 : ts_fm 199 247 = some (12, 25, 0) := by decide +kernel
theorem i199_49 : ts_ins 199 49 = some (.if_icmp .ne 11, 52, 60) := by decide +kernel
theorem i199_52 : ts_ins 199 52 = some (.aload_n 0, 53, 0) := by decide +kernel
theorem i199_53 : ts_ins 199 53 = some (.iload_n 2, 54, 0) := by decide +kernel
theorem i199_54 : ts_ins 199 54 = some (.invokevirtual 250, 57, 0) := by decide +kernel
theorem g199_54 : ts_cal (ts_mc 199) 250 = some (0, 192, 1) := by decide +kernel
theorem i199_57 : ts_ins 199 57 = some (.goto 5, 60, 62) := by decide +kernel
theorem i199_60 : ts_ins 199 60 = some (.bipush (-2), 62, 0) := by decide +kernel
theorem i199_62 : ts_ins 199 62 = some (.ireturn, 63, 0) := by decide +kernel
theorem r199 : ts_rt 199 = ((some .int), 0, 0) := by decide +kernel
theorem l199 : ts_ml 199 = 3 := by decide +kernel
theorem i74_0 : ts_ins 74 0 = some (.aload_n 0, 1, 0) := by decide +kernel
theorem i74_1 : ts_ins 74 1 = some (.iload_n 1, 2, 0) := by decide +kernel
theorem i74_2 : ts_ins 74 2 = some (.invokevirtual 63, 5, 0) := by decide +kernel
theorem g74_2 : ts_cal (ts_mc 74) 63 = some (0, 71, 1) := by decide +kernel
theorem i74_5 : ts_ins 74 5 = some (.istore_n 2, 6, 0) := by decide +kernel
theorem i74_6 : ts_ins 74 6 = some (.iload_n 2, 7, 0) := by decide +kernel
theorem i74_7 : ts_ins 74 7 = some (.bipush (-2), 9, 0) := by decide +kernel
theorem i74_9 : ts_ins 74 9 = some (.if_icmp .ne 5, 12, 14) := by decide +kernel
theorem i74_12 : ts_ins 74 12 = some (.lconst 0, 13, 0) := by decide +kernel
theorem i74_13 : ts_ins 74 13 = some (.lreturn, 14, 0) := by decide +kernel
theorem i74_14 : ts_ins 74 14 = some (.lconst 1, 15, 0) := by decide +kernel
theorem i74_15 : ts_ins 74 15 = some (.lstore_n 3, 16, 0) := by decide +kernel
theorem i74_16 : ts_ins 74 16 = some (.iconst 0, 17, 0) := by decide +kernel
theorem i74_17 : ts_ins 74 17 = some (.istore 5, 19, 0) := by decide +kernel
theorem i74_19 : ts_ins 74 19 = some (.iload 5, 21, 0) := by decide +kernel
theorem i74_21 : ts_ins 74 21 = some (.aload_n 0, 22, 0) := by decide +kernel
theorem i74_22 : ts_ins 74 22 = some (.getfield 15, 25, 0) := by decide +kernel
theorem g74_22 : ts_fm 74 15 = some (8, 2, 0) := by decide +kernel
theorem i74_25 : ts_ins 74 25 = some (.if_icmp .ge 70, 28, 95) := by decide +kernel
theorem i74_28 : ts_ins 74 28 = some (.aload_n 0, 29, 0) := by decide +kernel
theorem i74_29 : ts_ins 74 29 = some (.getfield 19, 32, 0) := by decide +kernel
theorem g74_29 : ts_fm 74 19 = some (8, 0, 2) := by decide +kernel
theorem i74_32 : ts_ins 74 32 = some (.iload 5, 34, 0) := by decide +kernel
theorem i74_34 : ts_ins 74 34 = some (.invokevirtual 48, 37, 0) := by decide +kernel
theorem g74_34 : ts_cal (ts_mc 74) 48 = some (0, 25, 1) := by decide +kernel
theorem i74_37 : ts_ins 74 37 = some (.istore 6, 39, 0) := by decide +kernel
theorem i74_39 : ts_ins 74 39 = some (.iload 6, 41, 0) := by decide +kernel
theorem i74_41 : ts_ins 74 41 = some (.bipush (-2), 43, 0) := by decide +kernel
theorem i74_43 : ts_ins 74 43 = some (.if_icmp .ne 7, 46, 50) := by decide +kernel
theorem i74_46 : ts_ins 74 46 = some (.iconst 0, 47, 0) := by decide +kernel
theorem i74_47 : ts_ins 74 47 = some (.goto 13, 50, 60) := by decide +kernel
theorem i74_50 : ts_ins 74 50 = some (.aload_n 0, 51, 0) := by decide +kernel
theorem i74_51 : ts_ins 74 51 = some (.getfield 19, 54, 0) := by decide +kernel
theorem g74_51 : ts_fm 74 19 = some (8, 0, 2) := by decide +kernel
theorem i74_54 : ts_ins 74 54 = some (.getfield 52, 57, 0) := by decide +kernel
theorem g74_54 : ts_fm 74 52 = some (3, 4, 2) := by decide +kernel
theorem i74_57 : ts_ins 74 57 = some (.iload 6, 59, 0) := by decide +kernel
theorem i74_59 : ts_ins 74 59 = some (.iaload, 60, 0) := by decide +kernel
theorem i74_60 : ts_ins 74 60 = some (.istore 7, 62, 0) := by decide +kernel
theorem i74_62 : ts_ins 74 62 = some (.lload_n 3, 63, 0) := by decide +kernel
theorem i74_63 : ts_ins 74 63 = some (.iload_n 2, 64, 0) := by decide +kernel
theorem i74_64 : ts_ins 74 64 = some (.iload 5, 66, 0) := by decide +kernel
theorem i74_66 : ts_ins 74 66 = some (.ishr, 67, 0) := by decide +kernel
theorem i74_67 : ts_ins 74 67 = some (.iconst 1, 68, 0) := by decide +kernel
theorem i74_68 : ts_ins 74 68 = some (.iand, 69, 0) := by decide +kernel
theorem i74_69 : ts_ins 74 69 = some (.ifCond .ne 12, 72, 81) := by decide +kernel
theorem i74_72 : ts_ins 74 72 = some (.bipush 7, 74, 0) := by decide +kernel
theorem i74_74 : ts_ins 74 74 = some (.iload 7, 76, 0) := by decide +kernel
theorem i74_76 : ts_ins 74 76 = some (.imul, 77, 0) := by decide +kernel
theorem i74_77 : ts_ins 74 77 = some (.i2l, 78, 0) := by decide +kernel
theorem i74_78 : ts_ins 74 78 = some (.goto 9, 81, 87) := by decide +kernel
theorem i74_81 : ts_ins 74 81 = some (.bipush 12, 83, 0) := by decide +kernel
theorem i74_83 : ts_ins 74 83 = some (.iload 7, 85, 0) := by decide +kernel
theorem i74_85 : ts_ins 74 85 = some (.isub, 86, 0) := by decide +kernel
theorem i74_86 : ts_ins 74 86 = some (.i2l, 87, 0) := by decide +kernel
theorem i74_87 : ts_ins 74 87 = some (.lmul, 88, 0) := by decide +kernel
theorem i74_88 : ts_ins 74 88 = some (.lstore_n 3, 89, 0) := by decide +kernel
theorem i74_89 : ts_ins 74 89 = some (.iinc 5 1, 92, 0) := by decide +kernel
theorem i74_92 : ts_ins 74 92 = some (.goto (-73), 95, 19) := by decide +kernel
theorem i74_95 : ts_ins 74 95 = some (.lload_n 3, 96, 0) := by decide +kernel
theorem i74_96 : ts_ins 74 96 = some (.lreturn, 97, 0) := by decide +kernel
theorem r74 : ts_rt 74 = ((some .long), 0, 0) := by decide +kernel
theorem l74 : ts_ml 74 = 8 := by decide +kernel
theorem i196_0 : ts_ins 196 0 = some (.aload_n 0, 1, 0) := by decide +kernel
theorem i196_1 : ts_ins 196 1 = some (.getfield 22, 4, 0) := by decide +kernel
theorem g196_1 : ts_fm 196 22 = some (12, 8, 2) := by decide +kernel
theorem i196_4 : ts_ins 196 4 = some (.iload_n 1, 5, 0) := by decide +kernel
theorem i196_5 : ts_ins 196 5 = some (.iaload, 6, 0) := by decide +kernel
theorem i196_6 : ts_ins 196 6 = some (.aload_n 0, 7, 0) := by decide +kernel
theorem i196_7 : ts_ins 196 7 = some (.getfield 247, 10, 0) := by decide +kernel
theorem g196_7 : ts_fm 196 247 = some (12, 25, 0) := by decide +kernel
theorem i196_10 : ts_ins 196 10 = some (.if_icmp .eq 5, 13, 15) := by decide +kernel
theorem i196_13 : ts_ins 196 13 = some (.lconst 0, 14, 0) := by decide +kernel
theorem i196_14 : ts_ins 196 14 = some (.lreturn, 15, 0) := by decide +kernel
theorem i196_15 : ts_ins 196 15 = some (.lconst 1, 16, 0) := by decide +kernel
theorem i196_16 : ts_ins 196 16 = some (.lstore_n 2, 17, 0) := by decide +kernel
theorem i196_17 : ts_ins 196 17 = some (.iconst 0, 18, 0) := by decide +kernel
theorem i196_18 : ts_ins 196 18 = some (.istore 4, 20, 0) := by decide +kernel
theorem i196_20 : ts_ins 196 20 = some (.iload 4, 22, 0) := by decide +kernel
theorem i196_22 : ts_ins 196 22 = some (.aload_n 0, 23, 0) := by decide +kernel
theorem i196_23 : ts_ins 196 23 = some (.getfield 247, 26, 0) := by decide +kernel
theorem g196_23 : ts_fm 196 247 = some (12, 25, 0) := by decide +kernel
theorem i196_26 : ts_ins 196 26 = some (.if_icmp .ge 58, 29, 84) := by decide +kernel
theorem i196_29 : ts_ins 196 29 = some (.aload_n 0, 30, 0) := by decide +kernel
theorem i196_30 : ts_ins 196 30 = some (.getfield 9, 33, 0) := by decide +kernel
theorem g196_30 : ts_fm 196 9 = some (12, 0, 2) := by decide +kernel
theorem i196_33 : ts_ins 196 33 = some (.bipush 40, 35, 0) := by decide +kernel
theorem i196_35 : ts_ins 196 35 = some (.iload 4, 37, 0) := by decide +kernel
theorem i196_37 : ts_ins 196 37 = some (.aload_n 0, 38, 0) := by decide +kernel
theorem i196_38 : ts_ins 196 38 = some (.getfield 99, 41, 0) := by decide +kernel
theorem g196_38 : ts_fm 196 99 = some (12, 6, 0) := by decide +kernel
theorem i196_41 : ts_ins 196 41 = some (.irem, 42, 0) := by decide +kernel
theorem i196_42 : ts_ins 196 42 = some (.iadd, 43, 0) := by decide +kernel
theorem i196_43 : ts_ins 196 43 = some (.iaload, 44, 0) := by decide +kernel
theorem i196_44 : ts_ins 196 44 = some (.istore 5, 46, 0) := by decide +kernel
theorem i196_46 : ts_ins 196 46 = some (.lload_n 2, 47, 0) := by decide +kernel
theorem i196_47 : ts_ins 196 47 = some (.aload_n 0, 48, 0) := by decide +kernel
theorem i196_48 : ts_ins 196 48 = some (.iload_n 1, 49, 0) := by decide +kernel
theorem i196_49 : ts_ins 196 49 = some (.invokevirtual 250, 52, 0) := by decide +kernel
theorem g196_49 : ts_cal (ts_mc 196) 250 = some (0, 192, 1) := by decide +kernel
theorem i196_52 : ts_ins 196 52 = some (.iload 4, 54, 0) := by decide +kernel
theorem i196_54 : ts_ins 196 54 = some (.ishr, 55, 0) := by decide +kernel
theorem i196_55 : ts_ins 196 55 = some (.iconst 1, 56, 0) := by decide +kernel
theorem i196_56 : ts_ins 196 56 = some (.iand, 57, 0) := by decide +kernel
theorem i196_57 : ts_ins 196 57 = some (.iconst 1, 58, 0) := by decide +kernel
theorem i196_58 : ts_ins 196 58 = some (.if_icmp .ne 12, 61, 70) := by decide +kernel
theorem i196_61 : ts_ins 196 61 = some (.bipush 12, 63, 0) := by decide +kernel
theorem i196_63 : ts_ins 196 63 = some (.iload 5, 65, 0) := by decide +kernel
theorem i196_65 : ts_ins 196 65 = some (.isub, 66, 0) := by decide +kernel
theorem i196_66 : ts_ins 196 66 = some (.i2l, 67, 0) := by decide +kernel
theorem i196_67 : ts_ins 196 67 = some (.goto 9, 70, 76) := by decide +kernel
theorem i196_70 : ts_ins 196 70 = some (.bipush 7, 72, 0) := by decide +kernel
theorem i196_72 : ts_ins 196 72 = some (.iload 5, 74, 0) := by decide +kernel
theorem i196_74 : ts_ins 196 74 = some (.imul, 75, 0) := by decide +kernel
theorem i196_75 : ts_ins 196 75 = some (.i2l, 76, 0) := by decide +kernel
theorem i196_76 : ts_ins 196 76 = some (.lmul, 77, 0) := by decide +kernel
theorem i196_77 : ts_ins 196 77 = some (.lstore_n 2, 78, 0) := by decide +kernel
theorem i196_78 : ts_ins 196 78 = some (.iinc 4 1, 81, 0) := by decide +kernel
theorem i196_81 : ts_ins 196 81 = some (.goto (-61), 84, 20) := by decide +kernel
theorem i196_84 : ts_ins 196 84 = some (.lload_n 2, 85, 0) := by decide +kernel
theorem i196_85 : ts_ins 196 85 = some (.lreturn, 86, 0) := by decide +kernel
theorem r196 : ts_rt 196 = ((some .long), 0, 0) := by decide +kernel
theorem l196 : ts_ml 196 = 6 := by decide +kernel
/-! nearest, slips, likely -/
def g_nearA (s : ts_Sh) (f : ts_Fl) (x w : Int) : Int := if ¬ (0 ≤ w ∧ w ≤ 1) then -1 else if ¬ g_bytes s x = 0 then g_bytes s x else if w = 0 ∨ g_near f (g_heard s x) (s.2.2 x) < 0 then g_near f (g_heard s x) (s.2.2 x) else g_sc f (g_heard s x) (s.2.2 x) (g_near f (g_heard s x) (s.2.2 x))
def g_slipA (s : ts_Sh) (f : ts_Fl) (x t : Int) : Int := if ¬ (0 ≤ t ∧ t < f_told f) then -1 else if ¬ g_bytes s x = 0 then g_bytes s x else if f_len f t = g_heard s x then g_sb f (g_heard s x) (s.2.2 x) t else -2
abbrev g_arm (f : ts_Fl) (k : Int) : Int := f_arm f (k % f_men f)
def g_w (f : ts_Fl) (n : Int) (g : Int → Int) (t : Int) : Int := if f_len f t = n then zwh n (fun k w => w * (if g_dif f g t k then 12 - g_arm f k else 7 * g_arm f k)) 0 1 else 0
def g_wall (f : ts_Fl) (n : Int) (g : Int → Int) : Int := zwh (f_told f) (fun t a => a + g_w f n g t) 0 0
def zg : Nat → Int → Int → Int
  | 0, a, _ => a
  | n + 1, a, b => if b = 0 then a else zg n b (a % b)
def g_lik (s : ts_Sh) (f : ts_Fl) (x t p : Int) : Int := if ¬ ((0 ≤ t ∧ t < f_told f) ∧ (0 ≤ p ∧ p ≤ 1) ∧ ¬ f_men f = 0 ∧ g_bytes s x = 0) then -9223372036854775808 else if g_w f (g_heard s x) (s.2.2 x) t = 0 then p else (if p = 0 then g_w f (g_heard s x) (s.2.2 x) t else g_wall f (g_heard s x) (s.2.2 x)) / zg 200 (g_w f (g_heard s x) (s.2.2 x) t) (g_wall f (g_heard s x) (s.2.2 x))
theorem zg_r {B : Int} : ∀ n : Nat, ∀ a b : Int, 0 < a → a ≤ B → 0 ≤ b → b ≤ B → 0 < zg n a b ∧ zg n a b ≤ B := by
  intro n
  induction n with
  | zero => intro a b h1 h2 h3 h4; exact ⟨h1, h2⟩
  | succ n ih =>
    intro a b h1 h2 h3 h4
    show 0 < (if b = 0 then a else zg n b (a % b)) ∧ (if b = 0 then a else zg n b (a % b)) ≤ B
    by_cases c : b = 0
    · rw [if_pos c]; exact ⟨h1, h2⟩
    · rw [if_neg c]
      have q1 := Int.emod_nonneg a c
      have q2 := Int.emod_lt_of_pos a (show 0 < b by omega)
      exact ih b (a % b) (by omega) h4 q1 (by omega)
theorem zg_0 {n : Nat} {a b : Int} (h : b = 0) : zg n a b = a := by
  cases n with
  | zero => rfl
  | succ n => exact if_pos h
theorem zg_1 {n : Nat} {a b : Int} (h : ¬ b = 0) : zg (n + 1) a b = zg n b (a % b) := if_neg h
theorem zp84 {k : Int} (h0 : 0 ≤ k) (h1 : k ≤ 6) : (84 : Int) ^ k.toNat ≤ 351298031616 := by
  rcases (show k = 0 ∨ k = 1 ∨ k = 2 ∨ k = 3 ∨ k = 4 ∨ k = 5 ∨ k = 6 by omega) with rfl | rfl | rfl | rfl | rfl | rfl | rfl <;> decide
theorem zp84s {k w t : Int} (h0 : 0 ≤ k) (hw : 0 ≤ w ∧ w ≤ (84 : Int) ^ k.toNat) (ht : 0 ≤ t ∧ t ≤ 84) : 0 ≤ w * t ∧ w * t ≤ (84 : Int) ^ (k + 1).toNat := by
  refine ⟨Int.mul_nonneg hw.1 ht.1, ?_⟩
  rw [show (k + 1).toNat = k.toNat + 1 from by omega, Int.pow_succ]
  exact Int.mul_le_mul hw.2 ht.2 ht.1 (Int.le_trans hw.1 hw.2)
theorem g_w_r {f : ts_Fl} {n : Int} (hn : 0 ≤ n ∧ n ≤ 6) (hm : 0 < f_men f ∧ f_men f ≤ 4) (ha : ∀ p, 0 ≤ p → p < 4 → 0 ≤ f_arm f p ∧ f_arm f p ≤ 12) (g : Int → Int) (t : Int) : 0 ≤ g_w f n g t ∧ g_w f n g t ≤ 351298031616 := by
  unfold g_w
  by_cases c : f_len f t = n
  · rw [if_pos c]
    have key : ∀ k : Int, 0 ≤ k → k ≤ n → ∀ w : Int, (0 ≤ w ∧ w ≤ (84 : Int) ^ k.toNat) → 0 ≤ zwh n (fun k w => w * (if g_dif f g t k then 12 - g_arm f k else 7 * g_arm f k)) k w ∧ zwh n (fun k w => w * (if g_dif f g t k then 12 - g_arm f k else 7 * g_arm f k)) k w ≤ 351298031616 := by
      refine ts_ind n (fun k ih h0 h1 w hw => ?_)
      by_cases c2 : k < n
      · rw [zwh_1 c2]
        have q : 0 ≤ g_arm f k ∧ g_arm f k ≤ 12 := ha (k % f_men f) (Int.emod_nonneg _ (by omega)) (by have := Int.emod_lt_of_pos k hm.1; omega)
        refine ih c2 (by omega) (by omega) _ (zp84s h0 hw ?_)
        split <;> omega
      · rw [zwh_0 c2]
        have q := zp84 h0 (by omega)
        exact ⟨hw.1, Int.le_trans hw.2 q⟩
    exact key 0 (by decide) hn.1 1 (by decide)
  · rw [if_neg c]
    decide
theorem g_wall_r {f : ts_Fl} {n : Int} (hn : 0 ≤ n ∧ n ≤ 6) (hm : 0 < f_men f ∧ f_men f ≤ 4) (hT : 0 ≤ f_told f ∧ f_told f ≤ 8) (ha : ∀ p, 0 ≤ p → p < 4 → 0 ≤ f_arm f p ∧ f_arm f p ≤ 12) (g : Int → Int) : 0 ≤ g_wall f n g ∧ g_wall f n g ≤ 2810384252928 := by
  unfold g_wall
  have key : ∀ k : Int, 0 ≤ k → k ≤ f_told f → ∀ w : Int, (0 ≤ w ∧ w ≤ 351298031616 * k) → 0 ≤ zwh (f_told f) (fun t a => a + g_w f n g t) k w ∧ zwh (f_told f) (fun t a => a + g_w f n g t) k w ≤ 2810384252928 := by
    refine ts_ind (f_told f) (fun k ih h0 h1 w hw => ?_)
    by_cases c2 : k < f_told f
    · rw [zwh_1 c2]
      have q := g_w_r hn hm ha g k
      exact ih c2 (by omega) (by omega) _ (by omega)
    · rw [zwh_0 c2]
      omega
  exact key 0 (by decide) hT.1 0 (by decide)
section LI
variable {X : ts_X} {I J : Nat → Nat → Int32} {L : Nat → Nat → Int64} {sw : Bool} {K : Option Value → ts_H → Prop} {d : Nat} {f : ts_Fl} {s : ts_Sh} {n : Int} {g : Int → Int}
theorem RX.fox (h : RX I f) (e : fr fox I J) : RX J f := h.co (fun a p0 p1 => fr_row e (fun k => by omega))
theorem RM.fom (h : RM I f) (e : fr fom I J) : RM J f := h.co72 (fr_row e (fun k => by omega)) (fr_row e (fun k => by omega)) (e 72 6 (by omega)) (e 72 7 (by omega))
theorem RMs.fom (h : RMs I L s) (e : fr fom I J) : RMs J L s := h.co (fun a p0 p1 => ⟨fr_row e (fun k => by omega), rfl⟩)
theorem x_nearest (hX : RX I f) (hS : RXs I L s) {x w : Int} (hx : -2147483648 ≤ x ∧ x ≤ 2147483647) (hw : -2147483648 ≤ w ∧ w ≤ 2147483647) (hK : ∀ J, fr fox I J → K (some (.int (zI (g_nearA s f x w)))) (J, L, ts_P0 sw, ts_S0)) : ts_Cal X (d + 5) 109 [.ref 1, .int (zI (x)), .int (zI (w))] (I, L, ts_P0 sw, ts_S0) K := by
  have gr := g_bytes_r s x
  have b1 := hX.told.2
  unfold g_nearA at hK
  refine ev_enter (lv := [.ref 1, .int (zI (x)), .int (zI (w)), .null, .null]) l109 rfl (Nat.le_of_ble_eq_true rfl) ?_
  refine ev_iloadn_2 i109_0 ?_
  refine ev_stat1 i109_1 g109_1 (by decide +kernel) (Nat.le_of_ble_eq_true rfl) (x_isPart hw ?_)
  first
  | refine ew_ifneB i109_4 (fun c4 => ?_) (fun c4 => ?_)
  | refine ew_ifne i109_4 (by omega) (fun c4 => ?_) (fun c4 => ?_)
  · rw [if_neg (fun r => r c4)] at hK
    refine ev_aloadn_0 i109_9 ?_
    refine ev_iloadn_1 i109_10 ?_
    refine ev_virt1 i109_11 g109_11 rfl (by decide +kernel) (Nat.le_of_ble_eq_true rfl) (x_bytesOn hS hx ?_)
    refine ev_istoren_3 i109_14 rfl ?_
    refine ev_iloadn_3 i109_15 ?_
    first
    | refine ew_ifeqB i109_16 (fun c16 => ?_) (fun c16 => ?_)
    | refine ew_ifeq i109_16 (by omega) (fun c16 => ?_) (fun c16 => ?_)
    · rw [if_neg (fun r => r c16)] at hK
      have h0 := g_bytes_0 c16
      obtain ⟨q, rfl⟩ : ∃ q : Nat, x = q := ⟨x.toNat, by omega⟩
      have hq : q < 6 := by omega
      refine ev_aloadn_0 i109_21 ?_
      refine ev_getA i109_22 g109_22 rfl rfl (by decide) ?_
      refine ev_aloadn_0 i109_25 ?_
      refine ev_getA i109_26 g109_26 rfl rfl (by decide) ?_
      refine ev_iloadn_1 i109_29 ?_
      refine ew_aaload i109_30 rfl (by omega) (by omega) (by omega) (she_Sq hq) (by omega) ?_
      refine ev_virt1 i109_31 g109_31 rfl (by decide +kernel) (Nat.le_of_ble_eq_true rfl) (x_hear hS hq (fun J h1 h2 => ?_))
      refine ev_aloadn_0 i109_34 ?_
      refine ev_getA i109_35 g109_35 rfl rfl (by decide) ?_
      refine ev_virt0 i109_38 g109_38 rfl (by decide +kernel) (Nat.le_of_ble_eq_true rfl) (x_nearestSaying (hX.fox h1) h2 (fun q0 q1 q2 q3 => ?_))
      refine ev_istore_4 i109_41 rfl ?_
      refine ev_iloadn_2 i109_43 ?_
      first
      | refine ew_ifeqB i109_44 (fun c44 => ?_) (fun c44 => ?_)
      | refine ew_ifeq i109_44 (by omega) (fun c44 => ?_) (fun c44 => ?_)
      · refine ev_iload_4 i109_54 ?_
        refine ev_goto i109_56 ?_
        refine ev_ireturn i109_68 r109 ?_
        have e := hK J h1
        first
        | (rw [if_pos (Or.inl c44)] at e
           exact e)
        | (rw [if_pos (Or.inr (by omega))] at e
           exact e)
        | (rw [if_neg (by omega)] at e
           rw [if_pos (q3 (by omega))]
           exact e)
      · refine ev_iload_4 i109_47 ?_
        refine ew_bipush i109_49 (by decide) ?_
        refine ew_icmpne i109_51 (by omega) (fun c51 => ?_) (fun c51 => ?_)
        · refine ev_aloadn_0 i109_59 ?_
          refine ev_getA i109_60 g109_60 rfl rfl (by decide) ?_
          refine ev_iload_4 i109_63 ?_
          refine ev_virt1 i109_65 g109_65 rfl (by decide +kernel) (Nat.le_of_ble_eq_true rfl) (x_slipsFrom (hX.fox h1) h2 (by omega) ?_)
          refine ev_ireturn i109_68 r109 ?_
          have e := hK J h1
          first
          | (rw [if_pos (Or.inl c44)] at e
             exact e)
          | (rw [if_pos (Or.inr (by omega))] at e
             exact e)
          | (rw [if_neg (by omega)] at e
             rw [if_pos (q3 (by omega))]
             exact e)
        · refine ev_iload_4 i109_54 ?_
          refine ev_goto i109_56 ?_
          refine ev_ireturn i109_68 r109 ?_
          have e := hK J h1
          first
          | (rw [if_pos (Or.inl c44)] at e
             exact e)
          | (rw [if_pos (Or.inr (by omega))] at e
             exact e)
          | (rw [if_neg (by omega)] at e
             rw [if_pos (q3 (by omega))]
             exact e)
    · refine ev_iloadn_3 i109_19 ?_
      refine ev_ireturn i109_20 r109 ?_
      rw [if_pos c16] at hK
      exact hK I (fr_rfl _ _)
  · refine ew_iconst i109_7 ?_
    refine ev_ireturn i109_8 r109 ?_
    rw [if_pos c4] at hK
    exact hK I (fr_rfl _ _)
theorem m_nearest (hM : RM I f) (hS : RMs I L s) {x w : Int} (hx : -2147483648 ≤ x ∧ x ≤ 2147483647) (hw : -2147483648 ≤ w ∧ w ≤ 2147483647) (hK : ∀ J, fr fom I J → K (some (.int (zI (g_nearA s f x w)))) (J, L, ts_P0 sw, ts_S0)) : ts_Cal X (d + 5) 195 [.ref 72, .int (zI (x)), .int (zI (w))] (I, L, ts_P0 sw, ts_S0) K := by
  have gr := g_bytes_r s x
  have b1 := hM.told.2
  unfold g_nearA at hK
  refine ev_enter (lv := [.ref 72, .int (zI (x)), .int (zI (w)), .null]) l195 rfl (Nat.le_of_ble_eq_true rfl) ?_
  refine ev_aloadn_0 i195_0 ?_
  refine ev_iloadn_1 i195_1 ?_
  refine ev_virt1 i195_2 g195_2 rfl (by decide +kernel) (Nat.le_of_ble_eq_true rfl) (m_bytesIs hS hx ?_)
  refine ew_iconst i195_5 ?_
  refine ew_icmpeq i195_6 (by omega) (fun c6 => ?_) (fun c6 => ?_)
  · refine ew_iconst i195_19 ?_
    refine ev_ireturn i195_20 r195 ?_
    by_cases c : 0 ≤ w ∧ w ≤ 1
    · rw [if_neg (fun r => r c), if_pos (by omega)] at hK
      exact zK (hK I (fr_rfl _ _)) (by omega)
    · rw [if_pos c] at hK
      exact hK I (fr_rfl _ _)
  · refine ev_iloadn_2 i195_9 ?_
    refine ew_i2l i195_10 (by omega) ?_
    refine ew_lconst (z := 0) i195_11 (by decide) ?_
    refine ew_lconst (z := 1) i195_12 (by decide) ?_
    refine ev_stat3 i195_13 g195_13 (by decide +kernel) (Nat.le_of_ble_eq_true rfl) (m_within (by omega) (by omega) (by omega) ?_)
    first
    | refine ew_ifneB i195_16 (fun c16 => ?_) (fun c16 => ?_)
    | refine ew_ifne i195_16 (by omega) (fun c16 => ?_) (fun c16 => ?_)
    · rw [if_neg (fun r => r c16)] at hK
      refine ev_aloadn_0 i195_21 ?_
      refine ev_iloadn_1 i195_22 ?_
      refine ev_virt1 i195_23 g195_23 rfl (by decide +kernel) (Nat.le_of_ble_eq_true rfl) (m_bytesIs hS hx ?_)
      refine ew_ifge i195_26 (by omega) (fun c26 => ?_) (fun c26 => ?_)
      · have c0 : g_bytes s x = 0 := by omega
        rw [if_neg (fun r => r c0)] at hK
        have h0 := g_bytes_0 c0
        refine ev_aloadn_0 i195_35 ?_
        refine ev_iloadn_1 i195_36 ?_
        refine ev_virt1 i195_37 g195_37 rfl (by decide +kernel) (Nat.le_of_ble_eq_true rfl) (m_takesSound hS (by omega) (fun J h1 h2 => ?_))
        refine ev_aloadn_0 i195_40 ?_
        refine ev_virt0 i195_41 g195_41 rfl (by decide +kernel) (Nat.le_of_ble_eq_true rfl) (m_nearestNow (hM.fom h1) h2 (fun q0 q1 q2 q3 => ?_))
        refine ev_istoren_3 i195_44 rfl ?_
        refine ev_iloadn_3 i195_45 ?_
        refine ew_iflt i195_46 (by omega) (fun c46 => ?_) (fun c46 => ?_)
        · refine ev_iloadn_3 i195_53 ?_
          refine ev_goto i195_54 ?_
          refine ev_ireturn i195_65 r195 ?_
          have e := hK J h1
          first
          | (rw [if_pos (Or.inr c46)] at e
             exact e)
          | (rw [if_pos (Or.inl c50)] at e
             exact e)
          | (rw [if_neg (by omega)] at e
             exact e)
        · refine ev_iloadn_2 i195_49 ?_
          first
          | refine ew_ifneB i195_50 (fun c50 => ?_) (fun c50 => ?_)
          | refine ew_ifne i195_50 (by omega) (fun c50 => ?_) (fun c50 => ?_)
          · refine ev_aloadn_0 i195_57 ?_
            refine ev_iloadn_3 i195_58 ?_
            refine ev_virt1 i195_59 g195_59 rfl (by decide +kernel) (Nat.le_of_ble_eq_true rfl) (m_slipsOf (hM.fom h1) h2 (by omega) ?_)
            refine ev_stat1 i195_62 g195_62 (by decide +kernel) (Nat.le_of_ble_eq_true rfl) (m_bitsOf _ (by have := h2.1.2; omega) ?_)
            refine ev_ireturn i195_65 r195 ?_
            have e := hK J h1
            first
            | (rw [if_pos (Or.inr c46)] at e
               exact e)
            | (rw [if_pos (Or.inl c50)] at e
               exact e)
            | (rw [if_neg (by omega)] at e
               exact e)
          · refine ev_iloadn_3 i195_53 ?_
            refine ev_goto i195_54 ?_
            refine ev_ireturn i195_65 r195 ?_
            have e := hK J h1
            first
            | (rw [if_pos (Or.inr c46)] at e
               exact e)
            | (rw [if_pos (Or.inl c50)] at e
               exact e)
            | (rw [if_neg (by omega)] at e
               exact e)
      · refine ev_aloadn_0 i195_29 ?_
        refine ev_iloadn_1 i195_30 ?_
        refine ev_virt1 i195_31 g195_31 rfl (by decide +kernel) (Nat.le_of_ble_eq_true rfl) (m_bytesIs hS hx ?_)
        refine ev_ireturn i195_34 r195 ?_
        rw [if_pos (by omega)] at hK
        exact zK (hK I (fr_rfl _ _)) (by omega)
    · refine ew_iconst i195_19 ?_
      refine ev_ireturn i195_20 r195 ?_
      by_cases c : 0 ≤ w ∧ w ≤ 1
      · rw [if_neg (fun r => r c), if_pos (by omega)] at hK
        exact zK (hK I (fr_rfl _ _)) (by omega)
      · rw [if_pos c] at hK
        exact hK I (fr_rfl _ _)
theorem x_slips (hX : RX I f) (hS : RXs I L s) {x t : Int} (hx : -2147483648 ≤ x ∧ x ≤ 2147483647) (ht : -2147483648 ≤ t ∧ t ≤ 2147483647) (hK : ∀ J, fr fox I J → K (some (.int (zI (g_slipA s f x t)))) (J, L, ts_P0 sw, ts_S0)) : ts_Cal X (d + 4) 111 [.ref 1, .int (zI (x)), .int (zI (t))] (I, L, ts_P0 sw, ts_S0) K := by
  have gr := g_bytes_r s x
  unfold g_slipA at hK
  refine ev_enter (lv := [.ref 1, .int (zI (x)), .int (zI (t)), .null]) l111 rfl (Nat.le_of_ble_eq_true rfl) ?_
  refine ev_aloadn_0 i111_0 ?_
  refine ev_getA i111_1 g111_1 rfl rfl (by decide) ?_
  refine ev_iloadn_2 i111_4 ?_
  refine ev_virt1 i111_5 g111_5 rfl (by decide +kernel) (Nat.le_of_ble_eq_true rfl) (x_hasSaying hX ht ?_)
  first
  | refine ew_ifneB i111_8 (fun c8 => ?_) (fun c8 => ?_)
  | refine ew_ifne i111_8 (by omega) (fun c8 => ?_) (fun c8 => ?_)
  · rw [if_neg (fun r => r c8)] at hK
    refine ev_aloadn_0 i111_13 ?_
    refine ev_iloadn_1 i111_14 ?_
    refine ev_virt1 i111_15 g111_15 rfl (by decide +kernel) (Nat.le_of_ble_eq_true rfl) (x_bytesOn hS hx ?_)
    refine ev_istoren_3 i111_18 rfl ?_
    refine ev_iloadn_3 i111_19 ?_
    first
    | refine ew_ifeqB i111_20 (fun c20 => ?_) (fun c20 => ?_)
    | refine ew_ifeq i111_20 (by omega) (fun c20 => ?_) (fun c20 => ?_)
    · rw [if_neg (fun r => r c20)] at hK
      have h0 := g_bytes_0 c20
      obtain ⟨q, rfl⟩ : ∃ q : Nat, x = q := ⟨x.toNat, by omega⟩
      have hq : q < 6 := by omega
      refine ev_aloadn_0 i111_25 ?_
      refine ev_getA i111_26 g111_26 rfl rfl (by decide) ?_
      refine ev_aloadn_0 i111_29 ?_
      refine ev_getA i111_30 g111_30 rfl rfl (by decide) ?_
      refine ev_iloadn_1 i111_33 ?_
      refine ew_aaload i111_34 rfl (by omega) (by omega) (by omega) (she_Sq hq) (by omega) ?_
      refine ev_virt1 i111_35 g111_35 rfl (by decide +kernel) (Nat.le_of_ble_eq_true rfl) (x_hear hS hq (fun J h1 h2 => ?_))
      refine ev_aloadn_0 i111_38 ?_
      refine ev_getA i111_39 g111_39 rfl rfl (by decide) ?_
      refine ev_iloadn_2 i111_42 ?_
      refine ev_virt1 i111_43 g111_43 rfl (by decide +kernel) (Nat.le_of_ble_eq_true rfl) (x_slipBits (hX.fox h1) h2 c8 ?_)
      refine ev_ireturn i111_46 r111 ?_
      exact hK J h1
    · refine ev_iloadn_3 i111_23 ?_
      refine ev_ireturn i111_24 r111 ?_
      rw [if_pos c20] at hK
      exact hK I (fr_rfl _ _)
  · refine ew_iconst i111_11 ?_
    refine ev_ireturn i111_12 r111 ?_
    rw [if_pos c8] at hK
    exact hK I (fr_rfl _ _)
theorem m_slips (hM : RM I f) (hS : RMs I L s) {x t : Int} (hx : -2147483648 ≤ x ∧ x ≤ 2147483647) (ht : -2147483648 ≤ t ∧ t ≤ 2147483647) (hK : ∀ J, fr fom I J → K (some (.int (zI (g_slipA s f x t)))) (J, L, ts_P0 sw, ts_S0)) : ts_Cal X (d + 4) 199 [.ref 72, .int (zI (x)), .int (zI (t))] (I, L, ts_P0 sw, ts_S0) K := by
  have gr := g_bytes_r s x
  have b1 := hM.told.2
  unfold g_slipA at hK
  refine ev_enter (lv := [.ref 72, .int (zI (x)), .int (zI (t))]) l199 rfl (Nat.le_of_ble_eq_true rfl) ?_
  refine ev_aloadn_0 i199_0 ?_
  refine ev_iloadn_1 i199_1 ?_
  refine ev_virt1 i199_2 g199_2 rfl (by decide +kernel) (Nat.le_of_ble_eq_true rfl) (m_bytesIs hS hx ?_)
  refine ew_iconst i199_5 ?_
  refine ew_icmpeq i199_6 (by omega) (fun c6 => ?_) (fun c6 => ?_)
  · refine ew_iconst i199_18 ?_
    refine ev_ireturn i199_19 r199 ?_
    by_cases c : 0 ≤ t ∧ t < f_told f
    · rw [if_neg (fun r => r c), if_pos (by omega)] at hK
      exact zK (hK I (fr_rfl _ _)) (by omega)
    · rw [if_pos c] at hK
      exact hK I (fr_rfl _ _)
  · refine ev_aloadn_0 i199_9 ?_
    refine ev_iloadn_2 i199_10 ?_
    refine ew_i2l i199_11 (by omega) ?_
    refine ev_virt1 i199_12 g199_12 rfl (by decide +kernel) (Nat.le_of_ble_eq_true rfl) (m_isSaying hM (by omega) ?_)
    first
    | refine ew_ifneB i199_15 (fun c15 => ?_) (fun c15 => ?_)
    | refine ew_ifne i199_15 (by omega) (fun c15 => ?_) (fun c15 => ?_)
    · rw [if_neg (fun r => r c15)] at hK
      refine ev_aloadn_0 i199_20 ?_
      refine ev_iloadn_1 i199_21 ?_
      refine ev_virt1 i199_22 g199_22 rfl (by decide +kernel) (Nat.le_of_ble_eq_true rfl) (m_bytesIs hS hx ?_)
      refine ew_ifge i199_25 (by omega) (fun c25 => ?_) (fun c25 => ?_)
      · have c0 : g_bytes s x = 0 := by omega
        rw [if_neg (fun r => r c0)] at hK
        have h0 := g_bytes_0 c0
        refine ev_aloadn_0 i199_34 ?_
        refine ev_iloadn_1 i199_35 ?_
        refine ev_virt1 i199_36 g199_36 rfl (by decide +kernel) (Nat.le_of_ble_eq_true rfl) (m_takesSound hS (by omega) (fun J h1 h2 => ?_))
        refine ev_aloadn_0 i199_39 ?_
        refine ev_getA i199_40 g199_40 rfl rfl (by decide) ?_
        refine ev_iloadn_2 i199_43 ?_
        refine ew_iaload i199_44 rfl (by omega) (by omega) (by omega) ((hM.fom h1).len _ (by omega) (by omega)) (fun b44 => ?_)
        refine ev_aloadn_0 i199_45 ?_
        refine ew_getI i199_46 g199_46 rfl (h2.1) (fun b46 => ?_)
        refine ew_icmpne i199_49 (by omega) (fun c49 => ?_) (fun c49 => ?_)
        · refine ew_bipush i199_60 (by decide) ?_
          refine ev_ireturn i199_62 r199 ?_
          have e := hK J h1
          first
          | (rw [if_pos c49] at e
             exact e)
          | (rw [if_neg c49] at e
             exact e)
        · refine ev_aloadn_0 i199_52 ?_
          refine ev_iloadn_2 i199_53 ?_
          refine ev_virt1 i199_54 g199_54 rfl (by decide +kernel) (Nat.le_of_ble_eq_true rfl) (m_slipsOf (hM.fom h1) h2 c15 ?_)
          refine ev_goto i199_57 ?_
          refine ev_ireturn i199_62 r199 ?_
          have e := hK J h1
          first
          | (rw [if_pos c49] at e
             exact e)
          | (rw [if_neg c49] at e
             exact e)
      · refine ev_aloadn_0 i199_28 ?_
        refine ev_iloadn_1 i199_29 ?_
        refine ev_virt1 i199_30 g199_30 rfl (by decide +kernel) (Nat.le_of_ble_eq_true rfl) (m_bytesIs hS hx ?_)
        refine ev_ireturn i199_33 r199 ?_
        rw [if_pos (by omega)] at hK
        exact zK (hK I (fr_rfl _ _)) (by omega)
    · refine ew_iconst i199_18 ?_
      refine ev_ireturn i199_19 r199 ?_
      by_cases c : 0 ≤ t ∧ t < f_told f
      · rw [if_neg (fun r => r c), if_pos (by omega)] at hK
        exact zK (hK I (fr_rfl _ _)) (by omega)
      · rw [if_pos c] at hK
        exact hK I (fr_rfl _ _)
theorem x_weightOf (hX : RX I f) (hO : RXo I n g) (hm : 0 < f_men f) {t : Int} (ht : 0 ≤ t ∧ t < f_told f) (hK : K (some (.long (zL (g_w f n g t)))) (I, L, ts_P0 sw, ts_S0)) : ts_Cal X (d + 3) 74 [.ref 40, .int (zI (t))] (I, L, ts_P0 sw, ts_S0) K := by
  have b1 := hX.men.2
  have b3 := hO.1.2
  have r1 := g_sb_r (f := f) b3 g t
  unfold g_w at hK
  have loop : f_len f t = n → ∀ k : Int, 0 ≤ k → k ≤ n → ∀ w o o2, zwh n (fun k w => w * (if g_dif f g t k then 12 - g_arm f k else 7 * g_arm f k)) k w = zwh n (fun k w => w * (if g_dif f g t k then 12 - g_arm f k else 7 * g_arm f k)) 0 1 → ts_Ev X (ts_Cal X (d + 2)) 74 ts_S0 K 19 [.ref 40, .int (zI (t)), .int (zI (g_sb f n g t)), .long (zL (w)), .null, .int (zI (k)), o, o2] [] (I, L, ts_P0 sw, ts_S0) := by
    intro he
    refine ts_ind n (fun k ih h0 h1 w o o2 h2 => ?_)
    have bit := zbits_bit (g_dif f g t) (n := n.toNat) (by omega) h0 (by omega)
    refine ev_iload_5 i74_19 ?_
    refine ev_aloadn_0 i74_21 ?_
    refine ew_getI i74_22 g74_22 rfl (by first | exact hO.1 | exact hX.men | exact hX.told | exact hX.road | exact hX.tone _ (by omega) (by omega) | exact hX.corn _ (by omega) (by omega) | exact hX.stand _ (by omega) (by omega) | exact hX.reach _ (by omega) (by omega) | exact hX.arm _ (by omega) (by omega) | exact hX.late _ (by omega) (by omega) | exact hX.len _ (by omega) (by omega) | exact hX.say (by omega) (by omega) _ (by omega) (by omega)) (fun b22 => ?_)
    refine ew_icmpge i74_25 (by omega) (fun c25 => ?_) (fun c25 => ?_)
    · refine ev_lloadn_3 i74_95 ?_
      refine ev_lreturn i74_96 r74 ?_
      rw [zwh_0 (by omega)] at h2
      rw [if_pos he, ← h2] at hK
      exact hK
    · have rk : 0 ≤ k % f_men f ∧ k % f_men f < f_men f := ⟨Int.emod_nonneg _ (by omega), Int.emod_lt_of_pos _ hm⟩
      refine ev_aloadn_0 i74_28 ?_
      refine ev_getA i74_29 g74_29 rfl rfl (by decide) ?_
      refine ev_iload_5 i74_32 ?_
      refine ev_virt1 i74_34 g74_34 rfl (by decide +kernel) (Nat.le_of_ble_eq_true rfl) (x_manOf hX (by omega) ?_)
      rw [if_pos (show 0 < f_men f ∧ 0 ≤ k by omega)]
      refine ev_istore_6 i74_37 rfl ?_
      refine ev_iload_6 i74_39 ?_
      refine ew_bipush i74_41 (by decide) ?_
      refine ew_icmpne i74_43 (by omega) (fun c43 => ?_) (fun c43 => ?_)
      · refine ev_aloadn_0 i74_50 ?_
        refine ev_getA i74_51 g74_51 rfl rfl (by decide) ?_
        refine ev_getA i74_54 g74_54 rfl rfl (by decide) ?_
        refine ev_iload_6 i74_57 ?_
        refine ew_iaload i74_59 rfl (by omega) (by omega) (by omega) (by first | exact hO.1 | exact hX.men | exact hX.told | exact hX.road | exact hX.tone _ (by omega) (by omega) | exact hX.corn _ (by omega) (by omega) | exact hX.stand _ (by omega) (by omega) | exact hX.reach _ (by omega) (by omega) | exact hX.arm _ (by omega) (by omega) | exact hX.late _ (by omega) (by omega) | exact hX.len _ (by omega) (by omega) | exact hX.say (by omega) (by omega) _ (by omega) (by omega)) (fun b59 => ?_)
        refine ev_istore_7 i74_60 rfl ?_
        refine ev_lloadn_3 i74_62 ?_
        refine ev_iloadn_2 i74_63 ?_
        refine ev_iload_5 i74_64 ?_
        refine ew_ishr i74_66 ?_
        refine ew_iconst i74_67 ?_
        refine ew_iand i74_68 ?_
        first
        | refine ew_ifneB i74_69 (fun c69 => ?_) (fun c69 => ?_)
        | refine ew_ifne i74_69 ((show -2147483648 ≤ zand (zshr (zbits (g_dif f g t) n.toNat) k) 1 ∧ zand (zshr (zbits (g_dif f g t) n.toNat) k) 1 ≤ 2147483647 by rw [bit]; split <;> decide)) (fun c69 => ?_) (fun c69 => ?_)
        · refine ew_bipush i74_81 (by decide) ?_
          refine ev_iload_7 i74_83 ?_
          refine ew_isub i74_85 ?_
          refine ew_i2l i74_86 (by omega) ?_
          refine ew_lmul i74_87 ?_
          refine ev_lstoren_3 i74_88 rfl ?_
          refine ew_iinc_5 i74_89 rfl ?_
          refine ev_goto i74_92 ?_
          rw [zwh_1 (by omega)] at h2
          have c69' : zand (zshr (zbits (g_dif f g t) n.toNat) k) 1 = 0 ↔ ¬ g_dif f g t k := by
            rw [bit]
            by_cases c : g_dif f g t k
            · rw [if_pos ⟨c, by omega⟩]; exact ⟨fun r => absurd r (by decide), fun r => absurd c r⟩
            · rw [if_neg (fun r => c r.1)]; exact ⟨fun _ => c, fun _ => rfl⟩
          first
            | (rw [if_neg (c69'.mp c69)] at h2
               exact ih (by omega) (by omega) (by omega) _ _ _ h2)
            | (rw [if_pos (Decidable.of_not_not (fun r => c69 (c69'.mpr r)))] at h2
               exact ih (by omega) (by omega) (by omega) _ _ _ h2)
            | (exfalso; omega)
        · refine ew_bipush i74_72 (by decide) ?_
          refine ev_iload_7 i74_74 ?_
          refine ew_imul i74_76 ?_
          refine ew_i2l i74_77 (by omega) ?_
          refine ev_goto i74_78 ?_
          refine ew_lmul i74_87 ?_
          refine ev_lstoren_3 i74_88 rfl ?_
          refine ew_iinc_5 i74_89 rfl ?_
          refine ev_goto i74_92 ?_
          rw [zwh_1 (by omega)] at h2
          have c69' : zand (zshr (zbits (g_dif f g t) n.toNat) k) 1 = 0 ↔ ¬ g_dif f g t k := by
            rw [bit]
            by_cases c : g_dif f g t k
            · rw [if_pos ⟨c, by omega⟩]; exact ⟨fun r => absurd r (by decide), fun r => absurd c r⟩
            · rw [if_neg (fun r => c r.1)]; exact ⟨fun _ => c, fun _ => rfl⟩
          first
            | (rw [if_neg (c69'.mp c69)] at h2
               exact ih (by omega) (by omega) (by omega) _ _ _ h2)
            | (rw [if_pos (Decidable.of_not_not (fun r => c69 (c69'.mpr r)))] at h2
               exact ih (by omega) (by omega) (by omega) _ _ _ h2)
            | (exfalso; omega)
      · refine ew_iconst i74_46 ?_
        refine ev_goto i74_47 ?_
        refine ev_istore_7 i74_60 rfl ?_
        refine ev_lloadn_3 i74_62 ?_
        refine ev_iloadn_2 i74_63 ?_
        refine ev_iload_5 i74_64 ?_
        refine ew_ishr i74_66 ?_
        refine ew_iconst i74_67 ?_
        refine ew_iand i74_68 ?_
        first
        | refine ew_ifneB i74_69 (fun c69 => ?_) (fun c69 => ?_)
        | refine ew_ifne i74_69 ((show -2147483648 ≤ zand (zshr (zbits (g_dif f g t) n.toNat) k) 1 ∧ zand (zshr (zbits (g_dif f g t) n.toNat) k) 1 ≤ 2147483647 by rw [bit]; split <;> decide)) (fun c69 => ?_) (fun c69 => ?_)
        · refine ew_bipush i74_81 (by decide) ?_
          refine ev_iload_7 i74_83 ?_
          refine ew_isub i74_85 ?_
          refine ew_i2l i74_86 (by omega) ?_
          refine ew_lmul i74_87 ?_
          refine ev_lstoren_3 i74_88 rfl ?_
          refine ew_iinc_5 i74_89 rfl ?_
          refine ev_goto i74_92 ?_
          rw [zwh_1 (by omega)] at h2
          have c69' : zand (zshr (zbits (g_dif f g t) n.toNat) k) 1 = 0 ↔ ¬ g_dif f g t k := by
            rw [bit]
            by_cases c : g_dif f g t k
            · rw [if_pos ⟨c, by omega⟩]; exact ⟨fun r => absurd r (by decide), fun r => absurd c r⟩
            · rw [if_neg (fun r => c r.1)]; exact ⟨fun _ => c, fun _ => rfl⟩
          first
            | (rw [if_neg (c69'.mp c69)] at h2
               exact ih (by omega) (by omega) (by omega) _ _ _ h2)
            | (rw [if_pos (Decidable.of_not_not (fun r => c69 (c69'.mpr r)))] at h2
               exact ih (by omega) (by omega) (by omega) _ _ _ h2)
            | (exfalso; omega)
        · refine ew_bipush i74_72 (by decide) ?_
          refine ev_iload_7 i74_74 ?_
          refine ew_imul i74_76 ?_
          refine ew_i2l i74_77 (by omega) ?_
          refine ev_goto i74_78 ?_
          refine ew_lmul i74_87 ?_
          refine ev_lstoren_3 i74_88 rfl ?_
          refine ew_iinc_5 i74_89 rfl ?_
          refine ev_goto i74_92 ?_
          rw [zwh_1 (by omega)] at h2
          have c69' : zand (zshr (zbits (g_dif f g t) n.toNat) k) 1 = 0 ↔ ¬ g_dif f g t k := by
            rw [bit]
            by_cases c : g_dif f g t k
            · rw [if_pos ⟨c, by omega⟩]; exact ⟨fun r => absurd r (by decide), fun r => absurd c r⟩
            · rw [if_neg (fun r => c r.1)]; exact ⟨fun _ => c, fun _ => rfl⟩
          first
            | (rw [if_neg (c69'.mp c69)] at h2
               exact ih (by omega) (by omega) (by omega) _ _ _ h2)
            | (rw [if_pos (Decidable.of_not_not (fun r => c69 (c69'.mpr r)))] at h2
               exact ih (by omega) (by omega) (by omega) _ _ _ h2)
            | (exfalso; omega)
  refine ev_enter (lv := [.ref 40, .int (zI (t)), .null, .null, .null, .null, .null, .null]) l74 rfl (Nat.le_of_ble_eq_true rfl) ?_
  refine ev_aloadn_0 i74_0 ?_
  refine ev_iloadn_1 i74_1 ?_
  refine ev_virt1 i74_2 g74_2 rfl (by decide +kernel) (Nat.le_of_ble_eq_true rfl) (x_slipBits hX hO ht ?_)
  refine ev_istoren_2 i74_5 rfl ?_
  refine ev_iloadn_2 i74_6 ?_
  refine ew_bipush i74_7 (by decide) ?_
  refine ew_icmpne i74_9 (by omega) (fun c9 => ?_) (fun c9 => ?_)
  · refine ew_lconst (z := 1) i74_14 (by decide) ?_
    refine ev_lstoren_3 i74_15 rfl ?_
    refine ew_iconst i74_16 ?_
    refine ev_istore_5 i74_17 rfl ?_
    by_cases c : f_len f t = n
    · rw [if_pos c]
      exact loop c 0 (by decide) (by omega) 1 _ _ rfl
    · rw [if_neg c] at c9
      exact absurd rfl c9
  · refine ew_lconst (z := 0) i74_12 (by decide) ?_
    refine ev_lreturn i74_13 r74 ?_
    by_cases c : f_len f t = n
    · rw [if_pos c] at c9
      omega
    · rw [if_neg c] at hK
      exact hK
theorem m_weightOf (hM : RM I f) (hO : RMo I n g) (hm : 0 < f_men f) {t : Int} (ht : 0 ≤ t ∧ t < f_told f) (hK : K (some (.long (zL (g_w f n g t)))) (I, L, ts_P0 sw, ts_S0)) : ts_Cal X (d + 3) 196 [.ref 72, .int (zI (t))] (I, L, ts_P0 sw, ts_S0) K := by
  have b1 := hM.men.2
  have bt := hM.told.2
  have b3 := hO.1.2
  unfold g_w at hK
  have loop : f_len f t = n → ∀ k : Int, 0 ≤ k → k ≤ n → ∀ w o, zwh n (fun k w => w * (if g_dif f g t k then 12 - g_arm f k else 7 * g_arm f k)) k w = zwh n (fun k w => w * (if g_dif f g t k then 12 - g_arm f k else 7 * g_arm f k)) 0 1 → ts_Ev X (ts_Cal X (d + 2)) 196 ts_S0 K 20 [.ref 72, .int (zI (t)), .long (zL (w)), .null, .int (zI (k)), o] [] (I, L, ts_P0 sw, ts_S0) := by
    intro he
    refine ts_ind n (fun k ih h0 h1 w o h2 => ?_)
    have bit := zbits_bit (g_dif f g t) (n := n.toNat) (by omega) h0 (by omega)
    refine ev_iload_4 i196_20 ?_
    refine ev_aloadn_0 i196_22 ?_
    refine ew_getI i196_23 g196_23 rfl (by first | exact hO.1 | exact hM.men | exact hM.told | exact hM.road | exact hM.stand _ (by omega) (by omega) | exact hM.reach _ (by omega) (by omega) | exact hM.arm _ (by omega) (by omega) | exact hM.late _ (by omega) (by omega) | exact hM.len _ (by omega) (by omega) | exact hM.corn _ (by omega) (by omega) | exact hM.say (by omega) (by omega) _ (by omega) (by omega) | exact hM.tone _ (by omega) (by omega)) (fun b23 => ?_)
    refine ew_icmpge i196_26 (by omega) (fun c26 => ?_) (fun c26 => ?_)
    · refine ev_lloadn_2 i196_84 ?_
      refine ev_lreturn i196_85 r196 ?_
      rw [zwh_0 (by omega)] at h2
      rw [if_pos he, ← h2] at hK
      exact hK
    · refine ev_aloadn_0 i196_29 ?_
      refine ev_getA i196_30 g196_30 rfl rfl (by decide) ?_
      refine ew_bipush i196_33 (by decide) ?_
      refine ev_iload_4 i196_35 ?_
      refine ev_aloadn_0 i196_37 ?_
      refine ew_getI i196_38 g196_38 rfl (by first | exact hO.1 | exact hM.men | exact hM.told | exact hM.road | exact hM.stand _ (by omega) (by omega) | exact hM.reach _ (by omega) (by omega) | exact hM.arm _ (by omega) (by omega) | exact hM.late _ (by omega) (by omega) | exact hM.len _ (by omega) (by omega) | exact hM.corn _ (by omega) (by omega) | exact hM.say (by omega) (by omega) _ (by omega) (by omega) | exact hM.tone _ (by omega) (by omega)) (fun b38 => ?_)
      refine ew_iremB i196_41 (by omega) (by omega) (fun r41 => ?_)
      refine ew_iadd i196_42 ?_
      refine ew_iaload i196_43 rfl (by omega) (by omega) (by omega) (by first | exact hO.1 | exact hM.men | exact hM.told | exact hM.road | exact hM.stand _ (by omega) (by omega) | exact hM.reach _ (by omega) (by omega) | exact hM.arm _ (by omega) (by omega) | exact hM.late _ (by omega) (by omega) | exact hM.len _ (by omega) (by omega) | exact hM.corn _ (by omega) (by omega) | exact hM.say (by omega) (by omega) _ (by omega) (by omega) | exact hM.tone _ (by omega) (by omega)) (fun b43 => ?_)
      refine ev_istore_5 i196_44 rfl ?_
      refine ev_lloadn_2 i196_46 ?_
      refine ev_aloadn_0 i196_47 ?_
      refine ev_iloadn_1 i196_48 ?_
      refine ev_virt1 i196_49 g196_49 rfl (by decide +kernel) (Nat.le_of_ble_eq_true rfl) (m_slipsOf hM hO ht ?_)
      refine ev_iload_4 i196_52 ?_
      refine ew_ishr i196_54 ?_
      refine ew_iconst i196_55 ?_
      refine ew_iand i196_56 ?_
      refine ew_iconst i196_57 ?_
      refine ew_icmpne i196_58 (⟨(show -2147483648 ≤ zand (zshr (zbits (g_dif f g t) n.toNat) k) 1 ∧ zand (zshr (zbits (g_dif f g t) n.toNat) k) 1 ≤ 2147483647 by rw [bit]; split <;> decide), by decide, by decide⟩) (fun c58 => ?_) (fun c58 => ?_)
      · refine ew_bipush i196_70 (by decide) ?_
        refine ev_iload_5 i196_72 ?_
        refine ew_imul i196_74 ?_
        refine ew_i2l i196_75 (by omega) ?_
        refine ew_lmul i196_76 ?_
        refine ev_lstoren_2 i196_77 rfl ?_
        refine ew_iinc_4 i196_78 rfl ?_
        refine ev_goto i196_81 ?_
        rw [zwh_1 (by omega)] at h2
        have c58' : zand (zshr (zbits (g_dif f g t) n.toNat) k) 1 = 1 ↔ g_dif f g t k := by
          rw [bit]
          by_cases c : g_dif f g t k
          · rw [if_pos ⟨c, by omega⟩]; exact ⟨fun _ => c, fun _ => rfl⟩
          · rw [if_neg (fun r => c r.1)]; exact ⟨fun r => absurd r (by decide), fun r => absurd r c⟩
        first
          | (rw [if_pos (c58'.mp c58)] at h2
             exact ih (by omega) (by omega) (by omega) _ _ h2)
          | (rw [if_neg (fun r => c58 (c58'.mpr r))] at h2
             exact ih (by omega) (by omega) (by omega) _ _ h2)
      · refine ew_bipush i196_61 (by decide) ?_
        refine ev_iload_5 i196_63 ?_
        refine ew_isub i196_65 ?_
        refine ew_i2l i196_66 (by omega) ?_
        refine ev_goto i196_67 ?_
        refine ew_lmul i196_76 ?_
        refine ev_lstoren_2 i196_77 rfl ?_
        refine ew_iinc_4 i196_78 rfl ?_
        refine ev_goto i196_81 ?_
        rw [zwh_1 (by omega)] at h2
        have c58' : zand (zshr (zbits (g_dif f g t) n.toNat) k) 1 = 1 ↔ g_dif f g t k := by
          rw [bit]
          by_cases c : g_dif f g t k
          · rw [if_pos ⟨c, by omega⟩]; exact ⟨fun _ => c, fun _ => rfl⟩
          · rw [if_neg (fun r => c r.1)]; exact ⟨fun r => absurd r (by decide), fun r => absurd r c⟩
        first
          | (rw [if_pos (c58'.mp c58)] at h2
             exact ih (by omega) (by omega) (by omega) _ _ h2)
          | (rw [if_neg (fun r => c58 (c58'.mpr r))] at h2
             exact ih (by omega) (by omega) (by omega) _ _ h2)
  refine ev_enter (lv := [.ref 72, .int (zI (t)), .null, .null, .null, .null]) l196 rfl (Nat.le_of_ble_eq_true rfl) ?_
  refine ev_aloadn_0 i196_0 ?_
  refine ev_getA i196_1 g196_1 rfl rfl (by decide) ?_
  refine ev_iloadn_1 i196_4 ?_
  refine ew_iaload i196_5 rfl (by omega) (by omega) (by omega) (by first | exact hO.1 | exact hM.men | exact hM.told | exact hM.road | exact hM.stand _ (by omega) (by omega) | exact hM.reach _ (by omega) (by omega) | exact hM.arm _ (by omega) (by omega) | exact hM.late _ (by omega) (by omega) | exact hM.len _ (by omega) (by omega) | exact hM.corn _ (by omega) (by omega) | exact hM.say (by omega) (by omega) _ (by omega) (by omega) | exact hM.tone _ (by omega) (by omega)) (fun b5 => ?_)
  refine ev_aloadn_0 i196_6 ?_
  refine ew_getI i196_7 g196_7 rfl (by first | exact hO.1 | exact hM.men | exact hM.told | exact hM.road | exact hM.stand _ (by omega) (by omega) | exact hM.reach _ (by omega) (by omega) | exact hM.arm _ (by omega) (by omega) | exact hM.late _ (by omega) (by omega) | exact hM.len _ (by omega) (by omega) | exact hM.corn _ (by omega) (by omega) | exact hM.say (by omega) (by omega) _ (by omega) (by omega) | exact hM.tone _ (by omega) (by omega)) (fun b7 => ?_)
  refine ew_icmpeq i196_10 (by omega) (fun c10 => ?_) (fun c10 => ?_)
  · refine ew_lconst (z := 1) i196_15 (by decide) ?_
    refine ev_lstoren_2 i196_16 rfl ?_
    refine ew_iconst i196_17 ?_
    refine ev_istore_4 i196_18 rfl ?_
    exact loop (by omega) 0 (by decide) (by omega) 1 _ rfl
  · refine ew_lconst (z := 0) i196_13 (by decide) ?_
    refine ev_lreturn i196_14 r196 ?_
    rw [if_neg (by omega)] at hK
    exact hK
end LI
