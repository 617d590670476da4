theorem i40_0 : ts_ins 40 0 = some (.aload_n 0, 1, 0) := by decide +kernel
theorem i40_1 : ts_ins 40 1 = some (.getfield 15, 4, 0) := by decide +kernel
theorem g40_1 : ts_fm 40 15 = some (5, 1, 0) := by decide +kernel
theorem i40_4 : ts_ins 40 4 = some (.bipush 120, 6, 0) := by decide +kernel
theorem i40_6 : ts_ins 40 6 = some (.if_icmp .lt 6, 9, 12) := by decide +kernel
theorem i40_9 : ts_ins 40 9 = some (.bipush (-3), 11, 0) := by decide +kernel
theorem i40_11 : ts_ins 40 11 = some (.ireturn, 12, 0) := by decide +kernel
theorem i40_12 : ts_ins 40 12 = some (.aload_n 0, 13, 0) := by decide +kernel
theorem i40_13 : ts_ins 40 13 = some (.getfield 9, 16, 0) := by decide +kernel
theorem g40_13 : ts_fm 40 9 = some (5, 0, 2) := by decide +kernel
theorem i40_16 : ts_ins 40 16 = some (.aload_n 0, 17, 0) := by decide +kernel
theorem i40_17 : ts_ins 40 17 = some (.getfield 15, 20, 0) := by decide +kernel
theorem g40_17 : ts_fm 40 15 = some (5, 1, 0) := by decide +kernel
theorem i40_20 : ts_ins 40 20 = some (.iload_n 1, 21, 0) := by decide +kernel
theorem i40_21 : ts_ins 40 21 = some (.iastore, 22, 0) := by decide +kernel
theorem i40_22 : ts_ins 40 22 = some (.aload_n 0, 23, 0) := by decide +kernel
theorem i40_23 : ts_ins 40 23 = some (.dup, 24, 0) := by decide +kernel
theorem i40_24 : ts_ins 40 24 = some (.getfield 15, 27, 0) := by decide +kernel
theorem g40_24 : ts_fm 40 15 = some (5, 1, 0) := by decide +kernel
theorem i40_27 : ts_ins 40 27 = some (.iconst 1, 28, 0) := by decide +kernel
theorem i40_28 : ts_ins 40 28 = some (.iadd, 29, 0) := by decide +kernel
theorem i40_29 : ts_ins 40 29 = some (.putfield 15, 32, 0) := by decide +kernel
theorem g40_29 : ts_fmm 40 15 = some (5, 1, 0, false) := by decide +kernel
theorem i40_32 : ts_ins 40 32 = some (.aload_n 0, 33, 0) := by decide +kernel
theorem i40_33 : ts_ins 40 33 = some (.getfield 15, 36, 0) := by decide +kernel
theorem g40_33 : ts_fm 40 15 = some (5, 1, 0) := by decide +kernel
theorem i40_36 : ts_ins 40 36 = some (.ireturn, 37, 0) := by decide +kernel
theorem r40 : ts_rt 40 = ((some .int), 0, 0) := by decide +kernel
theorem l40 : ts_ml 40 = 2 := by decide +kernel
theorem i98_0 : ts_ins 98 0 = some (.iload_n 1, 1, 0) := by decide +kernel
theorem i98_1 : ts_ins 98 1 = some (.ifCond .lt 10, 4, 11) := by decide +kernel
theorem i98_4 : ts_ins 98 4 = some (.iload_n 1, 5, 0) := by decide +kernel
theorem i98_5 : ts_ins 98 5 = some (.sipush 255, 8, 0) := by decide +kernel
theorem i98_8 : ts_ins 98 8 = some (.if_icmp .le 5, 11, 13) := by decide +kernel
theorem i98_11 : ts_ins 98 11 = some (.iconst (-1), 12, 0) := by decide +kernel
theorem i98_12 : ts_ins 98 12 = some (.ireturn, 13, 0) := by decide +kernel
theorem i98_13 : ts_ins 98 13 = some (.aload_n 0, 14, 0) := by decide +kernel
theorem i98_14 : ts_ins 98 14 = some (.getfield 19, 17, 0) := by decide +kernel
theorem g98_14 : ts_fm 98 19 = some (11, 1, 2) := by decide +kernel
theorem i98_17 : ts_ins 98 17 = some (.iload_n 1, 18, 0) := by decide +kernel
theorem i98_18 : ts_ins 98 18 = some (.invokevirtual 135, 21, 0) := by decide +kernel
theorem g98_18 : ts_cal (ts_mc 98) 135 = some (0, 40, 1) := by decide +kernel
theorem i98_21 : ts_ins 98 21 = some (.ireturn, 22, 0) := by decide +kernel
theorem r98 : ts_rt 98 = ((some .int), 0, 0) := by decide +kernel
theorem l98 : ts_ml 98 = 2 := by decide +kernel
theorem i159_0 : ts_ins 159 0 = some (.iload_n 1, 1, 0) := by decide +kernel
theorem i159_1 : ts_ins 159 1 = some (.i2l, 2, 0) := by decide +kernel
theorem i159_2 : ts_ins 159 2 = some (.lconst 0, 3, 0) := by decide +kernel
theorem i159_3 : ts_ins 159 3 = some (.ldc2_w 144, 6, 0) := by decide +kernel
theorem g159_3 : ts_lc (ts_mc 159) 144 = some (.long (255)) := by decide +kernel
theorem i159_6 : ts_ins 159 6 = some (.invokestatic 95, 9, 0) := by decide +kernel
theorem g159_6 : ts_cal (ts_mc 159) 95 = some (1, 143, 3) := by decide +kernel
theorem i159_9 : ts_ins 159 9 = some (.ifCond .ne 5, 12, 14) := by decide +kernel
theorem i159_12 : ts_ins 159 12 = some (.iconst (-1), 13, 0) := by decide +kernel
theorem i159_13 : ts_ins 159 13 = some (.ireturn, 14, 0) := by decide +kernel
theorem i159_14 : ts_ins 159 14 = some (.aload_n 0, 15, 0) := by decide +kernel
theorem i159_15 : ts_ins 159 15 = some (.getfield 146, 18, 0) := by decide +kernel
theorem g159_15 : ts_fm 159 146 = some (12, 10, 0) := by decide +kernel
theorem i159_18 : ts_ins 159 18 = some (.bipush 120, 20, 0) := by decide +kernel
theorem i159_20 : ts_ins 159 20 = some (.if_icmp .ne 6, 23, 26) := by decide +kernel
theorem i159_23 : ts_ins 159 23 = some (.bipush (-3), 25, 0) := by decide +kernel
theorem i159_25 : ts_ins 159 25 = some (.ireturn, 26, 0) := by decide +kernel
theorem i159_26 : ts_ins 159 26 = some (.aload_n 0, 27, 0) := by decide +kernel
theorem i159_27 : ts_ins 159 27 = some (.getfield 25, 30, 0) := by decide +kernel
theorem g159_27 : ts_fm 159 25 = some (12, 9, 2) := by decide +kernel
theorem i159_30 : ts_ins 159 30 = some (.aload_n 0, 31, 0) := by decide +kernel
theorem i159_31 : ts_ins 159 31 = some (.getfield 146, 34, 0) := by decide +kernel
theorem g159_31 : ts_fm 159 146 = some (12, 10, 0) := by decide +kernel
theorem i159_34 : ts_ins 159 34 = some (.iload_n 1, 35, 0) := by decide +kernel
theorem i159_35 : ts_ins 159 35 = some (.iastore, 36, 0) := by decide +kernel
theorem i159_36 : ts_ins 159 36 = some (.aload_n 0, 37, 0) := by decide +kernel
theorem i159_37 : ts_ins 159 37 = some (.dup, 38, 0) := by decide +kernel
theorem i159_38 : ts_ins 159 38 = some (.getfield 146, 41, 0) := by decide +kernel
theorem g159_38 : ts_fm 159 146 = some (12, 10, 0) := by decide +kernel
theorem i159_41 : ts_ins 159 41 = some (.iconst 1, 42, 0) := by decide +kernel
theorem i159_42 : ts_ins 159 42 = some (.iadd, 43, 0) := by decide +kernel
theorem i159_43 : ts_ins 159 43 = some (.putfield 146, 46, 0) := by decide +kernel
theorem g159_43 : ts_fmm 159 146 = some (12, 10, 0, false) := by decide +kernel
theorem i159_46 : ts_ins 159 46 = some (.aload_n 0, 47, 0) := by decide +kernel
theorem i159_47 : ts_ins 159 47 = some (.getfield 146, 50, 0) := by decide +kernel
theorem g159_47 : ts_fm 159 146 = some (12, 10, 0) := by decide +kernel
theorem i159_50 : ts_ins 159 50 = some (.ireturn, 51, 0) := by decide +kernel
theorem r159 : ts_rt 159 = ((some .int), 0, 0) := by decide +kernel
theorem l159 : ts_ml 159 = 2 := by decide +kernel
theorem i8_0 : ts_ins 8 0 = some (.aload_n 0, 1, 0) := by decide +kernel
theorem i8_1 : ts_ins 8 1 = some (.getfield 18, 4, 0) := by decide +kernel
theorem g8_1 : ts_fm 8 18 = some (2, 2, 0) := by decide +kernel
theorem i8_4 : ts_ins 8 4 = some (.bipush 50, 6, 0) := by decide +kernel
theorem i8_6 : ts_ins 8 6 = some (.if_icmp .lt 6, 9, 12) := by decide +kernel
theorem i8_9 : ts_ins 8 9 = some (.bipush (-3), 11, 0) := by decide +kernel
theorem i8_11 : ts_ins 8 11 = some (.ireturn, 12, 0) := by decide +kernel
theorem i8_12 : ts_ins 8 12 = some (.aload_n 0, 13, 0) := by decide +kernel
theorem i8_13 : ts_ins 8 13 = some (.getfield 9, 16, 0) := by decide +kernel
theorem g8_13 : ts_fm 8 9 = some (2, 0, 2) := by decide +kernel
theorem i8_16 : ts_ins 8 16 = some (.aload_n 0, 17, 0) := by decide +kernel
theorem i8_17 : ts_ins 8 17 = some (.getfield 18, 20, 0) := by decide +kernel
theorem g8_17 : ts_fm 8 18 = some (2, 2, 0) := by decide +kernel
theorem i8_20 : ts_ins 8 20 = some (.iload_n 1, 21, 0) := by decide +kernel
theorem i8_21 : ts_ins 8 21 = some (.iastore, 22, 0) := by decide +kernel
theorem i8_22 : ts_ins 8 22 = some (.aload_n 0, 23, 0) := by decide +kernel
theorem i8_23 : ts_ins 8 23 = some (.dup, 24, 0) := by decide +kernel
theorem i8_24 : ts_ins 8 24 = some (.getfield 18, 27, 0) := by decide +kernel
theorem g8_24 : ts_fm 8 18 = some (2, 2, 0) := by decide +kernel
theorem i8_27 : ts_ins 8 27 = some (.iconst 1, 28, 0) := by decide +kernel
theorem i8_28 : ts_ins 8 28 = some (.iadd, 29, 0) := by decide +kernel
theorem i8_29 : ts_ins 8 29 = some (.putfield 18, 32, 0) := by decide +kernel
theorem g8_29 : ts_fmm 8 18 = some (2, 2, 0, false) := by decide +kernel
theorem i8_32 : ts_ins 8 32 = some (.aload_n 0, 33, 0) := by decide +kernel
theorem i8_33 : ts_ins 8 33 = some (.getfield 18, 36, 0) := by decide +kernel
theorem g8_33 : ts_fm 8 18 = some (2, 2, 0) := by decide +kernel
theorem i8_36 : ts_ins 8 36 = some (.iconst 1, 37, 0) := by decide +kernel
theorem i8_37 : ts_ins 8 37 = some (.isub, 38, 0) := by decide +kernel
theorem i8_38 : ts_ins 8 38 = some (.ireturn, 39, 0) := by decide +kernel
theorem r8 : ts_rt 8 = ((some .int), 0, 0) := by decide +kernel
theorem l8 : ts_ml 8 = 2 := by decide +kernel
theorem i127_0 : ts_ins 127 0 = some (.iload_n 1, 1, 0) := by decide +kernel
theorem i127_1 : ts_ins 127 1 = some (.invokestatic 342, 4, 0) := by decide +kernel
theorem g127_1 : ts_cal (ts_mc 127) 342 = some (1, 139, 1) := by decide +kernel
theorem i127_4 : ts_ins 127 4 = some (.ifCond .ne 5, 7, 9) := by decide +kernel
theorem i127_7 : ts_ins 127 7 = some (.iconst (-1), 8, 0) := by decide +kernel
theorem i127_8 : ts_ins 127 8 = some (.ireturn, 9, 0) := by decide +kernel
theorem i127_9 : ts_ins 127 9 = some (.aload_n 0, 10, 0) := by decide +kernel
theorem i127_10 : ts_ins 127 10 = some (.getfield 81, 13, 0) := by decide +kernel
theorem g127_10 : ts_fm 127 81 = some (11, 11, 2) := by decide +kernel
theorem i127_13 : ts_ins 127 13 = some (.iload_n 1, 14, 0) := by decide +kernel
theorem i127_14 : ts_ins 127 14 = some (.invokevirtual 345, 17, 0) := by decide +kernel
theorem g127_14 : ts_cal (ts_mc 127) 345 = some (0, 8, 1) := by decide +kernel
theorem i127_17 : ts_ins 127 17 = some (.ireturn, 18, 0) := by decide +kernel
theorem r127 : ts_rt 127 = ((some .int), 0, 0) := by decide +kernel
theorem l127 : ts_ml 127 = 2 := by decide +kernel
theorem i219_0 : ts_ins 219 0 = some (.iload_n 1, 1, 0) := by decide +kernel
theorem i219_1 : ts_ins 219 1 = some (.i2l, 2, 0) := by decide +kernel
theorem i219_2 : ts_ins 219 2 = some (.lconst 0, 3, 0) := by decide +kernel
theorem i219_3 : ts_ins 219 3 = some (.ldc2_w 105, 6, 0) := by decide +kernel
theorem g219_3 : ts_lc (ts_mc 219) 105 = some (.long (7)) := by decide +kernel
theorem i219_6 : ts_ins 219 6 = some (.invokestatic 95, 9, 0) := by decide +kernel
theorem g219_6 : ts_cal (ts_mc 219) 95 = some (1, 143, 3) := by decide +kernel
theorem i219_9 : ts_ins 219 9 = some (.ifCond .ne 5, 12, 14) := by decide +kernel
theorem i219_12 : ts_ins 219 12 = some (.iconst (-1), 13, 0) := by decide +kernel
theorem i219_13 : ts_ins 219 13 = some (.ireturn, 14, 0) := by decide +kernel
theorem i219_14 : ts_ins 219 14 = some (.aload_n 0, 15, 0) := by decide +kernel
theorem i219_15 : ts_ins 219 15 = some (.getfield 294, 18, 0) := by decide +kernel
theorem g219_15 : ts_fm 219 294 = some (12, 32, 0) := by decide +kernel
theorem i219_18 : ts_ins 219 18 = some (.bipush 50, 20, 0) := by decide +kernel
theorem i219_20 : ts_ins 219 20 = some (.if_icmp .ne 6, 23, 26) := by decide +kernel
theorem i219_23 : ts_ins 219 23 = some (.bipush (-3), 25, 0) := by decide +kernel
theorem i219_25 : ts_ins 219 25 = some (.ireturn, 26, 0) := by decide +kernel
theorem i219_26 : ts_ins 219 26 = some (.aload_n 0, 27, 0) := by decide +kernel
theorem i219_27 : ts_ins 219 27 = some (.getfield 64, 30, 0) := by decide +kernel
theorem g219_27 : ts_fm 219 64 = some (12, 33, 2) := by decide +kernel
theorem i219_30 : ts_ins 219 30 = some (.aload_n 0, 31, 0) := by decide +kernel
theorem i219_31 : ts_ins 219 31 = some (.getfield 294, 34, 0) := by decide +kernel
theorem g219_31 : ts_fm 219 294 = some (12, 32, 0) := by decide +kernel
theorem i219_34 : ts_ins 219 34 = some (.iload_n 1, 35, 0) := by decide +kernel
theorem i219_35 : ts_ins 219 35 = some (.iastore, 36, 0) := by decide +kernel
theorem i219_36 : ts_ins 219 36 = some (.aload_n 0, 37, 0) := by decide +kernel
theorem i219_37 : ts_ins 219 37 = some (.dup, 38, 0) := by decide +kernel
theorem i219_38 : ts_ins 219 38 = some (.getfield 294, 41, 0) := by decide +kernel
theorem g219_38 : ts_fm 219 294 = some (12, 32, 0) := by decide +kernel
theorem i219_41 : ts_ins 219 41 = some (.iconst 1, 42, 0) := by decide +kernel
theorem i219_42 : ts_ins 219 42 = some (.iadd, 43, 0) := by decide +kernel
theorem i219_43 : ts_ins 219 43 = some (.putfield 294, 46, 0) := by decide +kernel
theorem g219_43 : ts_fmm 219 294 = some (12, 32, 0, false) := by decide +kernel
theorem i219_46 : ts_ins 219 46 = some (.aload_n 0, 47, 0) := by decide +kernel
theorem i219_47 : ts_ins 219 47 = some (.getfield 294, 50, 0) := by decide +kernel
theorem g219_47 : ts_fm 219 294 = some (12, 32, 0) := by decide +kernel
theorem i219_50 : ts_ins 219 50 = some (.iconst 1, 51, 0) := by decide +kernel
theorem i219_51 : ts_ins 219 51 = some (.isub, 52, 0) := by decide +kernel
theorem i219_52 : ts_ins 219 52 = some (.ireturn, 53, 0) := by decide +kernel
theorem r219 : ts_rt 219 = ((some .int), 0, 0) := by decide +kernel
theorem l219 : ts_ml 219 = 2 := by decide +kernel
theorem i129_0 : ts_ins 129 0 = some (.iload_n 1, 1, 0) := by decide +kernel
theorem i129_1 : ts_ins 129 1 = some (.ifCond .lt 32, 4, 33) := by decide +kernel
theorem i129_4 : ts_ins 129 4 = some (.iload_n 1, 5, 0) := by decide +kernel
theorem i129_5 : ts_ins 129 5 = some (.aload_n 0, 6, 0) := by decide +kernel
theorem i129_6 : ts_ins 129 6 = some (.getfield 81, 9, 0) := by decide +kernel
theorem g129_6 : ts_fm 129 81 = some (11, 11, 2) := by decide +kernel
theorem i129_9 : ts_ins 129 9 = some (.getfield 352, 12, 0) := by decide +kernel
theorem g129_9 : ts_fm 129 352 = some (2, 3, 0) := by decide +kernel
theorem i129_12 : ts_ins 129 12 = some (.if_icmp .ge 21, 15, 33) := by decide +kernel
theorem i129_15 : ts_ins 129 15 = some (.iload_n 1, 16, 0) := by decide +kernel
theorem i129_16 : ts_ins 129 16 = some (.bipush 24, 18, 0) := by decide +kernel
theorem i129_18 : ts_ins 129 18 = some (.if_icmp .ge 15, 21, 33) := by decide +kernel
theorem i129_21 : ts_ins 129 21 = some (.aload_n 0, 22, 0) := by decide +kernel
theorem i129_22 : ts_ins 129 22 = some (.getfield 81, 25, 0) := by decide +kernel
theorem g129_22 : ts_fm 129 81 = some (11, 11, 2) := by decide +kernel
theorem i129_25 : ts_ins 129 25 = some (.getfield 355, 28, 0) := by decide +kernel
theorem g129_25 : ts_fm 129 355 = some (2, 1, 2) := by decide +kernel
theorem i129_28 : ts_ins 129 28 = some (.iload_n 1, 29, 0) := by decide +kernel
theorem i129_29 : ts_ins 129 29 = some (.iaload, 30, 0) := by decide +kernel
theorem i129_30 : ts_ins 129 30 = some (.goto 4, 33, 34) := by decide +kernel
theorem i129_33 : ts_ins 129 33 = some (.iconst (-1), 34, 0) := by decide +kernel
theorem i129_34 : ts_ins 129 34 = some (.ireturn, 35, 0) := by decide +kernel
theorem r129 : ts_rt 129 = ((some .int), 0, 0) := by decide +kernel
theorem l129 : ts_ml 129 = 2 := by decide +kernel
theorem i227_0 : ts_ins 227 0 = some (.iload_n 1, 1, 0) := by decide +kernel
theorem i227_1 : ts_ins 227 1 = some (.ifCond .lt 26, 4, 27) := by decide +kernel
theorem i227_4 : ts_ins 227 4 = some (.iload_n 1, 5, 0) := by decide +kernel
theorem i227_5 : ts_ins 227 5 = some (.aload_n 0, 6, 0) := by decide +kernel
theorem i227_6 : ts_ins 227 6 = some (.getfield 297, 9, 0) := by decide +kernel
theorem g227_6 : ts_fm 227 297 = some (12, 35, 0) := by decide +kernel
theorem i227_9 : ts_ins 227 9 = some (.if_icmp .ge 18, 12, 27) := by decide +kernel
theorem i227_12 : ts_ins 227 12 = some (.iload_n 1, 13, 0) := by decide +kernel
theorem i227_13 : ts_ins 227 13 = some (.bipush 24, 15, 0) := by decide +kernel
theorem i227_15 : ts_ins 227 15 = some (.if_icmp .ge 12, 18, 27) := by decide +kernel
theorem i227_18 : ts_ins 227 18 = some (.aload_n 0, 19, 0) := by decide +kernel
theorem i227_19 : ts_ins 227 19 = some (.getfield 67, 22, 0) := by decide +kernel
theorem g227_19 : ts_fm 227 67 = some (12, 34, 2) := by decide +kernel
theorem i227_22 : ts_ins 227 22 = some (.iload_n 1, 23, 0) := by decide +kernel
theorem i227_23 : ts_ins 227 23 = some (.iaload, 24, 0) := by decide +kernel
theorem i227_24 : ts_ins 227 24 = some (.goto 4, 27, 28) := by decide +kernel
theorem i227_27 : ts_ins 227 27 = some (.iconst (-1), 28, 0) := by decide +kernel
theorem i227_28 : ts_ins 227 28 = some (.ireturn, 29, 0) := by decide +kernel
theorem r227 : ts_rt 227 = ((some .int), 0, 0) := by decide +kernel
theorem l227 : ts_ml 227 = 2 := by decide +kernel
theorem i136_0 : ts_ins 136 0 = some (.iload_n 1, 1, 0) := by decide +kernel
theorem i136_1 : ts_ins 136 1 = some (.tableswitch 87 0 5 #[39, 47, 55, 63, 71, 79], 40, 0) := by decide +kernel
theorem i136_40 : ts_ins 136 40 = some (.aload_n 0, 41, 0) := by decide +kernel
theorem i136_41 : ts_ins 136 41 = some (.getfield 10, 44, 0) := by decide +kernel
theorem g136_41 : ts_fm 136 10 = some (11, 0, 2) := by decide +kernel
theorem i136_44 : ts_ins 136 44 = some (.getfield 240, 47, 0) := by decide +kernel
theorem g136_44 : ts_fm 136 240 = some (3, 8, 0) := by decide +kernel
theorem i136_47 : ts_ins 136 47 = some (.ireturn, 48, 0) := by decide +kernel
theorem i136_48 : ts_ins 136 48 = some (.aload_n 0, 49, 0) := by decide +kernel
theorem i136_49 : ts_ins 136 49 = some (.getfield 10, 52, 0) := by decide +kernel
theorem g136_49 : ts_fm 136 10 = some (11, 0, 2) := by decide +kernel
theorem i136_52 : ts_ins 136 52 = some (.getfield 261, 55, 0) := by decide +kernel
theorem g136_52 : ts_fm 136 261 = some (3, 9, 0) := by decide +kernel
theorem i136_55 : ts_ins 136 55 = some (.ireturn, 56, 0) := by decide +kernel
theorem i136_56 : ts_ins 136 56 = some (.aload_n 0, 57, 0) := by decide +kernel
theorem i136_57 : ts_ins 136 57 = some (.getfield 19, 60, 0) := by decide +kernel
theorem g136_57 : ts_fm 136 19 = some (11, 1, 2) := by decide +kernel
theorem i136_60 : ts_ins 136 60 = some (.getfield 150, 63, 0) := by decide +kernel
theorem g136_60 : ts_fm 136 150 = some (5, 1, 0) := by decide +kernel
theorem i136_63 : ts_ins 136 63 = some (.ireturn, 64, 0) := by decide +kernel
theorem i136_64 : ts_ins 136 64 = some (.aload_n 0, 65, 0) := by decide +kernel
theorem i136_65 : ts_ins 136 65 = some (.getfield 74, 68, 0) := by decide +kernel
theorem g136_65 : ts_fm 136 74 = some (11, 10, 2) := by decide +kernel
theorem i136_68 : ts_ins 136 68 = some (.getfield 326, 71, 0) := by decide +kernel
theorem g136_68 : ts_fm 136 326 = some (0, 4, 0) := by decide +kernel
theorem i136_71 : ts_ins 136 71 = some (.ireturn, 72, 0) := by decide +kernel
theorem i136_72 : ts_ins 136 72 = some (.aload_n 0, 73, 0) := by decide +kernel
theorem i136_73 : ts_ins 136 73 = some (.getfield 81, 76, 0) := by decide +kernel
theorem g136_73 : ts_fm 136 81 = some (11, 11, 2) := by decide +kernel
theorem i136_76 : ts_ins 136 76 = some (.getfield 361, 79, 0) := by decide +kernel
theorem g136_76 : ts_fm 136 361 = some (2, 2, 0) := by decide +kernel
theorem i136_79 : ts_ins 136 79 = some (.ireturn, 80, 0) := by decide +kernel
theorem i136_80 : ts_ins 136 80 = some (.aload_n 0, 81, 0) := by decide +kernel
theorem i136_81 : ts_ins 136 81 = some (.getfield 81, 84, 0) := by decide +kernel
theorem g136_81 : ts_fm 136 81 = some (11, 11, 2) := by decide +kernel
theorem i136_84 : ts_ins 136 84 = some (.getfield 352, 87, 0) := by decide +kernel
theorem g136_84 : ts_fm 136 352 = some (2, 3, 0) := by decide +kernel
theorem i136_87 : ts_ins 136 87 = some (.ireturn, 88, 0) := by decide +kernel
theorem i136_88 : ts_ins 136 88 = some (.iconst (-1), 89, 0) := by decide +kernel
theorem i136_89 : ts_ins 136 89 = some (.ireturn, 90, 0) := by decide +kernel
theorem r136 : ts_rt 136 = ((some .int), 0, 0) := by decide +kernel
theorem l136 : ts_ml 136 = 2 := by decide +kernel
theorem i237_0 : ts_ins 237 0 = some (.iload_n 1, 1, 0) := by decide +kernel
theorem i237_1 : ts_ins 237 1 = some (.tableswitch 69 0 5 #[39, 44, 49, 54, 59, 64], 40, 0) := by decide +kernel
theorem i237_40 : ts_ins 237 40 = some (.aload_n 0, 41, 0) := by decide +kernel
theorem i237_41 : ts_ins 237 41 = some (.getfield 99, 44, 0) := by decide +kernel
theorem g237_41 : ts_fm 237 99 = some (12, 6, 0) := by decide +kernel
theorem i237_44 : ts_ins 237 44 = some (.ireturn, 45, 0) := by decide +kernel
theorem i237_45 : ts_ins 237 45 = some (.aload_n 0, 46, 0) := by decide +kernel
theorem i237_46 : ts_ins 237 46 = some (.getfield 102, 49, 0) := by decide +kernel
theorem g237_46 : ts_fm 237 102 = some (12, 7, 0) := by decide +kernel
theorem i237_49 : ts_ins 237 49 = some (.ireturn, 50, 0) := by decide +kernel
theorem i237_50 : ts_ins 237 50 = some (.aload_n 0, 51, 0) := by decide +kernel
theorem i237_51 : ts_ins 237 51 = some (.getfield 146, 54, 0) := by decide +kernel
theorem g237_51 : ts_fm 237 146 = some (12, 10, 0) := by decide +kernel
theorem i237_54 : ts_ins 237 54 = some (.ireturn, 55, 0) := by decide +kernel
theorem i237_55 : ts_ins 237 55 = some (.aload_n 0, 56, 0) := by decide +kernel
theorem i237_56 : ts_ins 237 56 = some (.getfield 87, 59, 0) := by decide +kernel
theorem g237_56 : ts_fm 237 87 = some (12, 5, 0) := by decide +kernel
theorem i237_59 : ts_ins 237 59 = some (.ireturn, 60, 0) := by decide +kernel
theorem i237_60 : ts_ins 237 60 = some (.aload_n 0, 61, 0) := by decide +kernel
theorem i237_61 : ts_ins 237 61 = some (.getfield 294, 64, 0) := by decide +kernel
theorem g237_61 : ts_fm 237 294 = some (12, 32, 0) := by decide +kernel
theorem i237_64 : ts_ins 237 64 = some (.ireturn, 65, 0) := by decide +kernel
theorem i237_65 : ts_ins 237 65 = some (.aload_n 0, 66, 0) := by decide +kernel
theorem i237_66 : ts_ins 237 66 = some (.getfield 297, 69, 0) := by decide +kernel
theorem g237_66 : ts_fm 237 297 = some (12, 35, 0) := by decide +kernel
theorem i237_69 : ts_ins 237 69 = some (.ireturn, 70, 0) := by decide +kernel
theorem i237_70 : ts_ins 237 70 = some (.iconst (-1), 71, 0) := by decide +kernel
theorem i237_71 : ts_ins 237 71 = some (.ireturn, 72, 0) := by decide +kernel
theorem r237 : ts_rt 237 = ((some .int), 0, 0) := by decide +kernel
theorem l237 : ts_ml 237 = 2 := by decide +kernel
theorem i10_0 : ts_ins 10 0 = some (.iload_n 0, 1, 0) := by decide +kernel
theorem i10_1 : ts_ins 10 1 = some (.istore_n 2, 2, 0) := by decide +kernel
theorem i10_2 : ts_ins 10 2 = some (.iconst 0, 3, 0) := by decide +kernel
theorem i10_3 : ts_ins 10 3 = some (.istore_n 3, 4, 0) := by decide +kernel
theorem i10_4 : ts_ins 10 4 = some (.iload_n 3, 5, 0) := by decide +kernel
theorem i10_5 : ts_ins 10 5 = some (.bipush 8, 7, 0) := by decide +kernel
theorem i10_7 : ts_ins 10 7 = some (.if_icmp .ge 32, 10, 39) := by decide +kernel
theorem i10_10 : ts_ins 10 10 = some (.iload_n 2, 11, 0) := by decide +kernel
theorem i10_11 : ts_ins 10 11 = some (.ifCond .lt 28, 14, 39) := by decide +kernel
theorem i10_14 : ts_ins 10 14 = some (.iload_n 2, 15, 0) := by decide +kernel
theorem i10_15 : ts_ins 10 15 = some (.bipush 8, 17, 0) := by decide +kernel
theorem i10_17 : ts_ins 10 17 = some (.if_icmp .ge 22, 20, 39) := by decide +kernel
theorem i10_20 : ts_ins 10 20 = some (.iload_n 2, 21, 0) := by decide +kernel
theorem i10_21 : ts_ins 10 21 = some (.iload_n 1, 22, 0) := by decide +kernel
theorem i10_22 : ts_ins 10 22 = some (.if_icmp .ne 5, 25, 27) := by decide +kernel
theorem i10_25 : ts_ins 10 25 = some (.iconst 1, 26, 0) := by decide +kernel
theorem i10_26 : ts_ins 10 26 = some (.ireturn, 27, 0) := by decide +kernel
theorem i10_27 : ts_ins 10 27 = some (.getstatic 28, 30, 0) := by decide +kernel
theorem g10_27 : ts_sg (ts_mc 10) 28 = some (.ref 1002) := by decide +kernel
theorem i10_30 : ts_ins 10 30 = some (.iload_n 2, 31, 0) := by decide +kernel
theorem i10_31 : ts_ins 10 31 = some (.iaload, 32, 0) := by decide +kernel
theorem i10_32 : ts_ins 10 32 = some (.istore_n 2, 33, 0) := by decide +kernel
theorem i10_33 : ts_ins 10 33 = some (.iinc 3 1, 36, 0) := by decide +kernel
theorem i10_36 : ts_ins 10 36 = some (.goto (-32), 39, 4) := by decide +kernel
theorem i10_39 : ts_ins 10 39 = some (.iconst 0, 40, 0) := by decide +kernel
theorem i10_40 : ts_ins 10 40 = some (.ireturn, 41, 0) := by decide +kernel
theorem r10 : ts_rt 10 = ((some .boolean), 0, 0) := by decide +kernel
theorem l10 : ts_ml 10 = 4 := by decide +kernel
theorem i9_0 : ts_ins 9 0 = some (.iload_n 1, 1, 0) := by decide +kernel
theorem i9_1 : ts_ins 9 1 = some (.ifCond .lt 20, 4, 21) := by decide +kernel
theorem i9_4 : ts_ins 9 4 = some (.iload_n 1, 5, 0) := by decide +kernel
theorem i9_5 : ts_ins 9 5 = some (.aload_n 0, 6, 0) := by decide +kernel
theorem i9_6 : ts_ins 9 6 = some (.getfield 18, 9, 0) := by decide +kernel
theorem g9_6 : ts_fm 9 18 = some (2, 2, 0) := by decide +kernel
theorem i9_9 : ts_ins 9 9 = some (.if_icmp .ge 12, 12, 21) := by decide +kernel
theorem i9_12 : ts_ins 9 12 = some (.aload_n 0, 13, 0) := by decide +kernel
theorem i9_13 : ts_ins 9 13 = some (.getfield 9, 16, 0) := by decide +kernel
theorem g9_13 : ts_fm 9 9 = some (2, 0, 2) := by decide +kernel
theorem i9_16 : ts_ins 9 16 = some (.iload_n 1, 17, 0) := by decide +kernel
theorem i9_17 : ts_ins 9 17 = some (.iaload, 18, 0) := by decide +kernel
theorem i9_18 : ts_ins 9 18 = some (.goto 4, 21, 22) := by decide +kernel
theorem i9_21 : ts_ins 9 21 = some (.iconst (-1), 22, 0) := by decide +kernel
theorem i9_22 : ts_ins 9 22 = some (.ireturn, 23, 0) := by decide +kernel
theorem r9 : ts_rt 9 = ((some .int), 0, 0) := by decide +kernel
theorem l9 : ts_ml 9 = 2 := by decide +kernel
theorem i135_0 : ts_ins 135 0 = some (.iload_n 1, 1, 0) := by decide +kernel
theorem i135_1 : ts_ins 135 1 = some (.invokestatic 358, 4, 0) := by decide +kernel
theorem g135_1 : ts_cal (ts_mc 135) 358 = some (1, 138, 1) := by decide +kernel
theorem i135_4 : ts_ins 135 4 = some (.ifCond .eq 10, 7, 14) := by decide +kernel
theorem i135_7 : ts_ins 135 7 = some (.iload_n 2, 8, 0) := by decide +kernel
theorem i135_8 : ts_ins 135 8 = some (.invokestatic 342, 11, 0) := by decide +kernel
theorem g135_8 : ts_cal (ts_mc 135) 342 = some (1, 139, 1) := by decide +kernel
theorem i135_11 : ts_ins 135 11 = some (.ifCond .ne 5, 14, 16) := by decide +kernel
theorem i135_14 : ts_ins 135 14 = some (.iconst (-1), 15, 0) := by decide +kernel
theorem i135_15 : ts_ins 135 15 = some (.ireturn, 16, 0) := by decide +kernel
theorem i135_16 : ts_ins 135 16 = some (.aload_n 0, 17, 0) := by decide +kernel
theorem i135_17 : ts_ins 135 17 = some (.getfield 87, 20, 0) := by decide +kernel
theorem g135_17 : ts_fm 135 87 = some (11, 12, 2) := by decide +kernel
theorem i135_20 : ts_ins 135 20 = some (.iload_n 1, 21, 0) := by decide +kernel
theorem i135_21 : ts_ins 135 21 = some (.aaload, 22, 0) := by decide +kernel
theorem i135_22 : ts_ins 135 22 = some (.astore_n 3, 23, 0) := by decide +kernel
theorem i135_23 : ts_ins 135 23 = some (.aload_n 3, 24, 0) := by decide +kernel
theorem i135_24 : ts_ins 135 24 = some (.invokevirtual 388, 27, 0) := by decide +kernel
theorem g135_24 : ts_cal (ts_mc 135) 388 = some (0, 58, 0) := by decide +kernel
theorem i135_27 : ts_ins 135 27 = some (.ifCond .eq 6, 30, 33) := by decide +kernel
theorem i135_30 : ts_ins 135 30 = some (.bipush (-11), 32, 0) := by decide +kernel
theorem i135_32 : ts_ins 135 32 = some (.ireturn, 33, 0) := by decide +kernel
theorem i135_33 : ts_ins 135 33 = some (.aload_n 3, 34, 0) := by decide +kernel
theorem i135_34 : ts_ins 135 34 = some (.invokevirtual 400, 37, 0) := by decide +kernel
theorem g135_34 : ts_cal (ts_mc 135) 400 = some (0, 59, 0) := by decide +kernel
theorem i135_37 : ts_ins 135 37 = some (.ifCond .eq 17, 40, 54) := by decide +kernel
theorem i135_40 : ts_ins 135 40 = some (.aload_n 0, 41, 0) := by decide +kernel
theorem i135_41 : ts_ins 135 41 = some (.getfield 81, 44, 0) := by decide +kernel
theorem g135_41 : ts_fm 135 81 = some (11, 11, 2) := by decide +kernel
theorem i135_44 : ts_ins 135 44 = some (.aload_n 3, 45, 0) := by decide +kernel
theorem i135_45 : ts_ins 135 45 = some (.getfield 403, 48, 0) := by decide +kernel
theorem g135_45 : ts_fm 135 403 = some (7, 2, 0) := by decide +kernel
theorem i135_48 : ts_ins 135 48 = some (.invokevirtual 406, 51, 0) := by decide +kernel
theorem g135_48 : ts_cal (ts_mc 135) 406 = some (0, 9, 1) := by decide +kernel
theorem i135_51 : ts_ins 135 51 = some (.goto 4, 54, 55) := by decide +kernel
theorem i135_54 : ts_ins 135 54 = some (.iconst (-1), 55, 0) := by decide +kernel
theorem i135_55 : ts_ins 135 55 = some (.istore 4, 57, 0) := by decide +kernel
theorem i135_57 : ts_ins 135 57 = some (.iload 4, 59, 0) := by decide +kernel
theorem i135_59 : ts_ins 135 59 = some (.iload_n 2, 60, 0) := by decide +kernel
theorem i135_60 : ts_ins 135 60 = some (.invokestatic 409, 63, 0) := by decide +kernel
theorem g135_60 : ts_cal (ts_mc 135) 409 = some (1, 10, 2) := by decide +kernel
theorem i135_63 : ts_ins 135 63 = some (.ifCond .eq 8, 66, 71) := by decide +kernel
theorem i135_66 : ts_ins 135 66 = some (.iload 4, 68, 0) := by decide +kernel
theorem i135_68 : ts_ins 135 68 = some (.goto 5, 71, 73) := by decide +kernel
theorem i135_71 : ts_ins 135 71 = some (.bipush (-12), 73, 0) := by decide +kernel
theorem i135_73 : ts_ins 135 73 = some (.ireturn, 74, 0) := by decide +kernel
theorem r135 : ts_rt 135 = ((some .int), 0, 0) := by decide +kernel
theorem l135 : ts_ml 135 = 5 := by decide +kernel
theorem i220_0 : ts_ins 220 0 = some (.iload_n 0, 1, 0) := by decide +kernel
theorem i220_1 : ts_ins 220 1 = some (.iconst 3, 2, 0) := by decide +kernel
theorem i220_2 : ts_ins 220 2 = some (.if_icmp .ne 7, 5, 9) := by decide +kernel
theorem i220_5 : ts_ins 220 5 = some (.iconst 2, 6, 0) := by decide +kernel
theorem i220_6 : ts_ins 220 6 = some (.goto 32, 9, 38) := by decide +kernel
theorem i220_9 : ts_ins 220 9 = some (.iload_n 0, 10, 0) := by decide +kernel
theorem i220_10 : ts_ins 220 10 = some (.iconst 4, 11, 0) := by decide +kernel
theorem i220_11 : ts_ins 220 11 = some (.if_icmp .ne 7, 14, 18) := by decide +kernel
theorem i220_14 : ts_ins 220 14 = some (.iconst 1, 15, 0) := by decide +kernel
theorem i220_15 : ts_ins 220 15 = some (.goto 23, 18, 38) := by decide +kernel
theorem i220_18 : ts_ins 220 18 = some (.iload_n 0, 19, 0) := by decide +kernel
theorem i220_19 : ts_ins 220 19 = some (.iconst 5, 20, 0) := by decide +kernel
theorem i220_20 : ts_ins 220 20 = some (.if_icmp .ne 7, 23, 27) := by decide +kernel
theorem i220_23 : ts_ins 220 23 = some (.iconst 3, 24, 0) := by decide +kernel
theorem i220_24 : ts_ins 220 24 = some (.goto 14, 27, 38) := by decide +kernel
theorem i220_27 : ts_ins 220 27 = some (.iload_n 0, 28, 0) := by decide +kernel
theorem i220_28 : ts_ins 220 28 = some (.bipush 7, 30, 0) := by decide +kernel
theorem i220_30 : ts_ins 220 30 = some (.if_icmp .ne 7, 33, 37) := by decide +kernel
theorem i220_33 : ts_ins 220 33 = some (.iconst 4, 34, 0) := by decide +kernel
theorem i220_34 : ts_ins 220 34 = some (.goto 4, 37, 38) := by decide +kernel
theorem i220_37 : ts_ins 220 37 = some (.iconst 0, 38, 0) := by decide +kernel
theorem i220_38 : ts_ins 220 38 = some (.ireturn, 39, 0) := by decide +kernel
theorem r220 : ts_rt 220 = ((some .int), 0, 0) := by decide +kernel
theorem l220 : ts_ml 220 = 1 := by decide +kernel
theorem i218_0 : ts_ins 218 0 = some (.aload_n 0, 1, 0) := by decide +kernel
theorem i218_1 : ts_ins 218 1 = some (.getfield 64, 4, 0) := by decide +kernel
theorem g218_1 : ts_fm 218 64 = some (12, 33, 2) := by decide +kernel
theorem i218_4 : ts_ins 218 4 = some (.iload_n 1, 5, 0) := by decide +kernel
theorem i218_5 : ts_ins 218 5 = some (.iaload, 6, 0) := by decide +kernel
theorem i218_6 : ts_ins 218 6 = some (.ireturn, 7, 0) := by decide +kernel
theorem r218 : ts_rt 218 = ((some .int), 0, 0) := by decide +kernel
theorem l218 : ts_ml 218 = 2 := by decide +kernel
theorem i236_0 : ts_ins 236 0 = some (.iload_n 1, 1, 0) := by decide +kernel
theorem i236_1 : ts_ins 236 1 = some (.invokestatic 111, 4, 0) := by decide +kernel
theorem g236_1 : ts_cal (ts_mc 236) 111 = some (1, 228, 1) := by decide +kernel
theorem i236_4 : ts_ins 236 4 = some (.ifCond .eq 15, 7, 19) := by decide +kernel
theorem i236_7 : ts_ins 236 7 = some (.iload_n 2, 8, 0) := by decide +kernel
theorem i236_8 : ts_ins 236 8 = some (.i2l, 9, 0) := by decide +kernel
theorem i236_9 : ts_ins 236 9 = some (.lconst 0, 10, 0) := by decide +kernel
theorem i236_10 : ts_ins 236 10 = some (.ldc2_w 105, 13, 0) := by decide +kernel
theorem g236_10 : ts_lc (ts_mc 236) 105 = some (.long (7)) := by decide +kernel
theorem i236_13 : ts_ins 236 13 = some (.invokestatic 95, 16, 0) := by decide +kernel
theorem g236_13 : ts_cal (ts_mc 236) 95 = some (1, 143, 3) := by decide +kernel
theorem i236_16 : ts_ins 236 16 = some (.ifCond .ne 5, 19, 21) := by decide +kernel
theorem i236_19 : ts_ins 236 19 = some (.iconst (-1), 20, 0) := by decide +kernel
theorem i236_20 : ts_ins 236 20 = some (.ireturn, 21, 0) := by decide +kernel
theorem i236_21 : ts_ins 236 21 = some (.aload_n 0, 22, 0) := by decide +kernel
theorem i236_22 : ts_ins 236 22 = some (.getfield 70, 25, 0) := by decide +kernel
theorem g236_22 : ts_fm 236 70 = some (12, 38, 2) := by decide +kernel
theorem i236_25 : ts_ins 236 25 = some (.iload_n 1, 26, 0) := by decide +kernel
theorem i236_26 : ts_ins 236 26 = some (.iaload, 27, 0) := by decide +kernel
theorem i236_27 : ts_ins 236 27 = some (.ifCond .ge 6, 30, 33) := by decide +kernel
theorem i236_30 : ts_ins 236 30 = some (.bipush (-11), 32, 0) := by decide +kernel
theorem i236_32 : ts_ins 236 32 = some (.ireturn, 33, 0) := by decide +kernel
theorem i236_33 : ts_ins 236 33 = some (.aload_n 0, 34, 0) := by decide +kernel
theorem i236_34 : ts_ins 236 34 = some (.getfield 70, 37, 0) := by decide +kernel
theorem g236_34 : ts_fm 236 70 = some (12, 38, 2) := by decide +kernel
theorem i236_37 : ts_ins 236 37 = some (.iload_n 1, 38, 0) := by decide +kernel
theorem i236_38 : ts_ins 236 38 = some (.iaload, 39, 0) := by decide +kernel
theorem i236_39 : ts_ins 236 39 = some (.bipush 50, 41, 0) := by decide +kernel
theorem i236_41 : ts_ins 236 41 = some (.if_icmp .lt 6, 44, 47) := by decide +kernel
theorem i236_44 : ts_ins 236 44 = some (.bipush (-12), 46, 0) := by decide +kernel
theorem i236_46 : ts_ins 236 46 = some (.ireturn, 47, 0) := by decide +kernel
theorem i236_47 : ts_ins 236 47 = some (.aload_n 0, 48, 0) := by decide +kernel
theorem i236_48 : ts_ins 236 48 = some (.aload_n 0, 49, 0) := by decide +kernel
theorem i236_49 : ts_ins 236 49 = some (.getfield 70, 52, 0) := by decide +kernel
theorem g236_49 : ts_fm 236 70 = some (12, 38, 2) := by decide +kernel
theorem i236_52 : ts_ins 236 52 = some (.iload_n 1, 53, 0) := by decide +kernel
theorem i236_53 : ts_ins 236 53 = some (.iaload, 54, 0) := by decide +kernel
theorem i236_54 : ts_ins 236 54 = some (.invokevirtual 331, 57, 0) := by decide +kernel
theorem g236_54 : ts_cal (ts_mc 236) 331 = some (0, 218, 1) := by decide +kernel
theorem i236_57 : ts_ins 236 57 = some (.istore_n 3, 58, 0) := by decide +kernel
theorem i236_58 : ts_ins 236 58 = some (.iload_n 3, 59, 0) := by decide +kernel
theorem i236_59 : ts_ins 236 59 = some (.iload_n 2, 60, 0) := by decide +kernel
theorem i236_60 : ts_ins 236 60 = some (.if_icmp .eq 15, 63, 75) := by decide +kernel
theorem i236_63 : ts_ins 236 63 = some (.iload_n 3, 64, 0) := by decide +kernel
theorem i236_64 : ts_ins 236 64 = some (.ifCond .le 11, 67, 75) := by decide +kernel
theorem i236_67 : ts_ins 236 67 = some (.iload_n 3, 68, 0) := by decide +kernel
theorem i236_68 : ts_ins 236 68 = some (.invokestatic 334, 71, 0) := by decide +kernel
theorem g236_68 : ts_cal (ts_mc 236) 334 = some (1, 220, 1) := by decide +kernel
theorem i236_71 : ts_ins 236 71 = some (.istore_n 3, 72, 0) := by decide +kernel
theorem i236_72 : ts_ins 236 72 = some (.goto (-14), 75, 58) := by decide +kernel
theorem i236_75 : ts_ins 236 75 = some (.iload_n 3, 76, 0) := by decide +kernel
theorem i236_76 : ts_ins 236 76 = some (.iload_n 2, 77, 0) := by decide +kernel
theorem i236_77 : ts_ins 236 77 = some (.if_icmp .ne 16, 80, 93) := by decide +kernel
theorem i236_80 : ts_ins 236 80 = some (.aload_n 0, 81, 0) := by decide +kernel
theorem i236_81 : ts_ins 236 81 = some (.aload_n 0, 82, 0) := by decide +kernel
theorem i236_82 : ts_ins 236 82 = some (.getfield 70, 85, 0) := by decide +kernel
theorem g236_82 : ts_fm 236 70 = some (12, 38, 2) := by decide +kernel
theorem i236_85 : ts_ins 236 85 = some (.iload_n 1, 86, 0) := by decide +kernel
theorem i236_86 : ts_ins 236 86 = some (.iaload, 87, 0) := by decide +kernel
theorem i236_87 : ts_ins 236 87 = some (.invokevirtual 331, 90, 0) := by decide +kernel
theorem g236_87 : ts_cal (ts_mc 236) 331 = some (0, 218, 1) := by decide +kernel
theorem i236_90 : ts_ins 236 90 = some (.goto 5, 93, 95) := by decide +kernel
theorem i236_93 : ts_ins 236 93 = some (.bipush (-12), 95, 0) := by decide +kernel
theorem i236_95 : ts_ins 236 95 = some (.ireturn, 96, 0) := by decide +kernel
theorem r236 : ts_rt 236 = ((some .int), 0, 0) := by decide +kernel
theorem l236 : ts_ml 236 = 4 := by decide +kernel
/-! THE TAPE, BODIES, how many -/
/-- how many bytes, the bytes -/
abbrev ts_Ta : Type := Int × (Int → Int)
def RXt (I : Nat → Nat → Int32) (t : ts_Ta) : Prop := rd (I 24 1) 0 120 t.1 ∧ ar I 25 120 0 255 t.2
def RMt (I : Nat → Nat → Int32) (t : ts_Ta) : Prop := rd (I 72 10) 0 120 t.1 ∧ ar I 78 120 0 255 t.2
/-- bodies, ran, kinds, traced -/
abbrev ts_Bo : Type := Int × Int × (Int → Int) × (Int → Int)
def RXb (I : Nat → Nat → Int32) (b : ts_Bo) : Prop := rd (I 56 2) 0 50 b.1 ∧ rd (I 56 3) 0 200 b.2.1 ∧ ar I 57 50 0 7 b.2.2.1 ∧ ar I 58 24 0 100 b.2.2.2
def RMb (I : Nat → Nat → Int32) (b : ts_Bo) : Prop := rd (I 72 32) 0 50 b.1 ∧ rd (I 72 35) 0 200 b.2.1 ∧ ar I 91 50 0 7 b.2.2.1 ∧ ar I 92 24 0 100 b.2.2.2
def g_feedA (t : ts_Ta) (v : Int) : Int := if 0 ≤ v ∧ v ≤ 255 then (if t.1 < 120 then t.1 + 1 else -3) else -1
def g_feedT (t : ts_Ta) (v : Int) : ts_Ta := if (0 ≤ v ∧ v ≤ 255) ∧ t.1 < 120 then (t.1 + 1, zu t.2 t.1 v) else t
def g_bodyA (b : ts_Bo) (k : Int) : Int := if 0 ≤ k ∧ k < 8 then (if b.1 < 50 then b.1 else -3) else -1
def g_bodyB (b : ts_Bo) (k : Int) : ts_Bo := if (0 ≤ k ∧ k < 8) ∧ b.1 < 50 then (b.1 + 1, b.2.1, zu b.2.2.1 b.1 k, b.2.2.2) else b
def g_traceA (b : ts_Bo) (i : Int) : Int := if 0 ≤ i ∧ i < b.2.1 ∧ i < 24 then b.2.2.2 i else -1
def g_countA (f : ts_Fl) (t : ts_Ta) (c : ts_Ch) (b : ts_Bo) (w : Int) : Int := if w = 0 then f_men f else if w = 1 then f_told f else if w = 2 then t.1 else if w = 3 then c_done c else if w = 4 then b.1 else if w = 5 then b.2.1 else -1
abbrev ftx : Nat → Nat → Prop := fun a k => (a = 24 ∧ k = 1) ∨ a = 25
abbrev ftm : Nat → Nat → Prop := fun a k => (a = 72 ∧ k = 10) ∨ a = 78
abbrev fbx : Nat → Nat → Prop := fun a _ => 56 ≤ a ∧ a ≤ 58
abbrev fbm : Nat → Nat → Prop := fun a k => (a = 72 ∧ (k = 32 ∨ 35 ≤ k ∧ k ≤ 37)) ∨ a = 91 ∨ a = 92
section SM
variable {X : ts_X} {I J : Nat → Nat → Int32} {L : Nat → Nat → Int64} {sw : Bool} {K : Option Value → ts_H → Prop} {d : Nat} {f : ts_Fl} {c : ts_Ch} {t : ts_Ta} {b : ts_Bo} {s : ts_Sh}
theorem RXt.co (h : RXt I t) (e1 : J 24 1 = I 24 1) (e2 : J 25 = I 25) : RXt J t := ⟨by rw [e1]; exact h.1, ar_co h.2 e2⟩
theorem RMt.co (h : RMt I t) (e1 : J 72 10 = I 72 10) (e2 : J 78 = I 78) : RMt J t := ⟨by rw [e1]; exact h.1, ar_co h.2 e2⟩
theorem RXb.co (h : RXb I b) (e2 : J 56 2 = I 56 2) (e3 : J 56 3 = I 56 3) (e4 : J 57 = I 57) (e5 : J 58 = I 58) : RXb J b := ⟨by rw [e2]; exact h.1, by rw [e3]; exact h.2.1, ar_co h.2.2.1 e4, ar_co h.2.2.2 e5⟩
theorem RMb.co (h : RMb I b) (e2 : J 72 32 = I 72 32) (e3 : J 72 35 = I 72 35) (e4 : J 91 = I 91) (e5 : J 92 = I 92) : RMb J b := ⟨by rw [e2]; exact h.1, by rw [e3]; exact h.2.1, ar_co h.2.2.1 e4, ar_co h.2.2.2 e5⟩
theorem x_addByte (hT : RXt I t) {v : Int} (hv : 0 ≤ v ∧ v ≤ 255) (hK : ∀ J, fr ftx I J → RXt J (g_feedT t v) → K (some (.int (zI (g_feedA t v)))) (J, L, ts_P0 sw, ts_S0)) : ts_Cal X (d + 1) 40 [.ref 24, .int (zI (v))] (I, L, ts_P0 sw, ts_S0) K := by
  have b1 := hT.1.2
  unfold g_feedT g_feedA at hK
  refine ev_enter (lv := [.ref 24, .int (zI (v))]) l40 rfl (Nat.le_of_ble_eq_true rfl) ?_
  refine ev_aloadn_0 i40_0 ?_
  refine ew_getI i40_1 g40_1 rfl (by first | exact hT.1 | exact hX.men | exact hX.told | exact hX.road | exact hX.tone _ (by omega) (by omega) | exact hX.corn _ (by omega) (by omega) | exact hX.stand _ (by omega) (by omega) | exact hX.reach _ (by omega) (by omega) | exact hX.arm _ (by omega) (by omega) | exact hX.late _ (by omega) (by omega) | exact hX.len _ (by omega) (by omega) | exact hX.say (by omega) (by omega) _ (by omega) (by omega)) (fun b1 => ?_)
  refine ew_bipush i40_4 (by decide) ?_
  refine ew_icmplt i40_6 (by omega) (fun c6 => ?_) (fun c6 => ?_)
  · refine ev_aloadn_0 i40_12 ?_
    refine ev_getA i40_13 g40_13 rfl rfl (by decide) ?_
    refine ev_aloadn_0 i40_16 ?_
    refine ew_getI i40_17 g40_17 rfl (by first | exact hT.1 | exact hX.men | exact hX.told | exact hX.road | exact hX.tone _ (by omega) (by omega) | exact hX.corn _ (by omega) (by omega) | exact hX.stand _ (by omega) (by omega) | exact hX.reach _ (by omega) (by omega) | exact hX.arm _ (by omega) (by omega) | exact hX.late _ (by omega) (by omega) | exact hX.len _ (by omega) (by omega) | exact hX.say (by omega) (by omega) _ (by omega) (by omega)) (fun b17 => ?_)
    refine ev_iloadn_1 i40_20 ?_
    refine ew_iastore i40_21 rfl (by omega) (by omega) (by omega) ?_
    refine ev_aloadn_0 i40_22 ?_
    refine ev_dup i40_23 rfl ?_
    refine ew_getI i40_24 g40_24 rfl (by first | exact hT.1 | exact hX.men | exact hX.told | exact hX.road | exact hX.tone _ (by omega) (by omega) | exact hX.corn _ (by omega) (by omega) | exact hX.stand _ (by omega) (by omega) | exact hX.reach _ (by omega) (by omega) | exact hX.arm _ (by omega) (by omega) | exact hX.late _ (by omega) (by omega) | exact hX.len _ (by omega) (by omega) | exact hX.say (by omega) (by omega) _ (by omega) (by omega)) (fun b24 => ?_)
    refine ew_iconst i40_27 ?_
    refine ew_iadd i40_28 ?_
    refine ev_putI i40_29 g40_29 rfl ?_
    refine ev_aloadn_0 i40_32 ?_
    refine ew_getI i40_33 g40_33 rfl ((rd_zI (lo := 0) (hi := 120) (v := t.1 + 1) (by omega))) (fun b33 => ?_)
    refine ev_ireturn i40_36 r40 ?_
    rw [if_pos ⟨hv, c6⟩, if_pos hv, if_pos c6] at hK
    exact hK _ (by repeat' (first | exact fr_rfl _ _ | refine fr_up ?_ (by omega))) ⟨rd_zI (by omega), ar_up hT.2 b1.1 hv⟩
  · refine ew_bipush i40_9 (by decide) ?_
    refine ev_ireturn i40_11 r40 ?_
    rw [if_neg (by omega), if_pos hv, if_neg c6] at hK
    exact hK I (fr_rfl _ _) hT
theorem x_feed (hT : RXt I t) {v : Int} (hv : -2147483648 ≤ v ∧ v ≤ 2147483647) (hK : ∀ J, fr ftx I J → RXt J (g_feedT t v) → K (some (.int (zI (g_feedA t v)))) (J, L, ts_P0 sw, ts_S0)) : ts_Cal X (d + 2) 98 [.ref 1, .int (zI (v))] (I, L, ts_P0 sw, ts_S0) K := by
  refine ev_enter (lv := [.ref 1, .int (zI (v))]) l98 rfl (Nat.le_of_ble_eq_true rfl) ?_
  refine ev_iloadn_1 i98_0 ?_
  refine ew_iflt i98_1 (by omega) (fun c1 => ?_) (fun c1 => ?_)
  · refine ew_iconst i98_11 ?_
    refine ev_ireturn i98_12 r98 ?_
    unfold g_feedT g_feedA at hK
    rw [if_neg (by omega), if_neg (by omega)] at hK
    exact hK I (fr_rfl _ _) hT
  · refine ev_iloadn_1 i98_4 ?_
    refine ew_sipush i98_5 (by decide) ?_
    refine ew_icmple i98_8 (by omega) (fun c8 => ?_) (fun c8 => ?_)
    · refine ev_aloadn_0 i98_13 ?_
      refine ev_getA i98_14 g98_14 rfl rfl (by decide) ?_
      refine ev_iloadn_1 i98_17 ?_
      refine ev_virt1 i98_18 g98_18 rfl (by decide +kernel) (Nat.le_of_ble_eq_true rfl) (x_addByte hT (by omega) (fun J h1 h2 => ?_))
      refine ev_ireturn i98_21 r98 ?_
      exact hK J h1 h2
    · refine ew_iconst i98_11 ?_
      refine ev_ireturn i98_12 r98 ?_
      unfold g_feedT g_feedA at hK
      rw [if_neg (by omega), if_neg (by omega)] at hK
      exact hK I (fr_rfl _ _) hT
theorem m_feed (hT : RMt I t) {v : Int} (hv : -2147483648 ≤ v ∧ v ≤ 2147483647) (hK : ∀ J, fr ftm I J → RMt J (g_feedT t v) → K (some (.int (zI (g_feedA t v)))) (J, L, ts_P0 sw, ts_S0)) : ts_Cal X (d + 2) 159 [.ref 72, .int (zI (v))] (I, L, ts_P0 sw, ts_S0) K := by
  have b1 := hT.1.2
  unfold g_feedT g_feedA at hK
  refine ev_enter (lv := [.ref 72, .int (zI (v))]) l159 rfl (Nat.le_of_ble_eq_true rfl) ?_
  refine ev_iloadn_1 i159_0 ?_
  refine ew_i2l i159_1 (by omega) ?_
  refine ew_lconst (z := 0) i159_2 (by decide) ?_
  refine ew_ldc2_w (z := (255)) i159_3 g159_3 (by decide) ?_
  refine ev_stat3 i159_6 g159_6 (by decide +kernel) (Nat.le_of_ble_eq_true rfl) (m_within (by omega) (by omega) (by omega) ?_)
  first
  | refine ew_ifneB i159_9 (fun c9 => ?_) (fun c9 => ?_)
  | refine ew_ifne i159_9 (by omega) (fun c9 => ?_) (fun c9 => ?_)
  · refine ev_aloadn_0 i159_14 ?_
    refine ew_getI i159_15 g159_15 rfl (by first | exact hT.1 | exact hM.men | exact hM.told | exact hM.road | exact hM.stand _ (by omega) (by omega) | exact hM.reach _ (by omega) (by omega) | exact hM.arm _ (by omega) (by omega) | exact hM.late _ (by omega) (by omega) | exact hM.len _ (by omega) (by omega) | exact hM.corn _ (by omega) (by omega) | exact hM.say (by omega) (by omega) _ (by omega) (by omega) | exact hM.tone _ (by omega) (by omega)) (fun b15 => ?_)
    refine ew_bipush i159_18 (by decide) ?_
    refine ew_icmpne i159_20 (by omega) (fun c20 => ?_) (fun c20 => ?_)
    · refine ev_aloadn_0 i159_26 ?_
      refine ev_getA i159_27 g159_27 rfl rfl (by decide) ?_
      refine ev_aloadn_0 i159_30 ?_
      refine ew_getI i159_31 g159_31 rfl (by first | exact hT.1 | exact hM.men | exact hM.told | exact hM.road | exact hM.stand _ (by omega) (by omega) | exact hM.reach _ (by omega) (by omega) | exact hM.arm _ (by omega) (by omega) | exact hM.late _ (by omega) (by omega) | exact hM.len _ (by omega) (by omega) | exact hM.corn _ (by omega) (by omega) | exact hM.say (by omega) (by omega) _ (by omega) (by omega) | exact hM.tone _ (by omega) (by omega)) (fun b31 => ?_)
      refine ev_iloadn_1 i159_34 ?_
      refine ew_iastore i159_35 rfl (by omega) (by omega) (by omega) ?_
      refine ev_aloadn_0 i159_36 ?_
      refine ev_dup i159_37 rfl ?_
      refine ew_getI i159_38 g159_38 rfl (by first | exact hT.1 | exact hM.men | exact hM.told | exact hM.road | exact hM.stand _ (by omega) (by omega) | exact hM.reach _ (by omega) (by omega) | exact hM.arm _ (by omega) (by omega) | exact hM.late _ (by omega) (by omega) | exact hM.len _ (by omega) (by omega) | exact hM.corn _ (by omega) (by omega) | exact hM.say (by omega) (by omega) _ (by omega) (by omega) | exact hM.tone _ (by omega) (by omega)) (fun b38 => ?_)
      refine ew_iconst i159_41 ?_
      refine ew_iadd i159_42 ?_
      refine ev_putI i159_43 g159_43 rfl ?_
      refine ev_aloadn_0 i159_46 ?_
      refine ew_getI i159_47 g159_47 rfl ((rd_zI (lo := 0) (hi := 120) (v := t.1 + 1) (by omega))) (fun b47 => ?_)
      refine ev_ireturn i159_50 r159 ?_
      rw [if_pos ⟨c9, by omega⟩, if_pos c9, if_pos (by omega)] at hK
      exact hK _ (by repeat' (first | exact fr_rfl _ _ | refine fr_up ?_ (by omega))) ⟨rd_zI (by omega), ar_up hT.2 b1.1 c9⟩
    · refine ew_bipush i159_23 (by decide) ?_
      refine ev_ireturn i159_25 r159 ?_
      rw [if_neg (by omega), if_pos c9, if_neg (by omega)] at hK
      exact hK I (fr_rfl _ _) hT
  · refine ew_iconst i159_12 ?_
    refine ev_ireturn i159_13 r159 ?_
    rw [if_neg (by omega), if_neg (by omega)] at hK
    exact hK I (fr_rfl _ _) hT
theorem x_addBody (hB : RXb I b) {k : Int} (hk : 0 ≤ k ∧ k < 8) (hK : ∀ J, fr fbx I J → RXb J (g_bodyB b k) → K (some (.int (zI (g_bodyA b k)))) (J, L, ts_P0 sw, ts_S0)) : ts_Cal X (d + 1) 8 [.ref 56, .int (zI (k))] (I, L, ts_P0 sw, ts_S0) K := by
  have b1 := hB.1.2
  unfold g_bodyB g_bodyA at hK
  refine ev_enter (lv := [.ref 56, .int (zI (k))]) l8 rfl (Nat.le_of_ble_eq_true rfl) ?_
  refine ev_aloadn_0 i8_0 ?_
  refine ew_getI i8_1 g8_1 rfl (by first | exact hB.1 | exact hX.men | exact hX.told | exact hX.road | exact hX.tone _ (by omega) (by omega) | exact hX.corn _ (by omega) (by omega) | exact hX.stand _ (by omega) (by omega) | exact hX.reach _ (by omega) (by omega) | exact hX.arm _ (by omega) (by omega) | exact hX.late _ (by omega) (by omega) | exact hX.len _ (by omega) (by omega) | exact hX.say (by omega) (by omega) _ (by omega) (by omega)) (fun b1 => ?_)
  refine ew_bipush i8_4 (by decide) ?_
  refine ew_icmplt i8_6 (by omega) (fun c6 => ?_) (fun c6 => ?_)
  · refine ev_aloadn_0 i8_12 ?_
    refine ev_getA i8_13 g8_13 rfl rfl (by decide) ?_
    refine ev_aloadn_0 i8_16 ?_
    refine ew_getI i8_17 g8_17 rfl (by first | exact hB.1 | exact hX.men | exact hX.told | exact hX.road | exact hX.tone _ (by omega) (by omega) | exact hX.corn _ (by omega) (by omega) | exact hX.stand _ (by omega) (by omega) | exact hX.reach _ (by omega) (by omega) | exact hX.arm _ (by omega) (by omega) | exact hX.late _ (by omega) (by omega) | exact hX.len _ (by omega) (by omega) | exact hX.say (by omega) (by omega) _ (by omega) (by omega)) (fun b17 => ?_)
    refine ev_iloadn_1 i8_20 ?_
    refine ew_iastore i8_21 rfl (by omega) (by omega) (by omega) ?_
    refine ev_aloadn_0 i8_22 ?_
    refine ev_dup i8_23 rfl ?_
    refine ew_getI i8_24 g8_24 rfl (by first | exact hB.1 | exact hX.men | exact hX.told | exact hX.road | exact hX.tone _ (by omega) (by omega) | exact hX.corn _ (by omega) (by omega) | exact hX.stand _ (by omega) (by omega) | exact hX.reach _ (by omega) (by omega) | exact hX.arm _ (by omega) (by omega) | exact hX.late _ (by omega) (by omega) | exact hX.len _ (by omega) (by omega) | exact hX.say (by omega) (by omega) _ (by omega) (by omega)) (fun b24 => ?_)
    refine ew_iconst i8_27 ?_
    refine ew_iadd i8_28 ?_
    refine ev_putI i8_29 g8_29 rfl ?_
    refine ev_aloadn_0 i8_32 ?_
    refine ew_getI i8_33 g8_33 rfl ((rd_zI (lo := 0) (hi := 50) (v := b.1 + 1) (by omega))) (fun b33 => ?_)
    refine ew_iconst i8_36 ?_
    refine ew_isub i8_37 ?_
    refine ev_ireturn i8_38 r8 ?_
    rw [if_pos ⟨hk, c6⟩, if_pos hk, if_pos c6] at hK
    exact zK (hK _ (by repeat' (first | exact fr_rfl _ _ | refine fr_up ?_ (by omega))) ⟨rd_zI (by omega), hB.2.1, ar_up hB.2.2.1 b1.1 (by omega), hB.2.2.2⟩) (by omega)
  · refine ew_bipush i8_9 (by decide) ?_
    refine ev_ireturn i8_11 r8 ?_
    rw [if_neg (by omega), if_pos hk, if_neg c6] at hK
    exact hK I (fr_rfl _ _) hB
theorem x_body (hB : RXb I b) {k : Int} (hk : -2147483648 ≤ k ∧ k ≤ 2147483647) (hK : ∀ J, fr fbx I J → RXb J (g_bodyB b k) → K (some (.int (zI (g_bodyA b k)))) (J, L, ts_P0 sw, ts_S0)) : ts_Cal X (d + 2) 127 [.ref 1, .int (zI (k))] (I, L, ts_P0 sw, ts_S0) K := by
  refine ev_enter (lv := [.ref 1, .int (zI (k))]) l127 rfl (Nat.le_of_ble_eq_true rfl) ?_
  refine ev_iloadn_1 i127_0 ?_
  refine ev_stat1 i127_1 g127_1 (by decide +kernel) (Nat.le_of_ble_eq_true rfl) (x_isKind hk ?_)
  first
  | refine ew_ifneB i127_4 (fun c4 => ?_) (fun c4 => ?_)
  | refine ew_ifne i127_4 (by omega) (fun c4 => ?_) (fun c4 => ?_)
  · refine ev_aloadn_0 i127_9 ?_
    refine ev_getA i127_10 g127_10 rfl rfl (by decide) ?_
    refine ev_iloadn_1 i127_13 ?_
    refine ev_virt1 i127_14 g127_14 rfl (by decide +kernel) (Nat.le_of_ble_eq_true rfl) (x_addBody hB c4 (fun J h1 h2 => ?_))
    refine ev_ireturn i127_17 r127 ?_
    exact hK J h1 h2
  · refine ew_iconst i127_7 ?_
    refine ev_ireturn i127_8 r127 ?_
    unfold g_bodyB g_bodyA at hK
    rw [if_neg (by omega), if_neg (by omega)] at hK
    exact hK I (fr_rfl _ _) hB
theorem m_body (hB : RMb I b) {k : Int} (hk : -2147483648 ≤ k ∧ k ≤ 2147483647) (hK : ∀ J, fr fbm I J → RMb J (g_bodyB b k) → K (some (.int (zI (g_bodyA b k)))) (J, L, ts_P0 sw, ts_S0)) : ts_Cal X (d + 2) 219 [.ref 72, .int (zI (k))] (I, L, ts_P0 sw, ts_S0) K := by
  have b1 := hB.1.2
  unfold g_bodyB g_bodyA at hK
  refine ev_enter (lv := [.ref 72, .int (zI (k))]) l219 rfl (Nat.le_of_ble_eq_true rfl) ?_
  refine ev_iloadn_1 i219_0 ?_
  refine ew_i2l i219_1 (by omega) ?_
  refine ew_lconst (z := 0) i219_2 (by decide) ?_
  refine ew_ldc2_w (z := (7)) i219_3 g219_3 (by decide) ?_
  refine ev_stat3 i219_6 g219_6 (by decide +kernel) (Nat.le_of_ble_eq_true rfl) (m_within (by omega) (by omega) (by omega) ?_)
  first
  | refine ew_ifneB i219_9 (fun c9 => ?_) (fun c9 => ?_)
  | refine ew_ifne i219_9 (by omega) (fun c9 => ?_) (fun c9 => ?_)
  · refine ev_aloadn_0 i219_14 ?_
    refine ew_getI i219_15 g219_15 rfl (by first | exact hB.1 | exact hM.men | exact hM.told | exact hM.road | exact hM.stand _ (by omega) (by omega) | exact hM.reach _ (by omega) (by omega) | exact hM.arm _ (by omega) (by omega) | exact hM.late _ (by omega) (by omega) | exact hM.len _ (by omega) (by omega) | exact hM.corn _ (by omega) (by omega) | exact hM.say (by omega) (by omega) _ (by omega) (by omega) | exact hM.tone _ (by omega) (by omega)) (fun b15 => ?_)
    refine ew_bipush i219_18 (by decide) ?_
    refine ew_icmpne i219_20 (by omega) (fun c20 => ?_) (fun c20 => ?_)
    · refine ev_aloadn_0 i219_26 ?_
      refine ev_getA i219_27 g219_27 rfl rfl (by decide) ?_
      refine ev_aloadn_0 i219_30 ?_
      refine ew_getI i219_31 g219_31 rfl (by first | exact hB.1 | exact hM.men | exact hM.told | exact hM.road | exact hM.stand _ (by omega) (by omega) | exact hM.reach _ (by omega) (by omega) | exact hM.arm _ (by omega) (by omega) | exact hM.late _ (by omega) (by omega) | exact hM.len _ (by omega) (by omega) | exact hM.corn _ (by omega) (by omega) | exact hM.say (by omega) (by omega) _ (by omega) (by omega) | exact hM.tone _ (by omega) (by omega)) (fun b31 => ?_)
      refine ev_iloadn_1 i219_34 ?_
      refine ew_iastore i219_35 rfl (by omega) (by omega) (by omega) ?_
      refine ev_aloadn_0 i219_36 ?_
      refine ev_dup i219_37 rfl ?_
      refine ew_getI i219_38 g219_38 rfl (by first | exact hB.1 | exact hM.men | exact hM.told | exact hM.road | exact hM.stand _ (by omega) (by omega) | exact hM.reach _ (by omega) (by omega) | exact hM.arm _ (by omega) (by omega) | exact hM.late _ (by omega) (by omega) | exact hM.len _ (by omega) (by omega) | exact hM.corn _ (by omega) (by omega) | exact hM.say (by omega) (by omega) _ (by omega) (by omega) | exact hM.tone _ (by omega) (by omega)) (fun b38 => ?_)
      refine ew_iconst i219_41 ?_
      refine ew_iadd i219_42 ?_
      refine ev_putI i219_43 g219_43 rfl ?_
      refine ev_aloadn_0 i219_46 ?_
      refine ew_getI i219_47 g219_47 rfl ((rd_zI (lo := 0) (hi := 50) (v := b.1 + 1) (by omega))) (fun b47 => ?_)
      refine ew_iconst i219_50 ?_
      refine ew_isub i219_51 ?_
      refine ev_ireturn i219_52 r219 ?_
      rw [if_pos ⟨by omega, by omega⟩, if_pos (by omega), if_pos (by omega)] at hK
      exact zK (hK _ (by repeat' (first | exact fr_rfl _ _ | refine fr_up ?_ (by omega))) ⟨rd_zI (by omega), hB.2.1, ar_up hB.2.2.1 b1.1 (by omega), hB.2.2.2⟩) (by omega)
    · refine ew_bipush i219_23 (by decide) ?_
      refine ev_ireturn i219_25 r219 ?_
      rw [if_neg (by omega), if_pos (by omega), if_neg (by omega)] at hK
      exact hK I (fr_rfl _ _) hB
  · refine ew_iconst i219_12 ?_
    refine ev_ireturn i219_13 r219 ?_
    rw [if_neg (by omega), if_neg (by omega)] at hK
    exact hK I (fr_rfl _ _) hB
theorem x_trace (hB : RXb I b) {i : Int} (hi : -2147483648 ≤ i ∧ i ≤ 2147483647) (hK : K (some (.int (zI (g_traceA b i)))) (I, L, ts_P0 sw, ts_S0)) : ts_Cal X (d + 1) 129 [.ref 1, .int (zI (i))] (I, L, ts_P0 sw, ts_S0) K := by
  unfold g_traceA at hK
  refine ev_enter (lv := [.ref 1, .int (zI (i))]) l129 rfl (Nat.le_of_ble_eq_true rfl) ?_
  refine ev_iloadn_1 i129_0 ?_
  refine ew_iflt i129_1 (by omega) (fun c1 => ?_) (fun c1 => ?_)
  · refine ew_iconst i129_33 ?_
    refine ev_ireturn i129_34 r129 ?_
    first | exact hK | exact zK hK (by omega)
  · refine ev_iloadn_1 i129_4 ?_
    refine ev_aloadn_0 i129_5 ?_
    refine ev_getA i129_6 g129_6 rfl rfl (by decide) ?_
    refine ew_getI i129_9 g129_9 rfl (by first | exact hB.2.1 | exact hB.2.2.2 _ (by omega) (by omega) | exact hX.men | exact hX.told | exact hX.road | exact hX.tone _ (by omega) (by omega) | exact hX.corn _ (by omega) (by omega) | exact hX.stand _ (by omega) (by omega) | exact hX.reach _ (by omega) (by omega) | exact hX.arm _ (by omega) (by omega) | exact hX.late _ (by omega) (by omega) | exact hX.len _ (by omega) (by omega) | exact hX.say (by omega) (by omega) _ (by omega) (by omega)) (fun b9 => ?_)
    refine ew_icmpge i129_12 (by omega) (fun c12 => ?_) (fun c12 => ?_)
    · refine ew_iconst i129_33 ?_
      refine ev_ireturn i129_34 r129 ?_
      first | exact hK | exact zK hK (by omega)
    · refine ev_iloadn_1 i129_15 ?_
      refine ew_bipush i129_16 (by decide) ?_
      refine ew_icmpge i129_18 (by omega) (fun c18 => ?_) (fun c18 => ?_)
      · refine ew_iconst i129_33 ?_
        refine ev_ireturn i129_34 r129 ?_
        first | exact hK | exact zK hK (by omega)
      · refine ev_aloadn_0 i129_21 ?_
        refine ev_getA i129_22 g129_22 rfl rfl (by decide) ?_
        refine ev_getA i129_25 g129_25 rfl rfl (by decide) ?_
        refine ev_iloadn_1 i129_28 ?_
        refine ew_iaload i129_29 rfl (by omega) (by omega) (by omega) (by first | exact hB.2.1 | exact hB.2.2.2 _ (by omega) (by omega) | exact hX.men | exact hX.told | exact hX.road | exact hX.tone _ (by omega) (by omega) | exact hX.corn _ (by omega) (by omega) | exact hX.stand _ (by omega) (by omega) | exact hX.reach _ (by omega) (by omega) | exact hX.arm _ (by omega) (by omega) | exact hX.late _ (by omega) (by omega) | exact hX.len _ (by omega) (by omega) | exact hX.say (by omega) (by omega) _ (by omega) (by omega)) (fun b29 => ?_)
        refine ev_goto i129_30 ?_
        refine ev_ireturn i129_34 r129 ?_
        first | exact hK | exact zK hK (by omega)
theorem m_trace (hB : RMb I b) {i : Int} (hi : -2147483648 ≤ i ∧ i ≤ 2147483647) (hK : K (some (.int (zI (g_traceA b i)))) (I, L, ts_P0 sw, ts_S0)) : ts_Cal X (d + 1) 227 [.ref 72, .int (zI (i))] (I, L, ts_P0 sw, ts_S0) K := by
  unfold g_traceA at hK
  refine ev_enter (lv := [.ref 72, .int (zI (i))]) l227 rfl (Nat.le_of_ble_eq_true rfl) ?_
  refine ev_iloadn_1 i227_0 ?_
  refine ew_iflt i227_1 (by omega) (fun c1 => ?_) (fun c1 => ?_)
  · refine ew_iconst i227_27 ?_
    refine ev_ireturn i227_28 r227 ?_
    first | exact hK | exact zK hK (by omega)
  · refine ev_iloadn_1 i227_4 ?_
    refine ev_aloadn_0 i227_5 ?_
    refine ew_getI i227_6 g227_6 rfl (by first | exact hB.2.1 | exact hB.2.2.2 _ (by omega) (by omega) | exact hM.men | exact hM.told | exact hM.road | exact hM.stand _ (by omega) (by omega) | exact hM.reach _ (by omega) (by omega) | exact hM.arm _ (by omega) (by omega) | exact hM.late _ (by omega) (by omega) | exact hM.len _ (by omega) (by omega) | exact hM.corn _ (by omega) (by omega) | exact hM.say (by omega) (by omega) _ (by omega) (by omega) | exact hM.tone _ (by omega) (by omega)) (fun b6 => ?_)
    refine ew_icmpge i227_9 (by omega) (fun c9 => ?_) (fun c9 => ?_)
    · refine ew_iconst i227_27 ?_
      refine ev_ireturn i227_28 r227 ?_
      first | exact hK | exact zK hK (by omega)
    · refine ev_iloadn_1 i227_12 ?_
      refine ew_bipush i227_13 (by decide) ?_
      refine ew_icmpge i227_15 (by omega) (fun c15 => ?_) (fun c15 => ?_)
      · refine ew_iconst i227_27 ?_
        refine ev_ireturn i227_28 r227 ?_
        first | exact hK | exact zK hK (by omega)
      · refine ev_aloadn_0 i227_18 ?_
        refine ev_getA i227_19 g227_19 rfl rfl (by decide) ?_
        refine ev_iloadn_1 i227_22 ?_
        refine ew_iaload i227_23 rfl (by omega) (by omega) (by omega) (by first | exact hB.2.1 | exact hB.2.2.2 _ (by omega) (by omega) | exact hM.men | exact hM.told | exact hM.road | exact hM.stand _ (by omega) (by omega) | exact hM.reach _ (by omega) (by omega) | exact hM.arm _ (by omega) (by omega) | exact hM.late _ (by omega) (by omega) | exact hM.len _ (by omega) (by omega) | exact hM.corn _ (by omega) (by omega) | exact hM.say (by omega) (by omega) _ (by omega) (by omega) | exact hM.tone _ (by omega) (by omega)) (fun b23 => ?_)
        refine ev_goto i227_24 ?_
        refine ev_ireturn i227_28 r227 ?_
        first | exact hK | exact zK hK (by omega)
theorem x_count (hX : RX I f) (hT : RXt I t) (hC : RXc I c) (hB : RXb I b) {w : Int} (hw : -2147483648 ≤ w ∧ w ≤ 2147483647) (hK : K (some (.int (zI (g_countA f t c b w)))) (I, L, ts_P0 sw, ts_S0)) : ts_Cal X (d + 1) 136 [.ref 1, .int (zI (w))] (I, L, ts_P0 sw, ts_S0) K := by
  unfold g_countA at hK
  refine ev_enter (lv := [.ref 1, .int (zI (w))]) l136 rfl (Nat.le_of_ble_eq_true rfl) ?_
  refine ev_iloadn_1 i136_0 ?_
  rcases (show w = 0 ∨ w = 1 ∨ w = 2 ∨ w = 3 ∨ w = 4 ∨ w = 5 ∨ (w < 0 ∨ 5 < w) by omega) with c1 | c1 | c1 | c1 | c1 | c1 | c1
  · refine ew_sw (v := 0) i136_1 c1 (t := 40) (by decide) rfl ?_
    refine ev_aloadn_0 i136_40 ?_
    refine ev_getA i136_41 g136_41 rfl rfl (by decide) ?_
    refine ew_getI i136_44 g136_44 rfl (by first | exact hT.1 | exact hC.1 | exact hB.1 | exact hB.2.1 | exact hX.men | exact hX.told | exact hX.road | exact hX.tone _ (by omega) (by omega) | exact hX.corn _ (by omega) (by omega) | exact hX.stand _ (by omega) (by omega) | exact hX.reach _ (by omega) (by omega) | exact hX.arm _ (by omega) (by omega) | exact hX.late _ (by omega) (by omega) | exact hX.len _ (by omega) (by omega) | exact hX.say (by omega) (by omega) _ (by omega) (by omega)) (fun b44 => ?_)
    refine ev_ireturn i136_47 r136 ?_
    first | exact hK | exact zK hK (by omega)
  · refine ew_sw (v := 1) i136_1 c1 (t := 48) (by decide) rfl ?_
    refine ev_aloadn_0 i136_48 ?_
    refine ev_getA i136_49 g136_49 rfl rfl (by decide) ?_
    refine ew_getI i136_52 g136_52 rfl (by first | exact hT.1 | exact hC.1 | exact hB.1 | exact hB.2.1 | exact hX.men | exact hX.told | exact hX.road | exact hX.tone _ (by omega) (by omega) | exact hX.corn _ (by omega) (by omega) | exact hX.stand _ (by omega) (by omega) | exact hX.reach _ (by omega) (by omega) | exact hX.arm _ (by omega) (by omega) | exact hX.late _ (by omega) (by omega) | exact hX.len _ (by omega) (by omega) | exact hX.say (by omega) (by omega) _ (by omega) (by omega)) (fun b52 => ?_)
    refine ev_ireturn i136_55 r136 ?_
    first | exact hK | exact zK hK (by omega)
  · refine ew_sw (v := 2) i136_1 c1 (t := 56) (by decide) rfl ?_
    refine ev_aloadn_0 i136_56 ?_
    refine ev_getA i136_57 g136_57 rfl rfl (by decide) ?_
    refine ew_getI i136_60 g136_60 rfl (by first | exact hT.1 | exact hC.1 | exact hB.1 | exact hB.2.1 | exact hX.men | exact hX.told | exact hX.road | exact hX.tone _ (by omega) (by omega) | exact hX.corn _ (by omega) (by omega) | exact hX.stand _ (by omega) (by omega) | exact hX.reach _ (by omega) (by omega) | exact hX.arm _ (by omega) (by omega) | exact hX.late _ (by omega) (by omega) | exact hX.len _ (by omega) (by omega) | exact hX.say (by omega) (by omega) _ (by omega) (by omega)) (fun b60 => ?_)
    refine ev_ireturn i136_63 r136 ?_
    first | exact hK | exact zK hK (by omega)
  · refine ew_sw (v := 3) i136_1 c1 (t := 64) (by decide) rfl ?_
    refine ev_aloadn_0 i136_64 ?_
    refine ev_getA i136_65 g136_65 rfl rfl (by decide) ?_
    refine ew_getI i136_68 g136_68 rfl (by first | exact hT.1 | exact hC.1 | exact hB.1 | exact hB.2.1 | exact hX.men | exact hX.told | exact hX.road | exact hX.tone _ (by omega) (by omega) | exact hX.corn _ (by omega) (by omega) | exact hX.stand _ (by omega) (by omega) | exact hX.reach _ (by omega) (by omega) | exact hX.arm _ (by omega) (by omega) | exact hX.late _ (by omega) (by omega) | exact hX.len _ (by omega) (by omega) | exact hX.say (by omega) (by omega) _ (by omega) (by omega)) (fun b68 => ?_)
    refine ev_ireturn i136_71 r136 ?_
    first | exact hK | exact zK hK (by omega)
  · refine ew_sw (v := 4) i136_1 c1 (t := 72) (by decide) rfl ?_
    refine ev_aloadn_0 i136_72 ?_
    refine ev_getA i136_73 g136_73 rfl rfl (by decide) ?_
    refine ew_getI i136_76 g136_76 rfl (by first | exact hT.1 | exact hC.1 | exact hB.1 | exact hB.2.1 | exact hX.men | exact hX.told | exact hX.road | exact hX.tone _ (by omega) (by omega) | exact hX.corn _ (by omega) (by omega) | exact hX.stand _ (by omega) (by omega) | exact hX.reach _ (by omega) (by omega) | exact hX.arm _ (by omega) (by omega) | exact hX.late _ (by omega) (by omega) | exact hX.len _ (by omega) (by omega) | exact hX.say (by omega) (by omega) _ (by omega) (by omega)) (fun b76 => ?_)
    refine ev_ireturn i136_79 r136 ?_
    first | exact hK | exact zK hK (by omega)
  · refine ew_sw (v := 5) i136_1 c1 (t := 80) (by decide) rfl ?_
    refine ev_aloadn_0 i136_80 ?_
    refine ev_getA i136_81 g136_81 rfl rfl (by decide) ?_
    refine ew_getI i136_84 g136_84 rfl (by first | exact hT.1 | exact hC.1 | exact hB.1 | exact hB.2.1 | exact hX.men | exact hX.told | exact hX.road | exact hX.tone _ (by omega) (by omega) | exact hX.corn _ (by omega) (by omega) | exact hX.stand _ (by omega) (by omega) | exact hX.reach _ (by omega) (by omega) | exact hX.arm _ (by omega) (by omega) | exact hX.late _ (by omega) (by omega) | exact hX.len _ (by omega) (by omega) | exact hX.say (by omega) (by omega) _ (by omega) (by omega)) (fun b84 => ?_)
    refine ev_ireturn i136_87 r136 ?_
    first | exact hK | exact zK hK (by omega)
  · refine ew_tswD (t := 88) i136_1 (by omega) c1 (by decide) ?_
    refine ew_iconst i136_88 ?_
    refine ev_ireturn i136_89 r136 ?_
    first | exact hK | exact zK hK (by omega)
theorem m_count (hM : RM I f) (hT : RMt I t) (hC : RMc I c) (hB : RMb I b) {w : Int} (hw : -2147483648 ≤ w ∧ w ≤ 2147483647) (hK : K (some (.int (zI (g_countA f t c b w)))) (I, L, ts_P0 sw, ts_S0)) : ts_Cal X (d + 1) 237 [.ref 72, .int (zI (w))] (I, L, ts_P0 sw, ts_S0) K := by
  unfold g_countA at hK
  refine ev_enter (lv := [.ref 72, .int (zI (w))]) l237 rfl (Nat.le_of_ble_eq_true rfl) ?_
  refine ev_iloadn_1 i237_0 ?_
  rcases (show w = 0 ∨ w = 1 ∨ w = 2 ∨ w = 3 ∨ w = 4 ∨ w = 5 ∨ (w < 0 ∨ 5 < w) by omega) with c1 | c1 | c1 | c1 | c1 | c1 | c1
  · refine ew_sw (v := 0) i237_1 c1 (t := 40) (by decide) rfl ?_
    refine ev_aloadn_0 i237_40 ?_
    refine ew_getI i237_41 g237_41 rfl (by first | exact hT.1 | exact hC.1 | exact hB.1 | exact hB.2.1 | exact hM.men | exact hM.told | exact hM.road | exact hM.stand _ (by omega) (by omega) | exact hM.reach _ (by omega) (by omega) | exact hM.arm _ (by omega) (by omega) | exact hM.late _ (by omega) (by omega) | exact hM.len _ (by omega) (by omega) | exact hM.corn _ (by omega) (by omega) | exact hM.say (by omega) (by omega) _ (by omega) (by omega) | exact hM.tone _ (by omega) (by omega)) (fun b41 => ?_)
    refine ev_ireturn i237_44 r237 ?_
    first | exact hK | exact zK hK (by omega)
  · refine ew_sw (v := 1) i237_1 c1 (t := 45) (by decide) rfl ?_
    refine ev_aloadn_0 i237_45 ?_
    refine ew_getI i237_46 g237_46 rfl (by first | exact hT.1 | exact hC.1 | exact hB.1 | exact hB.2.1 | exact hM.men | exact hM.told | exact hM.road | exact hM.stand _ (by omega) (by omega) | exact hM.reach _ (by omega) (by omega) | exact hM.arm _ (by omega) (by omega) | exact hM.late _ (by omega) (by omega) | exact hM.len _ (by omega) (by omega) | exact hM.corn _ (by omega) (by omega) | exact hM.say (by omega) (by omega) _ (by omega) (by omega) | exact hM.tone _ (by omega) (by omega)) (fun b46 => ?_)
    refine ev_ireturn i237_49 r237 ?_
    first | exact hK | exact zK hK (by omega)
  · refine ew_sw (v := 2) i237_1 c1 (t := 50) (by decide) rfl ?_
    refine ev_aloadn_0 i237_50 ?_
    refine ew_getI i237_51 g237_51 rfl (by first | exact hT.1 | exact hC.1 | exact hB.1 | exact hB.2.1 | exact hM.men | exact hM.told | exact hM.road | exact hM.stand _ (by omega) (by omega) | exact hM.reach _ (by omega) (by omega) | exact hM.arm _ (by omega) (by omega) | exact hM.late _ (by omega) (by omega) | exact hM.len _ (by omega) (by omega) | exact hM.corn _ (by omega) (by omega) | exact hM.say (by omega) (by omega) _ (by omega) (by omega) | exact hM.tone _ (by omega) (by omega)) (fun b51 => ?_)
    refine ev_ireturn i237_54 r237 ?_
    first | exact hK | exact zK hK (by omega)
  · refine ew_sw (v := 3) i237_1 c1 (t := 55) (by decide) rfl ?_
    refine ev_aloadn_0 i237_55 ?_
    refine ew_getI i237_56 g237_56 rfl (by first | exact hT.1 | exact hC.1 | exact hB.1 | exact hB.2.1 | exact hM.men | exact hM.told | exact hM.road | exact hM.stand _ (by omega) (by omega) | exact hM.reach _ (by omega) (by omega) | exact hM.arm _ (by omega) (by omega) | exact hM.late _ (by omega) (by omega) | exact hM.len _ (by omega) (by omega) | exact hM.corn _ (by omega) (by omega) | exact hM.say (by omega) (by omega) _ (by omega) (by omega) | exact hM.tone _ (by omega) (by omega)) (fun b56 => ?_)
    refine ev_ireturn i237_59 r237 ?_
    first | exact hK | exact zK hK (by omega)
  · refine ew_sw (v := 4) i237_1 c1 (t := 60) (by decide) rfl ?_
    refine ev_aloadn_0 i237_60 ?_
    refine ew_getI i237_61 g237_61 rfl (by first | exact hT.1 | exact hC.1 | exact hB.1 | exact hB.2.1 | exact hM.men | exact hM.told | exact hM.road | exact hM.stand _ (by omega) (by omega) | exact hM.reach _ (by omega) (by omega) | exact hM.arm _ (by omega) (by omega) | exact hM.late _ (by omega) (by omega) | exact hM.len _ (by omega) (by omega) | exact hM.corn _ (by omega) (by omega) | exact hM.say (by omega) (by omega) _ (by omega) (by omega) | exact hM.tone _ (by omega) (by omega)) (fun b61 => ?_)
    refine ev_ireturn i237_64 r237 ?_
    first | exact hK | exact zK hK (by omega)
  · refine ew_sw (v := 5) i237_1 c1 (t := 65) (by decide) rfl ?_
    refine ev_aloadn_0 i237_65 ?_
    refine ew_getI i237_66 g237_66 rfl (by first | exact hT.1 | exact hC.1 | exact hB.1 | exact hB.2.1 | exact hM.men | exact hM.told | exact hM.road | exact hM.stand _ (by omega) (by omega) | exact hM.reach _ (by omega) (by omega) | exact hM.arm _ (by omega) (by omega) | exact hM.late _ (by omega) (by omega) | exact hM.len _ (by omega) (by omega) | exact hM.corn _ (by omega) (by omega) | exact hM.say (by omega) (by omega) _ (by omega) (by omega) | exact hM.tone _ (by omega) (by omega)) (fun b66 => ?_)
    refine ev_ireturn i237_69 r237 ?_
    first | exact hK | exact zK hK (by omega)
  · refine ew_tswD (t := 70) i237_1 (by omega) c1 (by decide) ?_
    refine ew_iconst i237_70 ?_
    refine ev_ireturn i237_71 r237 ?_
    first | exact hK | exact zK hK (by omega)
/-! taken -/
/-- the kind above -/
def k_above (k : Int) : Int := if k = 3 then 2 else if k = 4 then 1 else if k = 5 then 3 else if k = 7 then 4 else if k ≤ 0 then -1 else 0
/-- how many there are from it up -/
def k_dep (k : Int) : Int := if k < 0 then 0 else if k = 0 then 1 else if k = 1 ∨ k = 2 ∨ k = 6 then 2 else if k = 3 ∨ k = 4 then 3 else 4
/-- is k top, or under it -/
abbrev k_und (k top : Int) : Prop := (k = top ∨ k_above k = top ∨ k_above (k_above k) = top ∨ k_above (k_above (k_above k)) = top) ∧ 0 ≤ k
def g_takenA (s : ts_Sh) (b : ts_Bo) (x k : Int) : Int := if (0 ≤ x ∧ x < 6) ∧ 0 ≤ k ∧ k < 8 then (if s.1 x < 0 then -11 else if 50 ≤ s.1 x then -12 else if k_und (b.2.2.1 (s.1 x)) k then b.2.2.1 (s.1 x) else -12) else -1
theorem above_rd {k : Int} (h0 : 0 ≤ k) (h1 : k < 8) : rd ((ts_ca 1002).getD k.toNat 0) (-1) 4 (k_above k) := by
  rcases (show k = 0 ∨ k = 1 ∨ k = 2 ∨ k = 3 ∨ k = 4 ∨ k = 5 ∨ k = 6 ∨ k = 7 by omega) with rfl | rfl | rfl | rfl | rfl | rfl | rfl | rfl <;> exact ⟨rfl, by decide, by decide⟩
theorem k_dep_s {k : Int} (h0 : 0 ≤ k) (h1 : k < 8) : k_dep (k_above k) = k_dep k - 1 ∧ -1 ≤ k_above k ∧ k_above k < 8 ∧ 1 ≤ k_dep k ∧ k_dep k ≤ 4 := by
  rcases (show k = 0 ∨ k = 1 ∨ k = 2 ∨ k = 3 ∨ k = 4 ∨ k = 5 ∨ k = 6 ∨ k = 7 by omega) with rfl | rfl | rfl | rfl | rfl | rfl | rfl | rfl <;> decide
theorem k_und_s {k top : Int} (h0 : 0 ≤ k) (h1 : k < 8) (ht : 0 ≤ top) (hn : ¬ k = top) : k_und k top ↔ k_und (k_above k) top := by
  rcases (show k = 0 ∨ k = 1 ∨ k = 2 ∨ k = 3 ∨ k = 4 ∨ k = 5 ∨ k = 6 ∨ k = 7 by omega) with rfl | rfl | rfl | rfl | rfl | rfl | rfl | rfl <;> (unfold k_und; simp [k_above]; omega)
theorem x_isUnder {k top : Int} (hk : -1 ≤ k ∧ k < 8) (ht : 0 ≤ top ∧ top < 8) (hK : K (some (.int (zI (if k_und k top then 1 else 0)))) (I, L, ts_P0 sw, ts_S0)) : ts_Cal X (d + 1) 10 [.int (zI (k)), .int (zI (top))] (I, L, ts_P0 sw, ts_S0) K := by
  have loop : ∀ i : Int, ∀ a : Int, 0 ≤ i → -1 ≤ a → a < 8 → i + k_dep a ≤ 4 → 0 ≤ k_dep a → (k_und k top ↔ k_und a top) → ts_Ev X (ts_Cal X (d + 0)) 10 ts_S0 K 4 [.int (zI (k)), .int (zI (top)), .int (zI (a)), .int (zI (i))] [] (I, L, ts_P0 sw, ts_S0) := by
    refine ts_ind 8 (fun i ih a h1 h2 h3 h4 h5 h6 => ?_)
    refine ev_iloadn_3 i10_4 ?_
    refine ew_bipush i10_5 (by decide) ?_
    refine ew_icmpge i10_7 (by omega) (fun c7 => ?_) (fun c7 => ?_)
    · refine ew_iconst i10_39 ?_
      first
      | exact ew_zreturn i10_40 r10 (Or.inr ⟨rfl, fun r => absurd (h6.mp r).2 (by omega)⟩) hK
      | (exfalso; omega)
    · refine ev_iloadn_2 i10_10 ?_
      refine ew_iflt i10_11 (by omega) (fun c11 => ?_) (fun c11 => ?_)
      · refine ew_iconst i10_39 ?_
        first
        | exact ew_zreturn i10_40 r10 (Or.inr ⟨rfl, fun r => absurd (h6.mp r).2 (by omega)⟩) hK
        | (exfalso; omega)
      · refine ev_iloadn_2 i10_14 ?_
        refine ew_bipush i10_15 (by decide) ?_
        refine ew_icmpge i10_17 (by omega) (fun c17 => ?_) (fun c17 => ?_)
        · refine ew_iconst i10_39 ?_
          first
          | exact ew_zreturn i10_40 r10 (Or.inr ⟨rfl, fun r => absurd (h6.mp r).2 (by omega)⟩) hK
          | (exfalso; omega)
        · refine ev_iloadn_2 i10_20 ?_
          refine ev_iloadn_1 i10_21 ?_
          refine ew_icmpne i10_22 (by omega) (fun c22 => ?_) (fun c22 => ?_)
          · refine ev_gets i10_27 g10_27 ?_
            refine ev_iloadn_2 i10_30 ?_
            refine ew_iaload i10_31 rfl (by omega) (by show _ < (8 : Int); omega) (by omega) ((above_rd (by omega) (by omega))) (fun b31 => ?_)
            refine ev_istoren_2 i10_32 rfl ?_
            refine ew_iinc_3 i10_33 rfl ?_
            refine ev_goto i10_36 ?_
            have q := k_dep_s (k := a) (by omega) (by omega)
            exact ih (by omega) _ (by omega) (by omega) (by omega) (by omega) (by omega) (h6.trans (k_und_s (by omega) (by omega) ht.1 c22))
          · refine ew_iconst i10_25 ?_
            exact ew_zreturn i10_26 r10 (Or.inl ⟨rfl, h6.mpr ⟨Or.inl c22, by omega⟩⟩) hK
  refine ev_enter (lv := [.int (zI (k)), .int (zI (top)), .null, .null]) l10 rfl (Nat.le_of_ble_eq_true rfl) ?_
  refine ev_iloadn_0 i10_0 ?_
  refine ev_istoren_2 i10_1 rfl ?_
  refine ew_iconst i10_2 ?_
  refine ev_istoren_3 i10_3 rfl ?_
  refine loop 0 k (by decide) (by omega) (by omega) ?_ ?_ Iff.rfl
  · by_cases c : 0 ≤ k
    · have := k_dep_s c hk.2
      omega
    · obtain rfl : k = -1 := by omega
      decide
  · by_cases c : 0 ≤ k
    · have := k_dep_s c hk.2
      omega
    · obtain rfl : k = -1 := by omega
      decide
theorem x_kindOf (hB : RXb I b) {n : Int} (hn : 0 ≤ n ∧ n < b.1) (hK : K (some (.int (zI (b.2.2.1 n)))) (I, L, ts_P0 sw, ts_S0)) : ts_Cal X (d + 1) 9 [.ref 56, .int (zI (n))] (I, L, ts_P0 sw, ts_S0) K := by
  have b1 := hB.1.2
  refine ev_enter (lv := [.ref 56, .int (zI (n))]) l9 rfl (Nat.le_of_ble_eq_true rfl) ?_
  refine ev_iloadn_1 i9_0 ?_
  refine ew_iflt i9_1 (by omega) (fun c1 => ?_) (fun c1 => ?_)
  · refine ew_iconst i9_21 ?_
    refine ev_ireturn i9_22 r9 ?_
    first | exact hK | exact zK hK (by omega)
  · refine ev_iloadn_1 i9_4 ?_
    refine ev_aloadn_0 i9_5 ?_
    refine ew_getI i9_6 g9_6 rfl (by first | exact hB.1 | exact hB.2.2.1 _ (by omega) (by omega) | exact hX.men | exact hX.told | exact hX.road | exact hX.tone _ (by omega) (by omega) | exact hX.corn _ (by omega) (by omega) | exact hX.stand _ (by omega) (by omega) | exact hX.reach _ (by omega) (by omega) | exact hX.arm _ (by omega) (by omega) | exact hX.late _ (by omega) (by omega) | exact hX.len _ (by omega) (by omega) | exact hX.say (by omega) (by omega) _ (by omega) (by omega)) (fun b6 => ?_)
    refine ew_icmpge i9_9 (by omega) (fun c9 => ?_) (fun c9 => ?_)
    · refine ew_iconst i9_21 ?_
      refine ev_ireturn i9_22 r9 ?_
      first | exact hK | exact zK hK (by omega)
    · refine ev_aloadn_0 i9_12 ?_
      refine ev_getA i9_13 g9_13 rfl rfl (by decide) ?_
      refine ev_iloadn_1 i9_16 ?_
      refine ew_iaload i9_17 rfl (by omega) (by omega) (by omega) (by first | exact hB.1 | exact hB.2.2.1 _ (by omega) (by omega) | exact hX.men | exact hX.told | exact hX.road | exact hX.tone _ (by omega) (by omega) | exact hX.corn _ (by omega) (by omega) | exact hX.stand _ (by omega) (by omega) | exact hX.reach _ (by omega) (by omega) | exact hX.arm _ (by omega) (by omega) | exact hX.late _ (by omega) (by omega) | exact hX.len _ (by omega) (by omega) | exact hX.say (by omega) (by omega) _ (by omega) (by omega)) (fun b17 => ?_)
      refine ev_goto i9_18 ?_
      refine ev_ireturn i9_22 r9 ?_
      first | exact hK | exact zK hK (by omega)
theorem x_taken (hS : RXs I L s) (hB : RXb I b) (hF : ∀ q, 0 ≤ q → q < 6 → s.1 q < 50 → s.1 q < b.1) {x k : Int} (hx : -2147483648 ≤ x ∧ x ≤ 2147483647) (hk : -2147483648 ≤ k ∧ k ≤ 2147483647) (hK : K (some (.int (zI (g_takenA s b x k)))) (I, L, ts_P0 sw, ts_S0)) : ts_Cal X (d + 2) 135 [.ref 1, .int (zI (x)), .int (zI (k))] (I, L, ts_P0 sw, ts_S0) K := by
  unfold g_takenA at hK
  refine ev_enter (lv := [.ref 1, .int (zI (x)), .int (zI (k)), .null, .null]) l135 rfl (Nat.le_of_ble_eq_true rfl) ?_
  refine ev_iloadn_1 i135_0 ?_
  refine ev_stat1 i135_1 g135_1 (by decide +kernel) (Nat.le_of_ble_eq_true rfl) (x_isShelf hx ?_)
  first
  | refine ew_ifeqB i135_4 (fun c4 => ?_) (fun c4 => ?_)
  | refine ew_ifeq i135_4 (by omega) (fun c4 => ?_) (fun c4 => ?_)
  · refine ew_iconst i135_14 ?_
    refine ev_ireturn i135_15 r135 ?_
    rw [if_neg (fun r => by first | exact c4 r.1 | exact c11 r.2)] at hK
    exact hK
  · refine ev_iloadn_2 i135_7 ?_
    refine ev_stat1 i135_8 g135_8 (by decide +kernel) (Nat.le_of_ble_eq_true rfl) (x_isKind hk ?_)
    first
    | refine ew_ifneB i135_11 (fun c11 => ?_) (fun c11 => ?_)
    | refine ew_ifne i135_11 (by omega) (fun c11 => ?_) (fun c11 => ?_)
    · rw [if_pos ⟨c4, c11⟩] at hK
      obtain ⟨q, rfl⟩ : ∃ q : Nat, x = q := ⟨x.toNat, by omega⟩
      have hq : q < 6 := by omega
      have hF2 := hF q (by omega) (by omega)
      refine ev_aloadn_0 i135_16 ?_
      refine ev_getA i135_17 g135_17 rfl rfl (by decide) ?_
      refine ev_iloadn_1 i135_20 ?_
      refine ew_aaload i135_21 rfl (by omega) (by omega) (by omega) (she_Sq hq) (by omega) ?_
      refine ev_astoren_3 i135_22 rfl ?_
      refine ev_aloadn_3 i135_23 ?_
      refine ev_virt0 i135_24 g135_24 (she_R hq (by decide +kernel)) (by decide +kernel) (Nat.le_of_ble_eq_true rfl) (x_isEmpty hS hq ?_)
      first
      | refine ew_ifeqB i135_27 (fun c27 => ?_) (fun c27 => ?_)
      | refine ew_ifeq i135_27 (by omega) (fun c27 => ?_) (fun c27 => ?_)
      · refine ev_aloadn_3 i135_33 ?_
        refine ev_virt0 i135_34 g135_34 (she_R hq (by decide +kernel)) (by decide +kernel) (Nat.le_of_ble_eq_true rfl) (x_isFlail hS hq ?_)
        first
        | refine ew_ifeqB i135_37 (fun c37 => ?_) (fun c37 => ?_)
        | refine ew_ifeq i135_37 (by omega) (fun c37 => ?_) (fun c37 => ?_)
        · refine ew_iconst i135_54 ?_
          refine ev_istore_4 i135_55 rfl ?_
          refine ev_iload_4 i135_57 ?_
          refine ev_iloadn_2 i135_59 ?_
          refine ev_stat2 i135_60 g135_60 (by decide +kernel) (Nat.le_of_ble_eq_true rfl) (x_isUnder (by omega) (by omega) ?_)
          first
          | refine ew_ifeqB i135_63 (fun c63 => ?_) (fun c63 => ?_)
          | refine ew_ifeq i135_63 (by omega) (fun c63 => ?_) (fun c63 => ?_)
          · refine ew_bipush i135_71 (by decide) ?_
            refine ev_ireturn i135_73 r135 ?_
            rw [if_neg c27] at hK
            first
            | (rw [if_pos (by omega)] at hK
               exact hK)
            | (rw [if_neg (by omega), if_pos c63] at hK
               exact hK)
            | (rw [if_neg (by omega), if_neg c63] at hK
               exact hK)
            | exact absurd c63.2 (by decide)
          · refine ev_iload_4 i135_66 ?_
            refine ev_goto i135_68 ?_
            refine ev_ireturn i135_73 r135 ?_
            rw [if_neg c27] at hK
            first
            | (rw [if_pos (by omega)] at hK
               exact hK)
            | (rw [if_neg (by omega), if_pos c63] at hK
               exact hK)
            | (rw [if_neg (by omega), if_neg c63] at hK
               exact hK)
            | exact absurd c63.2 (by decide)
        · have hk2 := (hB.2.2.1 (s.1 q) (by omega) (by have := hB.1.2; omega)).2
          refine ev_aloadn_0 i135_40 ?_
          refine ev_getA i135_41 g135_41 rfl rfl (by decide) ?_
          refine ev_aloadn_3 i135_44 ?_
          refine ew_getI i135_45 g135_45 (she_I hq) ((hS.flail hq (by omega))) (fun b45 => ?_)
          refine ev_virt1 i135_48 g135_48 rfl (by decide +kernel) (Nat.le_of_ble_eq_true rfl) (x_kindOf hB (by omega) ?_)
          refine ev_goto i135_51 ?_
          refine ev_istore_4 i135_55 rfl ?_
          refine ev_iload_4 i135_57 ?_
          refine ev_iloadn_2 i135_59 ?_
          refine ev_stat2 i135_60 g135_60 (by decide +kernel) (Nat.le_of_ble_eq_true rfl) (x_isUnder (by omega) (by omega) ?_)
          first
          | refine ew_ifeqB i135_63 (fun c63 => ?_) (fun c63 => ?_)
          | refine ew_ifeq i135_63 (by omega) (fun c63 => ?_) (fun c63 => ?_)
          · refine ew_bipush i135_71 (by decide) ?_
            refine ev_ireturn i135_73 r135 ?_
            rw [if_neg c27] at hK
            first
            | (rw [if_pos (by omega)] at hK
               exact hK)
            | (rw [if_neg (by omega), if_pos c63] at hK
               exact hK)
            | (rw [if_neg (by omega), if_neg c63] at hK
               exact hK)
            | exact absurd c63.2 (by decide)
          · refine ev_iload_4 i135_66 ?_
            refine ev_goto i135_68 ?_
            refine ev_ireturn i135_73 r135 ?_
            rw [if_neg c27] at hK
            first
            | (rw [if_pos (by omega)] at hK
               exact hK)
            | (rw [if_neg (by omega), if_pos c63] at hK
               exact hK)
            | (rw [if_neg (by omega), if_neg c63] at hK
               exact hK)
            | exact absurd c63.2 (by decide)
      · refine ew_bipush i135_30 (by decide) ?_
        refine ev_ireturn i135_32 r135 ?_
        rw [if_pos c27] at hK
        exact hK
    · refine ew_iconst i135_14 ?_
      refine ev_ireturn i135_15 r135 ?_
      rw [if_neg (fun r => by first | exact c4 r.1 | exact c11 r.2)] at hK
      exact hK
theorem m_above {k : Int} (hk : 0 < k ∧ k < 8) (hK : K (some (.int (zI (k_above k)))) (I, L, ts_P0 sw, ts_S0)) : ts_Cal X (d + 1) 220 [.int (zI (k))] (I, L, ts_P0 sw, ts_S0) K := by
  unfold k_above at hK
  refine ev_enter (lv := [.int (zI (k))]) l220 rfl (Nat.le_of_ble_eq_true rfl) ?_
  refine ev_iloadn_0 i220_0 ?_
  refine ew_iconst i220_1 ?_
  refine ew_icmpne i220_2 (by omega) (fun c2 => ?_) (fun c2 => ?_)
  · refine ev_iloadn_0 i220_9 ?_
    refine ew_iconst i220_10 ?_
    refine ew_icmpne i220_11 (by omega) (fun c11 => ?_) (fun c11 => ?_)
    · refine ev_iloadn_0 i220_18 ?_
      refine ew_iconst i220_19 ?_
      refine ew_icmpne i220_20 (by omega) (fun c20 => ?_) (fun c20 => ?_)
      · refine ev_iloadn_0 i220_27 ?_
        refine ew_bipush i220_28 (by decide) ?_
        refine ew_icmpne i220_30 (by omega) (fun c30 => ?_) (fun c30 => ?_)
        · refine ew_iconst i220_37 ?_
          refine ev_ireturn i220_38 r220 ?_
          first | exact hK | exact zK hK (by omega)
        · refine ew_iconst i220_33 ?_
          refine ev_goto i220_34 ?_
          refine ev_ireturn i220_38 r220 ?_
          first | exact hK | exact zK hK (by omega)
      · refine ew_iconst i220_23 ?_
        refine ev_goto i220_24 ?_
        refine ev_ireturn i220_38 r220 ?_
        first | exact hK | exact zK hK (by omega)
    · refine ew_iconst i220_14 ?_
      refine ev_goto i220_15 ?_
      refine ev_ireturn i220_38 r220 ?_
      first | exact hK | exact zK hK (by omega)
  · refine ew_iconst i220_5 ?_
    refine ev_goto i220_6 ?_
    refine ev_ireturn i220_38 r220 ?_
    first | exact hK | exact zK hK (by omega)
theorem m_kindOf (hB : RMb I b) {n : Int} (hn : 0 ≤ n ∧ n < 50) (hK : K (some (.int (zI (b.2.2.1 n)))) (I, L, ts_P0 sw, ts_S0)) : ts_Cal X (d + 1) 218 [.ref 72, .int (zI (n))] (I, L, ts_P0 sw, ts_S0) K := by
  refine ev_enter (lv := [.ref 72, .int (zI (n))]) l218 rfl (Nat.le_of_ble_eq_true rfl) ?_
  refine ev_aloadn_0 i218_0 ?_
  refine ev_getA i218_1 g218_1 rfl rfl (by decide) ?_
  refine ev_iloadn_1 i218_4 ?_
  refine ew_iaload i218_5 rfl (by omega) (by omega) (by omega) (by first | exact hB.2.2.1 _ (by omega) (by omega) | exact hM.men | exact hM.told | exact hM.road | exact hM.stand _ (by omega) (by omega) | exact hM.reach _ (by omega) (by omega) | exact hM.arm _ (by omega) (by omega) | exact hM.late _ (by omega) (by omega) | exact hM.len _ (by omega) (by omega) | exact hM.corn _ (by omega) (by omega) | exact hM.say (by omega) (by omega) _ (by omega) (by omega) | exact hM.tone _ (by omega) (by omega)) (fun b5 => ?_)
  refine ev_ireturn i218_6 r218 ?_
  first | exact hK | exact zK hK (by omega)
theorem m_taken (hS : RMs I L s) (hB : RMb I b) (hF : ∀ q, 0 ≤ q → q < 6 → s.1 q < 50 → s.1 q < b.1) {x k : Int} (hx : -2147483648 ≤ x ∧ x ≤ 2147483647) (hk : -2147483648 ≤ k ∧ k ≤ 2147483647) (hK : K (some (.int (zI (g_takenA s b x k)))) (I, L, ts_P0 sw, ts_S0)) : ts_Cal X (d + 3) 236 [.ref 72, .int (zI (x)), .int (zI (k))] (I, L, ts_P0 sw, ts_S0) K := by
  unfold g_takenA at hK
  refine ev_enter (lv := [.ref 72, .int (zI (x)), .int (zI (k)), .null]) l236 rfl (Nat.le_of_ble_eq_true rfl) ?_
  refine ev_iloadn_1 i236_0 ?_
  refine ev_stat1 i236_1 g236_1 (by decide +kernel) (Nat.le_of_ble_eq_true rfl) (m_isShelf hx ?_)
  first
  | refine ew_ifeqB i236_4 (fun c4 => ?_) (fun c4 => ?_)
  | refine ew_ifeq i236_4 (by omega) (fun c4 => ?_) (fun c4 => ?_)
  · refine ew_iconst i236_19 ?_
    refine ev_ireturn i236_20 r236 ?_
    rw [if_neg (by omega)] at hK
    exact hK
  · refine ev_iloadn_2 i236_7 ?_
    refine ew_i2l i236_8 (by omega) ?_
    refine ew_lconst (z := 0) i236_9 (by decide) ?_
    refine ew_ldc2_w (z := (7)) i236_10 g236_10 (by decide) ?_
    refine ev_stat3 i236_13 g236_13 (by decide +kernel) (Nat.le_of_ble_eq_true rfl) (m_within (by omega) (by omega) (by omega) ?_)
    first
    | refine ew_ifneB i236_16 (fun c16 => ?_) (fun c16 => ?_)
    | refine ew_ifne i236_16 (by omega) (fun c16 => ?_) (fun c16 => ?_)
    · rw [if_pos (by omega)] at hK
      refine ev_aloadn_0 i236_21 ?_
      refine ev_getA i236_22 g236_22 rfl rfl (by decide) ?_
      refine ev_iloadn_1 i236_25 ?_
      refine ew_iaload i236_26 rfl (by omega) (by omega) (by omega) (by first | exact hS.1 _ (by omega) (by omega) | exact hM.men | exact hM.told | exact hM.road | exact hM.stand _ (by omega) (by omega) | exact hM.reach _ (by omega) (by omega) | exact hM.arm _ (by omega) (by omega) | exact hM.late _ (by omega) (by omega) | exact hM.len _ (by omega) (by omega) | exact hM.corn _ (by omega) (by omega) | exact hM.say (by omega) (by omega) _ (by omega) (by omega) | exact hM.tone _ (by omega) (by omega)) (fun b26 => ?_)
      refine ew_ifge i236_27 (by omega) (fun c27 => ?_) (fun c27 => ?_)
      · refine ev_aloadn_0 i236_33 ?_
        refine ev_getA i236_34 g236_34 rfl rfl (by decide) ?_
        refine ev_iloadn_1 i236_37 ?_
        refine ew_iaload i236_38 rfl (by omega) (by omega) (by omega) (by first | exact hS.1 _ (by omega) (by omega) | exact hM.men | exact hM.told | exact hM.road | exact hM.stand _ (by omega) (by omega) | exact hM.reach _ (by omega) (by omega) | exact hM.arm _ (by omega) (by omega) | exact hM.late _ (by omega) (by omega) | exact hM.len _ (by omega) (by omega) | exact hM.corn _ (by omega) (by omega) | exact hM.say (by omega) (by omega) _ (by omega) (by omega) | exact hM.tone _ (by omega) (by omega)) (fun b38 => ?_)
        refine ew_bipush i236_39 (by decide) ?_
        refine ew_icmplt i236_41 (by omega) (fun c41 => ?_) (fun c41 => ?_)
        · rw [if_neg (by omega), if_neg (by omega)] at hK
          have hk2 := (hB.2.2.1 (s.1 x) (by omega) (by omega)).2
          refine ev_aloadn_0 i236_47 ?_
          refine ev_aloadn_0 i236_48 ?_
          refine ev_getA i236_49 g236_49 rfl rfl (by decide) ?_
          refine ev_iloadn_1 i236_52 ?_
          refine ew_iaload i236_53 rfl (by omega) (by omega) (by omega) (by first | exact hS.1 _ (by omega) (by omega) | exact hM.men | exact hM.told | exact hM.road | exact hM.stand _ (by omega) (by omega) | exact hM.reach _ (by omega) (by omega) | exact hM.arm _ (by omega) (by omega) | exact hM.late _ (by omega) (by omega) | exact hM.len _ (by omega) (by omega) | exact hM.corn _ (by omega) (by omega) | exact hM.say (by omega) (by omega) _ (by omega) (by omega) | exact hM.tone _ (by omega) (by omega)) (fun b53 => ?_)
          refine ev_virt1 i236_54 g236_54 rfl (by decide +kernel) (Nat.le_of_ble_eq_true rfl) (m_kindOf hB (by omega) ?_)
          refine ev_istoren_3 i236_57 rfl ?_
          have loop : ∀ j : Int, ∀ a : Int, 0 ≤ j → 0 ≤ a → a < 8 → j + k_dep a ≤ 4 → (k_und (b.2.2.1 (s.1 x)) k ↔ k_und a k) → ts_Ev X (ts_Cal X (d + 2)) 236 ts_S0 K 58 [.ref 72, .int (zI (x)), .int (zI (k)), .int (zI (a))] [] (I, L, ts_P0 sw, ts_S0) := by
            refine ts_ind 8 (fun j ih a h1 h2 h3 h4 h5 => ?_)
            have q := k_dep_s (k := a) (by omega) (by omega)
            have qa : 0 < a → 0 ≤ k_above a := fun r => by unfold k_above; omega
            refine ev_iloadn_3 i236_58 ?_
            refine ev_iloadn_2 i236_59 ?_
            refine ew_icmpeq i236_60 (by omega) (fun c60 => ?_) (fun c60 => ?_)
            · refine ev_iloadn_3 i236_75 ?_
              refine ev_iloadn_2 i236_76 ?_
              refine ew_icmpne i236_77 (by omega) (fun c77 => ?_) (fun c77 => ?_)
              · refine ew_bipush i236_93 (by decide) ?_
                refine ev_ireturn i236_95 r236 ?_
                first
                | (rw [if_pos (h5.mpr ⟨Or.inl c77, h2⟩)] at hK
                   exact hK)
                | (have e : ¬ k_und (b.2.2.1 (s.1 x)) k := fun r => by
                     have r2 := h5.mp r
                     obtain rfl : a = 0 := by omega
                     unfold k_und k_above at r2
                     omega
                   rw [if_neg e] at hK
                   exact hK)
              · refine ev_aloadn_0 i236_80 ?_
                refine ev_aloadn_0 i236_81 ?_
                refine ev_getA i236_82 g236_82 rfl rfl (by decide) ?_
                refine ev_iloadn_1 i236_85 ?_
                refine ew_iaload i236_86 rfl (by omega) (by omega) (by omega) (by first | exact hS.1 _ (by omega) (by omega) | exact hM.men | exact hM.told | exact hM.road | exact hM.stand _ (by omega) (by omega) | exact hM.reach _ (by omega) (by omega) | exact hM.arm _ (by omega) (by omega) | exact hM.late _ (by omega) (by omega) | exact hM.len _ (by omega) (by omega) | exact hM.corn _ (by omega) (by omega) | exact hM.say (by omega) (by omega) _ (by omega) (by omega) | exact hM.tone _ (by omega) (by omega)) (fun b86 => ?_)
                refine ev_virt1 i236_87 g236_87 rfl (by decide +kernel) (Nat.le_of_ble_eq_true rfl) (m_kindOf hB (by omega) ?_)
                refine ev_goto i236_90 ?_
                refine ev_ireturn i236_95 r236 ?_
                first
                | (rw [if_pos (h5.mpr ⟨Or.inl c77, h2⟩)] at hK
                   exact hK)
                | (have e : ¬ k_und (b.2.2.1 (s.1 x)) k := fun r => by
                     have r2 := h5.mp r
                     obtain rfl : a = 0 := by omega
                     unfold k_und k_above at r2
                     omega
                   rw [if_neg e] at hK
                   exact hK)
            · refine ev_iloadn_3 i236_63 ?_
              refine ew_ifle i236_64 (by omega) (fun c64 => ?_) (fun c64 => ?_)
              · refine ev_iloadn_3 i236_75 ?_
                refine ev_iloadn_2 i236_76 ?_
                refine ew_icmpne i236_77 (by omega) (fun c77 => ?_) (fun c77 => ?_)
                · refine ew_bipush i236_93 (by decide) ?_
                  refine ev_ireturn i236_95 r236 ?_
                  first
                  | (rw [if_pos (h5.mpr ⟨Or.inl c77, h2⟩)] at hK
                     exact hK)
                  | (have e : ¬ k_und (b.2.2.1 (s.1 x)) k := fun r => by
                       have r2 := h5.mp r
                       obtain rfl : a = 0 := by omega
                       unfold k_und k_above at r2
                       omega
                     rw [if_neg e] at hK
                     exact hK)
                · refine ev_aloadn_0 i236_80 ?_
                  refine ev_aloadn_0 i236_81 ?_
                  refine ev_getA i236_82 g236_82 rfl rfl (by decide) ?_
                  refine ev_iloadn_1 i236_85 ?_
                  refine ew_iaload i236_86 rfl (by omega) (by omega) (by omega) (by first | exact hS.1 _ (by omega) (by omega) | exact hM.men | exact hM.told | exact hM.road | exact hM.stand _ (by omega) (by omega) | exact hM.reach _ (by omega) (by omega) | exact hM.arm _ (by omega) (by omega) | exact hM.late _ (by omega) (by omega) | exact hM.len _ (by omega) (by omega) | exact hM.corn _ (by omega) (by omega) | exact hM.say (by omega) (by omega) _ (by omega) (by omega) | exact hM.tone _ (by omega) (by omega)) (fun b86 => ?_)
                  refine ev_virt1 i236_87 g236_87 rfl (by decide +kernel) (Nat.le_of_ble_eq_true rfl) (m_kindOf hB (by omega) ?_)
                  refine ev_goto i236_90 ?_
                  refine ev_ireturn i236_95 r236 ?_
                  first
                  | (rw [if_pos (h5.mpr ⟨Or.inl c77, h2⟩)] at hK
                     exact hK)
                  | (have e : ¬ k_und (b.2.2.1 (s.1 x)) k := fun r => by
                       have r2 := h5.mp r
                       obtain rfl : a = 0 := by omega
                       unfold k_und k_above at r2
                       omega
                     rw [if_neg e] at hK
                     exact hK)
              · refine ev_iloadn_3 i236_67 ?_
                refine ev_stat1 i236_68 g236_68 (by decide +kernel) (Nat.le_of_ble_eq_true rfl) (m_above (by omega) ?_)
                refine ev_istoren_3 i236_71 rfl ?_
                refine ev_goto i236_72 ?_
                exact ih (by omega) _ (by omega) (by omega) (by omega) (by omega) (h5.trans (k_und_s (by omega) (by omega) (by omega) c60))
          have q := k_dep_s (k := b.2.2.1 (s.1 x)) (by omega) (by omega)
          exact loop 0 _ (by decide) (by omega) (by omega) (by omega) Iff.rfl
        · refine ew_bipush i236_44 (by decide) ?_
          refine ev_ireturn i236_46 r236 ?_
          rw [if_neg (by omega), if_pos (by omega)] at hK
          exact hK
      · refine ew_bipush i236_30 (by decide) ?_
        refine ev_ireturn i236_32 r236 ?_
        rw [if_pos (by omega)] at hK
        exact hK
    · refine ew_iconst i236_19 ?_
      refine ev_ireturn i236_20 r236 ?_
      rw [if_neg (by omega)] at hK
      exact hK
end SM
