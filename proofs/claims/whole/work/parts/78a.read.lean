theorem i42_0 : ts_ins 42 0 = some (.aload_n 0, 1, 0) := by decide +kernel
theorem i42_1 : ts_ins 42 1 = some (.getfield 19, 4, 0) := by decide +kernel
theorem g42_1 : ts_fm 42 19 = some (5, 2, 0) := by decide +kernel
theorem i42_4 : ts_ins 42 4 = some (.ifCond .lt 26, 7, 30) := by decide +kernel
theorem i42_7 : ts_ins 42 7 = some (.aload_n 0, 8, 0) := by decide +kernel
theorem i42_8 : ts_ins 42 8 = some (.getfield 19, 11, 0) := by decide +kernel
theorem g42_8 : ts_fm 42 19 = some (5, 2, 0) := by decide +kernel
theorem i42_11 : ts_ins 42 11 = some (.aload_n 0, 12, 0) := by decide +kernel
theorem i42_12 : ts_ins 42 12 = some (.getfield 15, 15, 0) := by decide +kernel
theorem g42_12 : ts_fm 42 15 = some (5, 1, 0) := by decide +kernel
theorem i42_15 : ts_ins 42 15 = some (.if_icmp .ge 15, 18, 30) := by decide +kernel
theorem i42_18 : ts_ins 42 18 = some (.aload_n 0, 19, 0) := by decide +kernel
theorem i42_19 : ts_ins 42 19 = some (.getfield 9, 22, 0) := by decide +kernel
theorem g42_19 : ts_fm 42 9 = some (5, 0, 2) := by decide +kernel
theorem i42_22 : ts_ins 42 22 = some (.aload_n 0, 23, 0) := by decide +kernel
theorem i42_23 : ts_ins 42 23 = some (.getfield 19, 26, 0) := by decide +kernel
theorem g42_23 : ts_fm 42 19 = some (5, 2, 0) := by decide +kernel
theorem i42_26 : ts_ins 42 26 = some (.iaload, 27, 0) := by decide +kernel
theorem i42_27 : ts_ins 42 27 = some (.goto 4, 30, 31) := by decide +kernel
theorem i42_30 : ts_ins 42 30 = some (.iconst (-1), 31, 0) := by decide +kernel
theorem i42_31 : ts_ins 42 31 = some (.ireturn, 32, 0) := by decide +kernel
theorem r42 : ts_rt 42 = ((some .int), 0, 0) := by decide +kernel
theorem l42 : ts_ml 42 = 1 := by decide +kernel
theorem i43_0 : ts_ins 43 0 = some (.aload_n 0, 1, 0) := by decide +kernel
theorem i43_1 : ts_ins 43 1 = some (.invokevirtual 36, 4, 0) := by decide +kernel
theorem g43_1 : ts_cal (ts_mc 43) 36 = some (0, 42, 0) := by decide +kernel
theorem i43_4 : ts_ins 43 4 = some (.iload_n 1, 5, 0) := by decide +kernel
theorem i43_5 : ts_ins 43 5 = some (.if_icmp .eq 5, 8, 10) := by decide +kernel
theorem i43_8 : ts_ins 43 8 = some (.iconst 0, 9, 0) := by decide +kernel
theorem i43_9 : ts_ins 43 9 = some (.ireturn, 10, 0) := by decide +kernel
theorem i43_10 : ts_ins 43 10 = some (.aload_n 0, 11, 0) := by decide +kernel
theorem i43_11 : ts_ins 43 11 = some (.dup, 12, 0) := by decide +kernel
theorem i43_12 : ts_ins 43 12 = some (.getfield 19, 15, 0) := by decide +kernel
theorem g43_12 : ts_fm 43 19 = some (5, 2, 0) := by decide +kernel
theorem i43_15 : ts_ins 43 15 = some (.iconst 1, 16, 0) := by decide +kernel
theorem i43_16 : ts_ins 43 16 = some (.iadd, 17, 0) := by decide +kernel
theorem i43_17 : ts_ins 43 17 = some (.putfield 19, 20, 0) := by decide +kernel
theorem g43_17 : ts_fmm 43 19 = some (5, 2, 0, false) := by decide +kernel
theorem i43_20 : ts_ins 43 20 = some (.iconst 1, 21, 0) := by decide +kernel
theorem i43_21 : ts_ins 43 21 = some (.ireturn, 22, 0) := by decide +kernel
theorem r43 : ts_rt 43 = ((some .boolean), 0, 0) := by decide +kernel
theorem l43 : ts_ml 43 = 2 := by decide +kernel
theorem i35_0 : ts_ins 35 0 = some (.aload_n 0, 1, 0) := by decide +kernel
theorem i35_1 : ts_ins 35 1 = some (.getfield 22, 4, 0) := by decide +kernel
theorem g35_1 : ts_fm 35 22 = some (4, 4, 0) := by decide +kernel
theorem i35_4 : ts_ins 35 4 = some (.sipush 128, 7, 0) := by decide +kernel
theorem i35_7 : ts_ins 35 7 = some (.if_icmp .lt 6, 10, 13) := by decide +kernel
theorem i35_10 : ts_ins 35 10 = some (.bipush 127, 12, 0) := by decide +kernel
theorem i35_12 : ts_ins 35 12 = some (.ireturn, 13, 0) := by decide +kernel
theorem i35_13 : ts_ins 35 13 = some (.aload_n 0, 14, 0) := by decide +kernel
theorem i35_14 : ts_ins 35 14 = some (.getfield 9, 17, 0) := by decide +kernel
theorem g35_14 : ts_fm 35 9 = some (4, 0, 2) := by decide +kernel
theorem i35_17 : ts_ins 35 17 = some (.aload_n 0, 18, 0) := by decide +kernel
theorem i35_18 : ts_ins 35 18 = some (.getfield 22, 21, 0) := by decide +kernel
theorem g35_18 : ts_fm 35 22 = some (4, 4, 0) := by decide +kernel
theorem i35_21 : ts_ins 35 21 = some (.iload_n 1, 22, 0) := by decide +kernel
theorem i35_22 : ts_ins 35 22 = some (.iastore, 23, 0) := by decide +kernel
theorem i35_23 : ts_ins 35 23 = some (.aload_n 0, 24, 0) := by decide +kernel
theorem i35_24 : ts_ins 35 24 = some (.getfield 13, 27, 0) := by decide +kernel
theorem g35_24 : ts_fm 35 13 = some (4, 1, 2) := by decide +kernel
theorem i35_27 : ts_ins 35 27 = some (.aload_n 0, 28, 0) := by decide +kernel
theorem i35_28 : ts_ins 35 28 = some (.getfield 22, 31, 0) := by decide +kernel
theorem g35_28 : ts_fm 35 22 = some (4, 4, 0) := by decide +kernel
theorem i35_31 : ts_ins 35 31 = some (.iload_n 2, 32, 0) := by decide +kernel
theorem i35_32 : ts_ins 35 32 = some (.iastore, 33, 0) := by decide +kernel
theorem i35_33 : ts_ins 35 33 = some (.aload_n 0, 34, 0) := by decide +kernel
theorem i35_34 : ts_ins 35 34 = some (.dup, 35, 0) := by decide +kernel
theorem i35_35 : ts_ins 35 35 = some (.getfield 22, 38, 0) := by decide +kernel
theorem g35_35 : ts_fm 35 22 = some (4, 4, 0) := by decide +kernel
theorem i35_38 : ts_ins 35 38 = some (.iconst 1, 39, 0) := by decide +kernel
theorem i35_39 : ts_ins 35 39 = some (.iadd, 40, 0) := by decide +kernel
theorem i35_40 : ts_ins 35 40 = some (.putfield 22, 43, 0) := by decide +kernel
theorem g35_40 : ts_fmm 35 22 = some (4, 4, 0, false) := by decide +kernel
theorem i35_43 : ts_ins 35 43 = some (.aload_n 0, 44, 0) := by decide +kernel
theorem i35_44 : ts_ins 35 44 = some (.getfield 22, 47, 0) := by decide +kernel
theorem g35_44 : ts_fm 35 22 = some (4, 4, 0) := by decide +kernel
theorem i35_47 : ts_ins 35 47 = some (.iconst 1, 48, 0) := by decide +kernel
theorem i35_48 : ts_ins 35 48 = some (.isub, 49, 0) := by decide +kernel
theorem i35_49 : ts_ins 35 49 = some (.ireturn, 50, 0) := by decide +kernel
theorem r35 : ts_rt 35 = ((some .int), 0, 0) := by decide +kernel
theorem l35 : ts_ml 35 = 3 := by decide +kernel
theorem i46_0 : ts_ins 46 0 = some (.iload_n 0, 1, 0) := by decide +kernel
theorem i46_1 : ts_ins 46 1 = some (.lookupswitch 101 #[(37, 99), (38, 93), (42, 99), (43, 97), (45, 97), (47, 99), (60, 95), (61, 95), (62, 95), (124, 91)], 92, 0) := by decide +kernel
theorem i46_92 : ts_ins 46 92 = some (.iconst 0, 93, 0) := by decide +kernel
theorem i46_93 : ts_ins 46 93 = some (.ireturn, 94, 0) := by decide +kernel
theorem i46_94 : ts_ins 46 94 = some (.iconst 1, 95, 0) := by decide +kernel
theorem i46_95 : ts_ins 46 95 = some (.ireturn, 96, 0) := by decide +kernel
theorem i46_96 : ts_ins 46 96 = some (.iconst 2, 97, 0) := by decide +kernel
theorem i46_97 : ts_ins 46 97 = some (.ireturn, 98, 0) := by decide +kernel
theorem i46_98 : ts_ins 46 98 = some (.iconst 3, 99, 0) := by decide +kernel
theorem i46_99 : ts_ins 46 99 = some (.ireturn, 100, 0) := by decide +kernel
theorem i46_100 : ts_ins 46 100 = some (.iconst 4, 101, 0) := by decide +kernel
theorem i46_101 : ts_ins 46 101 = some (.ireturn, 102, 0) := by decide +kernel
theorem i46_102 : ts_ins 46 102 = some (.iconst 5, 103, 0) := by decide +kernel
theorem i46_103 : ts_ins 46 103 = some (.ireturn, 104, 0) := by decide +kernel
theorem r46 : ts_rt 46 = ((some .int), 0, 0) := by decide +kernel
theorem l46 : ts_ml 46 = 1 := by decide +kernel
theorem i49_0 : ts_ins 49 0 = some (.iload_n 0, 1, 0) := by decide +kernel
theorem i49_1 : ts_ins 49 1 = some (.bipush 48, 3, 0) := by decide +kernel
theorem i49_3 : ts_ins 49 3 = some (.if_icmp .lt 13, 6, 16) := by decide +kernel
theorem i49_6 : ts_ins 49 6 = some (.iload_n 0, 7, 0) := by decide +kernel
theorem i49_7 : ts_ins 49 7 = some (.bipush 57, 9, 0) := by decide +kernel
theorem i49_9 : ts_ins 49 9 = some (.if_icmp .gt 7, 12, 16) := by decide +kernel
theorem i49_12 : ts_ins 49 12 = some (.iconst 1, 13, 0) := by decide +kernel
theorem i49_13 : ts_ins 49 13 = some (.goto 4, 16, 17) := by decide +kernel
theorem i49_16 : ts_ins 49 16 = some (.iconst 0, 17, 0) := by decide +kernel
theorem i49_17 : ts_ins 49 17 = some (.ireturn, 18, 0) := by decide +kernel
theorem r49 : ts_rt 49 = ((some .boolean), 0, 0) := by decide +kernel
theorem l49 : ts_ml 49 = 1 := by decide +kernel
theorem i48_0 : ts_ins 48 0 = some (.iconst 0, 1, 0) := by decide +kernel
theorem i48_1 : ts_ins 48 1 = some (.istore_n 1, 2, 0) := by decide +kernel
theorem i48_2 : ts_ins 48 2 = some (.iconst 0, 3, 0) := by decide +kernel
theorem i48_3 : ts_ins 48 3 = some (.istore_n 2, 4, 0) := by decide +kernel
theorem i48_4 : ts_ins 48 4 = some (.iload_n 2, 5, 0) := by decide +kernel
theorem i48_5 : ts_ins 48 5 = some (.iconst 4, 6, 0) := by decide +kernel
theorem i48_6 : ts_ins 48 6 = some (.if_icmp .ge 42, 9, 48) := by decide +kernel
theorem i48_9 : ts_ins 48 9 = some (.aload_n 0, 10, 0) := by decide +kernel
theorem i48_10 : ts_ins 48 10 = some (.invokevirtual 36, 13, 0) := by decide +kernel
theorem g48_10 : ts_cal (ts_mc 48) 36 = some (0, 42, 0) := by decide +kernel
theorem i48_13 : ts_ins 48 13 = some (.invokestatic 62, 16, 0) := by decide +kernel
theorem g48_13 : ts_cal (ts_mc 48) 62 = some (1, 49, 1) := by decide +kernel
theorem i48_16 : ts_ins 48 16 = some (.ifCond .eq 32, 19, 48) := by decide +kernel
theorem i48_19 : ts_ins 48 19 = some (.iload_n 1, 20, 0) := by decide +kernel
theorem i48_20 : ts_ins 48 20 = some (.bipush 10, 22, 0) := by decide +kernel
theorem i48_22 : ts_ins 48 22 = some (.imul, 23, 0) := by decide +kernel
theorem i48_23 : ts_ins 48 23 = some (.aload_n 0, 24, 0) := by decide +kernel
theorem i48_24 : ts_ins 48 24 = some (.invokevirtual 36, 27, 0) := by decide +kernel
theorem g48_24 : ts_cal (ts_mc 48) 36 = some (0, 42, 0) := by decide +kernel
theorem i48_27 : ts_ins 48 27 = some (.iadd, 28, 0) := by decide +kernel
theorem i48_28 : ts_ins 48 28 = some (.bipush 48, 30, 0) := by decide +kernel
theorem i48_30 : ts_ins 48 30 = some (.isub, 31, 0) := by decide +kernel
theorem i48_31 : ts_ins 48 31 = some (.istore_n 1, 32, 0) := by decide +kernel
theorem i48_32 : ts_ins 48 32 = some (.aload_n 0, 33, 0) := by decide +kernel
theorem i48_33 : ts_ins 48 33 = some (.dup, 34, 0) := by decide +kernel
theorem i48_34 : ts_ins 48 34 = some (.getfield 19, 37, 0) := by decide +kernel
theorem g48_34 : ts_fm 48 19 = some (5, 2, 0) := by decide +kernel
theorem i48_37 : ts_ins 48 37 = some (.iconst 1, 38, 0) := by decide +kernel
theorem i48_38 : ts_ins 48 38 = some (.iadd, 39, 0) := by decide +kernel
theorem i48_39 : ts_ins 48 39 = some (.putfield 19, 42, 0) := by decide +kernel
theorem g48_39 : ts_fmm 48 19 = some (5, 2, 0, false) := by decide +kernel
theorem i48_42 : ts_ins 48 42 = some (.iinc 2 1, 45, 0) := by decide +kernel
theorem i48_45 : ts_ins 48 45 = some (.goto (-41), 48, 4) := by decide +kernel
theorem i48_48 : ts_ins 48 48 = some (.aload_n 0, 49, 0) := by decide +kernel
theorem i48_49 : ts_ins 48 49 = some (.getfield 25, 52, 0) := by decide +kernel
theorem g48_49 : ts_fm 48 25 = some (5, 3, 2) := by decide +kernel
theorem i48_52 : ts_ins 48 52 = some (.iconst 0, 53, 0) := by decide +kernel
theorem i48_53 : ts_ins 48 53 = some (.iload_n 1, 54, 0) := by decide +kernel
theorem i48_54 : ts_ins 48 54 = some (.invokevirtual 48, 57, 0) := by decide +kernel
theorem g48_54 : ts_cal (ts_mc 48) 48 = some (0, 35, 2) := by decide +kernel
theorem i48_57 : ts_ins 48 57 = some (.pop, 58, 0) := by decide +kernel
theorem i48_58 : ts_ins 48 58 = some (.return_, 59, 0) := by decide +kernel
theorem r48 : ts_rt 48 = (none, 0, 0) := by decide +kernel
theorem l48 : ts_ml 48 = 3 := by decide +kernel
theorem i243_0 : ts_ins 243 0 = some (.getstatic 38, 3, 0) := by decide +kernel
theorem g243_0 : ts_sg (ts_mc 243) 38 = some (.int 1) := by decide +kernel
theorem i243_3 : ts_ins 243 3 = some (.ifCond .eq 14, 6, 17) := by decide +kernel
theorem i243_6 : ts_ins 243 6 = some (.aload_n 0, 7, 0) := by decide +kernel
theorem i243_7 : ts_ins 243 7 = some (.getfield 15, 10, 0) := by decide +kernel
theorem g243_7 : ts_sf (ts_mc 243) 15 = some (.int 0) := by decide +kernel
theorem i243_10 : ts_ins 243 10 = some (.ifCond .ne 7, 13, 17) := by decide +kernel
theorem i243_13 : ts_ins 243 13 = some (.iconst 1, 14, 0) := by decide +kernel
theorem i243_14 : ts_ins 243 14 = some (.goto 4, 17, 18) := by decide +kernel
theorem i243_17 : ts_ins 243 17 = some (.iconst 0, 18, 0) := by decide +kernel
theorem i243_18 : ts_ins 243 18 = some (.ireturn, 19, 0) := by decide +kernel
theorem r243 : ts_rt 243 = ((some .boolean), 0, 0) := by decide +kernel
theorem l243 : ts_ml 243 = 1 := by decide +kernel
theorem i240_0 : ts_ins 240 0 = some (.getstatic 38, 3, 0) := by decide +kernel
theorem g240_0 : ts_sg (ts_mc 240) 38 = some (.int 1) := by decide +kernel
theorem i240_3 : ts_ins 240 3 = some (.ifCond .eq 10, 6, 13) := by decide +kernel
theorem i240_6 : ts_ins 240 6 = some (.aload_n 0, 7, 0) := by decide +kernel
theorem i240_7 : ts_ins 240 7 = some (.getfield 15, 10, 0) := by decide +kernel
theorem g240_7 : ts_sf (ts_mc 240) 15 = some (.int 0) := by decide +kernel
theorem i240_10 : ts_ins 240 10 = some (.goto 4, 13, 14) := by decide +kernel
theorem i240_13 : ts_ins 240 13 = some (.iconst 1, 14, 0) := by decide +kernel
theorem i240_14 : ts_ins 240 14 = some (.ireturn, 15, 0) := by decide +kernel
theorem r240 : ts_rt 240 = ((some .byte), 0, 0) := by decide +kernel
theorem l240 : ts_ml 240 = 1 := by decide +kernel
theorem i244_0 : ts_ins 244 0 = some (.aload_n 0, 1, 0) := by decide +kernel
theorem i244_1 : ts_ins 244 1 = some (.getfield 9, 4, 0) := by decide +kernel
theorem g244_1 : ts_sf (ts_mc 244) 9 = some (.ref 1005) := by decide +kernel
theorem i244_4 : ts_ins 244 4 = some (.arraylength, 5, 0) := by decide +kernel
theorem i244_5 : ts_ins 244 5 = some (.aload_n 0, 6, 0) := by decide +kernel
theorem i244_6 : ts_ins 244 6 = some (.invokevirtual 335, 9, 0) := by decide +kernel
theorem g244_6 : ts_cal (ts_mc 244) 335 = some (0, 240, 0) := by decide +kernel
theorem i244_9 : ts_ins 244 9 = some (.ishr, 10, 0) := by decide +kernel
theorem i244_10 : ts_ins 244 10 = some (.ireturn, 11, 0) := by decide +kernel
theorem r244 : ts_rt 244 = ((some .int), 0, 0) := by decide +kernel
theorem l244 : ts_ml 244 = 1 := by decide +kernel
theorem i245_0 : ts_ins 245 0 = some (.iload_n 0, 1, 0) := by decide +kernel
theorem i245_1 : ts_ins 245 1 = some (.ifCond .lt 14, 4, 15) := by decide +kernel
theorem i245_4 : ts_ins 245 4 = some (.iload_n 0, 5, 0) := by decide +kernel
theorem i245_5 : ts_ins 245 5 = some (.sipush 255, 8, 0) := by decide +kernel
theorem i245_8 : ts_ins 245 8 = some (.if_icmp .gt 7, 11, 15) := by decide +kernel
theorem i245_11 : ts_ins 245 11 = some (.iconst 1, 12, 0) := by decide +kernel
theorem i245_12 : ts_ins 245 12 = some (.goto 4, 15, 16) := by decide +kernel
theorem i245_15 : ts_ins 245 15 = some (.iconst 0, 16, 0) := by decide +kernel
theorem i245_16 : ts_ins 245 16 = some (.ireturn, 17, 0) := by decide +kernel
theorem r245 : ts_rt 245 = ((some .boolean), 0, 0) := by decide +kernel
theorem l245 : ts_ml 245 = 1 := by decide +kernel
theorem i247_0 : ts_ins 247 0 = some (.iload_n 1, 1, 0) := by decide +kernel
theorem i247_1 : ts_ins 247 1 = some (.i2b, 2, 0) := by decide +kernel
theorem i247_2 : ts_ins 247 2 = some (.istore 4, 4, 0) := by decide +kernel
theorem i247_4 : ts_ins 247 4 = some (.iload_n 2, 5, 0) := by decide +kernel
theorem i247_5 : ts_ins 247 5 = some (.istore 5, 7, 0) := by decide +kernel
theorem i247_7 : ts_ins 247 7 = some (.iload 5, 9, 0) := by decide +kernel
theorem i247_9 : ts_ins 247 9 = some (.iload_n 3, 10, 0) := by decide +kernel
theorem i247_10 : ts_ins 247 10 = some (.if_icmp .ge 21, 13, 31) := by decide +kernel
theorem i247_13 : ts_ins 247 13 = some (.aload_n 0, 14, 0) := by decide +kernel
theorem i247_14 : ts_ins 247 14 = some (.iload 5, 16, 0) := by decide +kernel
theorem i247_16 : ts_ins 247 16 = some (.baload, 17, 0) := by decide +kernel
theorem i247_17 : ts_ins 247 17 = some (.iload 4, 19, 0) := by decide +kernel
theorem i247_19 : ts_ins 247 19 = some (.if_icmp .ne 6, 22, 25) := by decide +kernel
theorem i247_22 : ts_ins 247 22 = some (.iload 5, 24, 0) := by decide +kernel
theorem i247_24 : ts_ins 247 24 = some (.ireturn, 25, 0) := by decide +kernel
theorem i247_25 : ts_ins 247 25 = some (.iinc 5 1, 28, 0) := by decide +kernel
theorem i247_28 : ts_ins 247 28 = some (.goto (-21), 31, 7) := by decide +kernel
theorem i247_31 : ts_ins 247 31 = some (.iconst (-1), 32, 0) := by decide +kernel
theorem i247_32 : ts_ins 247 32 = some (.ireturn, 33, 0) := by decide +kernel
theorem r247 : ts_rt 247 = ((some .int), 0, 0) := by decide +kernel
theorem l247 : ts_ml 247 = 6 := by decide +kernel
theorem i246_0 : ts_ins 246 0 = some (.iload_n 1, 1, 0) := by decide +kernel
theorem i246_1 : ts_ins 246 1 = some (.invokestatic 88, 4, 0) := by decide +kernel
theorem g246_1 : ts_cal (ts_mc 246) 88 = some (1, 245, 1) := by decide +kernel
theorem i246_4 : ts_ins 246 4 = some (.ifCond .ne 5, 7, 9) := by decide +kernel
theorem i246_7 : ts_ins 246 7 = some (.iconst (-1), 8, 0) := by decide +kernel
theorem i246_8 : ts_ins 246 8 = some (.ireturn, 9, 0) := by decide +kernel
theorem i246_9 : ts_ins 246 9 = some (.iload_n 2, 10, 0) := by decide +kernel
theorem i246_10 : ts_ins 246 10 = some (.iconst 0, 11, 0) := by decide +kernel
theorem i246_11 : ts_ins 246 11 = some (.invokestatic 92, 14, 0) := by decide +kernel
theorem g246_11 : ts_cal (ts_mc 246) 92 = some (5, 0, 2) := by decide +kernel
theorem i246_14 : ts_ins 246 14 = some (.istore_n 2, 15, 0) := by decide +kernel
theorem i246_15 : ts_ins 246 15 = some (.iload_n 3, 16, 0) := by decide +kernel
theorem i246_16 : ts_ins 246 16 = some (.aload_n 0, 17, 0) := by decide +kernel
theorem i246_17 : ts_ins 246 17 = some (.arraylength, 18, 0) := by decide +kernel
theorem i246_18 : ts_ins 246 18 = some (.invokestatic 38, 21, 0) := by decide +kernel
theorem g246_18 : ts_cal (ts_mc 246) 38 = some (6, 0, 2) := by decide +kernel
theorem i246_21 : ts_ins 246 21 = some (.istore_n 3, 22, 0) := by decide +kernel
theorem i246_22 : ts_ins 246 22 = some (.iload_n 2, 23, 0) := by decide +kernel
theorem i246_23 : ts_ins 246 23 = some (.iload_n 3, 24, 0) := by decide +kernel
theorem i246_24 : ts_ins 246 24 = some (.if_icmp .lt 5, 27, 29) := by decide +kernel
theorem i246_27 : ts_ins 246 27 = some (.iconst (-1), 28, 0) := by decide +kernel
theorem i246_28 : ts_ins 246 28 = some (.ireturn, 29, 0) := by decide +kernel
theorem i246_29 : ts_ins 246 29 = some (.aload_n 0, 30, 0) := by decide +kernel
theorem i246_30 : ts_ins 246 30 = some (.iload_n 1, 31, 0) := by decide +kernel
theorem i246_31 : ts_ins 246 31 = some (.iload_n 2, 32, 0) := by decide +kernel
theorem i246_32 : ts_ins 246 32 = some (.iload_n 3, 33, 0) := by decide +kernel
theorem i246_33 : ts_ins 246 33 = some (.invokestatic 95, 36, 0) := by decide +kernel
theorem g246_33 : ts_cal (ts_mc 246) 95 = some (1, 247, 4) := by decide +kernel
theorem i246_36 : ts_ins 246 36 = some (.ireturn, 37, 0) := by decide +kernel
theorem r246 : ts_rt 246 = ((some .int), 0, 0) := by decide +kernel
theorem l246 : ts_ml 246 = 4 := by decide +kernel
theorem i242_0 : ts_ins 242 0 = some (.aload_n 0, 1, 0) := by decide +kernel
theorem i242_1 : ts_ins 242 1 = some (.invokevirtual 492, 4, 0) := by decide +kernel
theorem g242_1 : ts_cal (ts_mc 242) 492 = some (0, 243, 0) := by decide +kernel
theorem i242_4 : ts_ins 242 4 = some (.ifCond .eq 19, 7, 23) := by decide +kernel
theorem i242_7 : ts_ins 242 7 = some (.aload_n 0, 8, 0) := by decide +kernel
theorem i242_8 : ts_ins 242 8 = some (.getfield 9, 11, 0) := by decide +kernel
theorem g242_8 : ts_sf (ts_mc 242) 9 = some (.ref 1005) := by decide +kernel
theorem i242_11 : ts_ins 242 11 = some (.iload_n 1, 12, 0) := by decide +kernel
theorem i242_12 : ts_ins 242 12 = some (.iload_n 2, 13, 0) := by decide +kernel
theorem i242_13 : ts_ins 242 13 = some (.aload_n 0, 14, 0) := by decide +kernel
theorem i242_14 : ts_ins 242 14 = some (.invokevirtual 505, 17, 0) := by decide +kernel
theorem g242_14 : ts_cal (ts_mc 242) 505 = some (0, 244, 0) := by decide +kernel
theorem i242_17 : ts_ins 242 17 = some (.invokestatic 637, 20, 0) := by decide +kernel
theorem g242_17 : ts_cal (ts_mc 242) 637 = some (1, 246, 4) := by decide +kernel
theorem i242_20 : ts_ins 242 20 = some (.goto 16, 23, 36) := by decide +kernel
theorem i242_23 : ts_ins 242 23 = some (.aload_n 0, 24, 0) := by decide +kernel
theorem i242_24 : ts_ins 242 24 = some (.getfield 9, 27, 0) := by decide +kernel
theorem g242_24 : ts_sf (ts_mc 242) 9 = some (.ref 1005) := by decide +kernel
theorem i242_27 : ts_ins 242 27 = some (.iload_n 1, 28, 0) := by decide +kernel
theorem i242_28 : ts_ins 242 28 = some (.iload_n 2, 29, 0) := by decide +kernel
theorem i242_29 : ts_ins 242 29 = some (.aload_n 0, 30, 0) := by decide +kernel
theorem i242_30 : ts_ins 242 30 = some (.invokevirtual 505, 33, 0) := by decide +kernel
theorem g242_30 : ts_cal (ts_mc 242) 505 = some (0, 244, 0) := by decide +kernel
theorem i242_33 : ts_ins 242 33 = some (.invokestatic 640, 36, 0) := by decide +kernel
theorem i242_36 : ts_ins 242 36 = some (.ireturn, 37, 0) := by decide +kernel
theorem r242 : ts_rt 242 = ((some .int), 0, 0) := by decide +kernel
theorem l242 : ts_ml 242 = 3 := by decide +kernel
theorem i241_0 : ts_ins 241 0 = some (.aload_n 0, 1, 0) := by decide +kernel
theorem i241_1 : ts_ins 241 1 = some (.iload_n 1, 2, 0) := by decide +kernel
theorem i241_2 : ts_ins 241 2 = some (.iconst 0, 3, 0) := by decide +kernel
theorem i241_3 : ts_ins 241 3 = some (.invokevirtual 633, 6, 0) := by decide +kernel
theorem g241_3 : ts_cal (ts_mc 241) 633 = some (0, 242, 2) := by decide +kernel
theorem i241_6 : ts_ins 241 6 = some (.ireturn, 7, 0) := by decide +kernel
theorem r241 : ts_rt 241 = ((some .int), 0, 0) := by decide +kernel
theorem l241 : ts_ml 241 = 2 := by decide +kernel
/-! THE TEXT of the law: what the class's reader holds, its small methods -/
def t_nx (n : Int) (tx : Int → Int) (p : Int) : Int := if p < n then tx p else -1
def zw (a : Int) : Int := (zI a).toInt
theorem zI_zw (a : Int) : zI (zw a) = zI a := zI_of _
theorem zw_r (a : Int) : -2147483648 ≤ zw a ∧ zw a ≤ 2147483647 := zI_r _
theorem zw_id {a : Int} (h : -2147483648 ≤ a ∧ a ≤ 2147483647) : zw a = a := zI_T h
def SX (I : Nat → Nat → Int32) (sw : Bool) (n : Int) (tx : Int → Int) (p s : Int) (st op : Int → Int) : Prop := (0 ≤ n ∧ n ≤ 120) ∧ rd (I 24 1) 0 120 n ∧ ar I 25 n 0 255 tx ∧ rd (I 24 2) 0 120 p ∧ rd (I (ts_into sw) 4) 0 128 s ∧ ar I (ts_into sw + 1) s 0 255 st ∧ ar I (ts_into sw + 2) s 0 9999 op
abbrev fzr (sw : Bool) : Nat → Nat → Prop := fun a k => (a = 24 ∧ k = 2) ∨ (a = ts_into sw ∧ k = 4) ∨ a = ts_into sw + 1 ∨ a = ts_into sw + 2
abbrev fz2 : Nat → Nat → Prop := fun a k => a = 24 ∧ k = 2
theorem into_c (sw : Bool) : ts_into sw = 19 ∨ ts_into sw = 26 := by cases sw <;> decide
theorem into_I (sw : Bool) : ts_isI ts_S0 (ts_into sw) 4 = true := by cases sw <;> decide +kernel
theorem into_R (sw : Bool) : ts_rcv ts_S0 (ts_into sw) 35 = true := by cases sw <;> decide +kernel
theorem into_P0 (sw : Bool) : ts_pg (ts_P0 sw) (ts_into sw) 0 = some (ts_into sw + 1) := by cases sw <;> rfl
theorem into_P1 (sw : Bool) : ts_pg (ts_P0 sw) (ts_into sw) 1 = some (ts_into sw + 2) := by cases sw <;> rfl
theorem into_A1 (sw : Bool) : ts_sA ts_S0 (ts_into sw + 1) = some (0, 128) := by cases sw <;> rfl
theorem into_A2 (sw : Bool) : ts_sA ts_S0 (ts_into sw + 2) = some (0, 128) := by cases sw <;> rfl
theorem into_Q (sw : Bool) : ts_pg (ts_P0 sw) 24 3 = some (ts_into sw) := by cases sw <;> rfl
theorem ar_ext3 {I : Nat → Nat → Int32} {a : Nat} {n lo hi v : Int} {g : Int → Int} (h : ar I a n lo hi g) (hn : 0 ≤ n) (hv : lo ≤ v ∧ v ≤ hi) : ar (ts_up I a n.toNat (zI v)) a (n + 1) lo hi (zu g n v) := by
  intro q h0 h1
  by_cases e : q = n
  · rw [e, ts_up_e, zu_e]
    exact rd_zI hv
  · rw [ts_up_nj (by omega), zu_n e]
    exact h q h0 (by omega)
def lof (c : Int) : Int := if c = 124 then 0 else if c = 38 then 1 else if c = 60 ∨ c = 61 ∨ c = 62 then 2 else if c = 43 ∨ c = 45 then 3 else if c = 42 ∨ c = 47 ∨ c = 37 then 4 else 5
/-- the number read: where it ends, its value -/
def rdn (n : Int) (tx : Int → Int) : Nat → Int → Int → Int × Int
  | 0, p, v => (p, v)
  | k + 1, p, v => if 48 ≤ t_nx n tx p ∧ t_nx n tx p ≤ 57 then rdn n tx k (p + 1) (v * 10 + t_nx n tx p - 48) else (p, v)
def nmi (c : Int) : Int := if c = 116 then 0 else if c = 99 then 1 else if c = 114 then 2 else if c = 109 then 3 else if c = 97 then 4 else if c = 98 then 5 else -1
def bnd (i v : Int) : Prop := (i = 0 ∧ v = 0) ∨ (i = 1 ∧ 0 ≤ v ∧ v ≤ 9) ∨ (i = 2 ∧ 0 ≤ v ∧ v ≤ 99) ∨ (i = 3 ∧ 0 ≤ v ∧ v ≤ 999) ∨ (i = 4 ∧ 0 ≤ v ∧ v ≤ 9999)
theorem t_nx_lt {n : Int} {tx : Int → Int} {p : Int} (h : ¬ t_nx n tx p = -1) : p < n := by unfold t_nx at h; omega
theorem rdn_p {n : Int} {tx : Int → Int} : ∀ (k : Nat) (p v : Int), p ≤ n → p ≤ (rdn n tx k p v).1 ∧ (rdn n tx k p v).1 ≤ n := by
  intro k
  induction k with
  | zero => intro p v h; exact ⟨Int.le_refl _, h⟩
  | succ k ih =>
    intro p v h
    show p ≤ (if _ then rdn n tx k _ _ else (p, v) : Int × Int).1 ∧ (if _ then rdn n tx k _ _ else (p, v) : Int × Int).1 ≤ n
    split
    · rename_i c
      have q := ih (p + 1) (v * 10 + t_nx n tx p - 48) (by have := t_nx_lt (n := n) (tx := tx) (p := p) (by omega); omega)
      omega
    · exact ⟨Int.le_refl _, h⟩
theorem rdn_v {n : Int} {tx : Int → Int} : ∀ (k : Nat) (p v i : Int), i + k = 4 → bnd i v → 0 ≤ (rdn n tx k p v).2 ∧ (rdn n tx k p v).2 ≤ 9999 := by
  intro k
  induction k with
  | zero => intro p v i hi h; unfold bnd at h; show 0 ≤ v ∧ v ≤ 9999; omega
  | succ k ih =>
    intro p v i hi h
    show 0 ≤ (if _ then rdn n tx k _ _ else (p, v) : Int × Int).2 ∧ (if _ then rdn n tx k _ _ else (p, v) : Int × Int).2 ≤ 9999
    split
    · rename_i c
      exact ih (p + 1) (v * 10 + t_nx n tx p - 48) (i + 1) (by omega) (by unfold bnd at h ⊢; omega)
    · show 0 ≤ v ∧ v ≤ 9999
      unfold bnd at h; omega
theorem zi2b_v {c : Int} (h : 0 ≤ c ∧ c ≤ 255) : zi2b c = if c < 128 then c else c - 256 := by
  obtain ⟨k, rfl⟩ := Int.eq_ofNat_of_zero_le h.1
  exact (by decide +kernel : ∀ k : Nat, k < 256 → zi2b k = if (k : Int) < 128 then (k : Int) else k - 256) k (by omega)
theorem zi2c_v {c : Int} (h : 0 ≤ c ∧ c ≤ 255) : zi2c c = c := by
  obtain ⟨k, rfl⟩ := Int.eq_ofNat_of_zero_le h.1
  exact (by decide +kernel : ∀ k : Nat, k < 256 → zi2c k = (k : Int)) k (by omega)
section RD
variable {X : ts_X} {I J : Nat → Nat → Int32} {L : Nat → Nat → Int64} {sw : Bool} {K : Option Value → ts_H → Prop} {d : Nat} {n p s : Int} {tx st op : Int → Int}
theorem SX.n0 (h : SX I sw n tx p s st op) : 0 ≤ n ∧ n ≤ 120 := h.1
theorem SX.len (h : SX I sw n tx p s st op) : rd (I 24 1) 0 120 n := h.2.1
theorem SX.txt (h : SX I sw n tx p s st op) : ar I 25 n 0 255 tx := h.2.2.1
theorem SX.at (h : SX I sw n tx p s st op) : rd (I 24 2) 0 120 p := h.2.2.2.1
theorem SX.size (h : SX I sw n tx p s st op) : rd (I (ts_into sw) 4) 0 128 s := h.2.2.2.2.1
theorem SX.sts (h : SX I sw n tx p s st op) : ar I (ts_into sw + 1) s 0 255 st := h.2.2.2.2.2.1
theorem SX.ops (h : SX I sw n tx p s st op) : ar I (ts_into sw + 2) s 0 9999 op := h.2.2.2.2.2.2
theorem SX.nx_r (h : SX I sw n tx p s st op) (hp : 0 ≤ p) : -1 ≤ t_nx n tx p ∧ t_nx n tx p ≤ 255 := by
  unfold t_nx
  by_cases c : p < n
  · have q := (h.txt p hp c).2
    rw [if_pos c]
    omega
  · rw [if_neg c]
    decide
theorem SX.sAt {q : Int} (h : SX I sw n tx p s st op) (hq : 0 ≤ q ∧ q ≤ 120) : SX (ts_up I 24 2 (zI q)) sw n tx q s st op := by
  have c := into_c sw
  refine ⟨h.n0, ?_, ar_co h.txt (ts_up_na (by decide)), ?_, ?_, ar_co h.sts (ts_up_na (by omega)), ar_co h.ops (ts_up_na (by omega))⟩
  · rw [ts_up_nj (by decide)]; exact h.len
  · rw [ts_up_e]; exact rd_zI hq
  · rw [ts_up_na (by omega)]; exact h.size
theorem SX.add {a o : Int} (h : SX I sw n tx p s st op) (hs : 0 ≤ s ∧ s < 128) (ha : 0 ≤ a ∧ a ≤ 255) (ho : 0 ≤ o ∧ o ≤ 9999) : SX (ts_up (ts_up (ts_up I (ts_into sw + 1) s.toNat (zI a)) (ts_into sw + 2) s.toNat (zI o)) (ts_into sw) 4 (zI (s + 1))) sw n tx p (s + 1) (zu st s a) (zu op s o) := by
  have c := into_c sw
  refine ⟨h.n0, ?_, ?_, ?_, ?_, ?_, ?_⟩
  · rw [ts_up_na (by omega), ts_up_na (by omega), ts_up_na (by omega)]; exact h.len
  · exact ar_co h.txt (by rw [ts_up_na (by omega), ts_up_na (by omega), ts_up_na (by omega)])
  · rw [ts_up_na (by omega), ts_up_na (by omega), ts_up_na (by omega)]; exact h.at
  · rw [ts_up_e]; exact rd_zI (by omega)
  · exact ar_co (ar_ext3 h.sts hs.1 ha) (by rw [ts_up_na (by omega), ts_up_na (by omega)])
  · have o2 : ar (ts_up I (ts_into sw + 1) s.toNat (zI a)) (ts_into sw + 2) s 0 9999 op := ar_co h.ops (ts_up_na (by omega))
    exact ar_co (ar_ext3 o2 hs.1 ho) (ts_up_na (by omega))
theorem x_next (hS : SX I sw n tx p s st op) (hp : 0 ≤ p) (hK : K (some (.int (zI (t_nx n tx p)))) (I, L, ts_P0 sw, ts_S0)) : ts_Cal X (d + 1) 42 [.ref 24] (I, L, ts_P0 sw, ts_S0) K := by
  have b := hS.n0
  unfold t_nx at hK
  refine ev_enter (lv := [.ref 24]) l42 rfl (Nat.le_of_ble_eq_true rfl) ?_
  refine ev_aloadn_0 i42_0 ?_
  refine ew_getI i42_1 g42_1 rfl (by first | exact hS.at | exact hS.len | exact hS.txt p hp (by omega) | exact hX.men | exact hX.told | exact hX.road | exact hX.tone _ (by omega) (by omega) | exact hX.corn _ (by omega) (by omega) | exact hX.stand _ (by omega) (by omega) | exact hX.reach _ (by omega) (by omega) | exact hX.arm _ (by omega) (by omega) | exact hX.late _ (by omega) (by omega) | exact hX.len _ (by omega) (by omega) | exact hX.say (by omega) (by omega) _ (by omega) (by omega)) (fun b1 => ?_)
  refine ew_iflt i42_4 (by omega) (fun c4 => ?_) (fun c4 => ?_)
  · refine ew_iconst i42_30 ?_
    refine ev_ireturn i42_31 r42 ?_
    first
    | (rw [if_pos (by omega)] at hK; exact hK)
    | (rw [if_neg (by omega)] at hK; exact hK)
  · refine ev_aloadn_0 i42_7 ?_
    refine ew_getI i42_8 g42_8 rfl (by first | exact hS.at | exact hS.len | exact hS.txt p hp (by omega) | exact hX.men | exact hX.told | exact hX.road | exact hX.tone _ (by omega) (by omega) | exact hX.corn _ (by omega) (by omega) | exact hX.stand _ (by omega) (by omega) | exact hX.reach _ (by omega) (by omega) | exact hX.arm _ (by omega) (by omega) | exact hX.late _ (by omega) (by omega) | exact hX.len _ (by omega) (by omega) | exact hX.say (by omega) (by omega) _ (by omega) (by omega)) (fun b8 => ?_)
    refine ev_aloadn_0 i42_11 ?_
    refine ew_getI i42_12 g42_12 rfl (by first | exact hS.at | exact hS.len | exact hS.txt p hp (by omega) | exact hX.men | exact hX.told | exact hX.road | exact hX.tone _ (by omega) (by omega) | exact hX.corn _ (by omega) (by omega) | exact hX.stand _ (by omega) (by omega) | exact hX.reach _ (by omega) (by omega) | exact hX.arm _ (by omega) (by omega) | exact hX.late _ (by omega) (by omega) | exact hX.len _ (by omega) (by omega) | exact hX.say (by omega) (by omega) _ (by omega) (by omega)) (fun b12 => ?_)
    refine ew_icmpge i42_15 (by omega) (fun c15 => ?_) (fun c15 => ?_)
    · refine ew_iconst i42_30 ?_
      refine ev_ireturn i42_31 r42 ?_
      first
      | (rw [if_pos (by omega)] at hK; exact hK)
      | (rw [if_neg (by omega)] at hK; exact hK)
    · refine ev_aloadn_0 i42_18 ?_
      refine ev_getA i42_19 g42_19 rfl rfl (by decide) ?_
      refine ev_aloadn_0 i42_22 ?_
      refine ew_getI i42_23 g42_23 rfl (by first | exact hS.at | exact hS.len | exact hS.txt p hp (by omega) | exact hX.men | exact hX.told | exact hX.road | exact hX.tone _ (by omega) (by omega) | exact hX.corn _ (by omega) (by omega) | exact hX.stand _ (by omega) (by omega) | exact hX.reach _ (by omega) (by omega) | exact hX.arm _ (by omega) (by omega) | exact hX.late _ (by omega) (by omega) | exact hX.len _ (by omega) (by omega) | exact hX.say (by omega) (by omega) _ (by omega) (by omega)) (fun b23 => ?_)
      refine ew_iaload i42_26 rfl (by omega) (by omega) (by omega) (by first | exact hS.at | exact hS.len | exact hS.txt p hp (by omega) | exact hX.men | exact hX.told | exact hX.road | exact hX.tone _ (by omega) (by omega) | exact hX.corn _ (by omega) (by omega) | exact hX.stand _ (by omega) (by omega) | exact hX.reach _ (by omega) (by omega) | exact hX.arm _ (by omega) (by omega) | exact hX.late _ (by omega) (by omega) | exact hX.len _ (by omega) (by omega) | exact hX.say (by omega) (by omega) _ (by omega) (by omega)) (fun b26 => ?_)
      refine ev_goto i42_27 ?_
      refine ev_ireturn i42_31 r42 ?_
      first
      | (rw [if_pos (by omega)] at hK; exact hK)
      | (rw [if_neg (by omega)] at hK; exact hK)
theorem x_pass (hS : SX I sw n tx p s st op) (hp : 0 ≤ p) {c : Int} (hc : 0 ≤ c ∧ c ≤ 255) (hK : ∀ J, fr fz2 I J → (t_nx n tx p = c → SX J sw n tx (p + 1) s st op) → (¬ t_nx n tx p = c → SX J sw n tx p s st op) → K (some (.int (zI (if t_nx n tx p = c then 1 else 0)))) (J, L, ts_P0 sw, ts_S0)) : ts_Cal X (d + 2) 43 [.ref 24, .int (zI (c))] (I, L, ts_P0 sw, ts_S0) K := by
  have b := hS.n0
  have r := hS.nx_r hp
  refine ev_enter (lv := [.ref 24, .int (zI (c))]) l43 rfl (Nat.le_of_ble_eq_true rfl) ?_
  refine ev_aloadn_0 i43_0 ?_
  refine ev_virt0 i43_1 g43_1 rfl (by decide +kernel) (Nat.le_of_ble_eq_true rfl) (x_next hS hp ?_)
  refine ev_iloadn_1 i43_4 ?_
  refine ew_icmpeq i43_5 (by omega) (fun c5 => ?_) (fun c5 => ?_)
  · refine ev_aloadn_0 i43_10 ?_
    refine ev_dup i43_11 rfl ?_
    refine ew_getI i43_12 g43_12 rfl (by first | exact hS.at | exact hX.men | exact hX.told | exact hX.road | exact hX.tone _ (by omega) (by omega) | exact hX.corn _ (by omega) (by omega) | exact hX.stand _ (by omega) (by omega) | exact hX.reach _ (by omega) (by omega) | exact hX.arm _ (by omega) (by omega) | exact hX.late _ (by omega) (by omega) | exact hX.len _ (by omega) (by omega) | exact hX.say (by omega) (by omega) _ (by omega) (by omega)) (fun b12 => ?_)
    refine ew_iconst i43_15 ?_
    refine ew_iadd i43_16 ?_
    refine ev_putI i43_17 g43_17 rfl ?_
    refine ew_iconst i43_20 ?_
    have lt := t_nx_lt (n := n) (tx := tx) (p := p) (by omega)
    refine ew_zreturn i43_21 r43 ?_ (hK _ (fr_up (fr_rfl _ _) ⟨rfl, rfl⟩) (fun _ => hS.sAt (by omega)) (fun e => absurd c5 e))
    omega
  · refine ew_iconst i43_8 ?_
    refine ew_zreturn i43_9 r43 ?_ (hK I (fr_rfl _ _) (fun e => absurd e c5) (fun _ => hS))
    omega
theorem x_addStep (hS : SX I sw n tx p s st op) (hs : 0 ≤ s ∧ s < 128) {a o : Int} (ha : 0 ≤ a ∧ a ≤ 255) (ho : 0 ≤ o ∧ o ≤ 9999) (hK : ∀ J, fr (fzr sw) I J → SX J sw n tx p (s + 1) (zu st s a) (zu op s o) → K (some (.int (zI (s)))) (J, L, ts_P0 sw, ts_S0)) : ts_Cal X (d + 1) 35 [.ref (ts_into sw), .int (zI (a)), .int (zI (o))] (I, L, ts_P0 sw, ts_S0) K := by
  have c := into_c sw
  refine ev_enter (lv := [.ref (ts_into sw), .int (zI (a)), .int (zI (o))]) l35 rfl (Nat.le_of_ble_eq_true rfl) ?_
  refine ev_aloadn_0 i35_0 ?_
  refine ew_getI i35_1 g35_1 (into_I sw) (hS.size) (fun b1 => ?_)
  refine ew_sipush i35_4 (by decide) ?_
  refine ew_icmplt i35_7 (by omega) (fun c7 => ?_) (fun c7 => ?_)
  · refine ev_aloadn_0 i35_13 ?_
    refine ev_getA i35_14 g35_14 (into_I sw) (into_P0 sw) (Nat.succ_ne_zero _) ?_
    refine ev_aloadn_0 i35_17 ?_
    refine ew_getI i35_18 g35_18 (into_I sw) (hS.size) (fun b18 => ?_)
    refine ev_iloadn_1 i35_21 ?_
    refine ew_iastore i35_22 (into_A1 sw) (by omega) (by omega) (by omega) ?_
    refine ev_aloadn_0 i35_23 ?_
    refine ev_getA i35_24 g35_24 (into_I sw) (into_P1 sw) (Nat.succ_ne_zero _) ?_
    refine ev_aloadn_0 i35_27 ?_
    refine ew_getI i35_28 g35_28 (into_I sw) ((by rw [ts_up_na (by omega)]; exact hS.size)) (fun b28 => ?_)
    refine ev_iloadn_2 i35_31 ?_
    refine ew_iastore i35_32 (into_A2 sw) (by omega) (by omega) (by omega) ?_
    refine ev_aloadn_0 i35_33 ?_
    refine ev_dup i35_34 rfl ?_
    refine ew_getI i35_35 g35_35 (into_I sw) ((by rw [ts_up_na (by omega), ts_up_na (by omega)]; exact hS.size)) (fun b35 => ?_)
    refine ew_iconst i35_38 ?_
    refine ew_iadd i35_39 ?_
    refine ev_putI i35_40 g35_40 (into_I sw) ?_
    refine ev_aloadn_0 i35_43 ?_
    refine ew_getI i35_44 g35_44 (into_I sw) ((show rd _ 0 128 (s + 1) by rw [ts_up_e]; exact rd_zI (by omega))) (fun b44 => ?_)
    refine ew_iconst i35_47 ?_
    refine ew_isub i35_48 ?_
    refine ev_ireturn i35_49 r35 ?_
    exact zK (hK _ (fr_up (fr_up (fr_up (fr_rfl _ _) (by omega)) (by omega)) (by omega)) (hS.add hs ha ho)) (by omega)
  · exfalso; omega
theorem x_levelOf {c : Int} (hc : -2147483648 ≤ c ∧ c ≤ 2147483647) (hK : K (some (.int (zI (lof c)))) (I, L, ts_P0 sw, ts_S0)) : ts_Cal X (d + 1) 46 [.int (zI (c))] (I, L, ts_P0 sw, ts_S0) K := by
  refine ev_enter (lv := [.int (zI (c))]) l46 rfl (Nat.le_of_ble_eq_true rfl) ?_
  refine ev_iloadn_0 i46_0 ?_
  rcases (show c = 37 ∨ c = 38 ∨ c = 42 ∨ c = 43 ∨ c = 45 ∨ c = 47 ∨ c = 60 ∨ c = 61 ∨ c = 62 ∨ c = 124 ∨ (¬ c = 37 ∧ ¬ c = 38 ∧ ¬ c = 42 ∧ ¬ c = 43 ∧ ¬ c = 45 ∧ ¬ c = 47 ∧ ¬ c = 60 ∧ ¬ c = 61 ∧ ¬ c = 62 ∧ ¬ c = 124) by omega) with c1 | c1 | c1 | c1 | c1 | c1 | c1 | c1 | c1 | c1 | c1
  · refine ew_sw (v := 37) i46_1 c1 (t := 100) (by decide) rfl ?_
    refine ew_iconst i46_100 ?_
    refine ev_ireturn i46_101 r46 ?_
    exact zK hK (by unfold lof; omega)
  · refine ew_sw (v := 38) i46_1 c1 (t := 94) (by decide) rfl ?_
    refine ew_iconst i46_94 ?_
    refine ev_ireturn i46_95 r46 ?_
    exact zK hK (by unfold lof; omega)
  · refine ew_sw (v := 42) i46_1 c1 (t := 100) (by decide) rfl ?_
    refine ew_iconst i46_100 ?_
    refine ev_ireturn i46_101 r46 ?_
    exact zK hK (by unfold lof; omega)
  · refine ew_sw (v := 43) i46_1 c1 (t := 98) (by decide) rfl ?_
    refine ew_iconst i46_98 ?_
    refine ev_ireturn i46_99 r46 ?_
    exact zK hK (by unfold lof; omega)
  · refine ew_sw (v := 45) i46_1 c1 (t := 98) (by decide) rfl ?_
    refine ew_iconst i46_98 ?_
    refine ev_ireturn i46_99 r46 ?_
    exact zK hK (by unfold lof; omega)
  · refine ew_sw (v := 47) i46_1 c1 (t := 100) (by decide) rfl ?_
    refine ew_iconst i46_100 ?_
    refine ev_ireturn i46_101 r46 ?_
    exact zK hK (by unfold lof; omega)
  · refine ew_sw (v := 60) i46_1 c1 (t := 96) (by decide) rfl ?_
    refine ew_iconst i46_96 ?_
    refine ev_ireturn i46_97 r46 ?_
    exact zK hK (by unfold lof; omega)
  · refine ew_sw (v := 61) i46_1 c1 (t := 96) (by decide) rfl ?_
    refine ew_iconst i46_96 ?_
    refine ev_ireturn i46_97 r46 ?_
    exact zK hK (by unfold lof; omega)
  · refine ew_sw (v := 62) i46_1 c1 (t := 96) (by decide) rfl ?_
    refine ew_iconst i46_96 ?_
    refine ev_ireturn i46_97 r46 ?_
    exact zK hK (by unfold lof; omega)
  · refine ew_sw (v := 124) i46_1 c1 (t := 92) (by decide) rfl ?_
    refine ew_iconst i46_92 ?_
    refine ev_ireturn i46_93 r46 ?_
    exact zK hK (by unfold lof; omega)
  · refine ew_lswD (o := 101) (t := 102) i46_1 (by omega) (by simp only [List.toList_toArray, Op.lookupswitch.offset]; omega) (by decide) ?_
    refine ew_iconst i46_102 ?_
    refine ev_ireturn i46_103 r46 ?_
    exact zK hK (by unfold lof; omega)
theorem x_isDigit {c : Int} (hc : -2147483648 ≤ c ∧ c ≤ 2147483647) (hK : K (some (.int (zI (if 48 ≤ c ∧ c ≤ 57 then 1 else 0)))) (I, L, ts_P0 sw, ts_S0)) : ts_Cal X (d + 1) 49 [.int (zI (c))] (I, L, ts_P0 sw, ts_S0) K := by
  refine ev_enter (lv := [.int (zI (c))]) l49 rfl (Nat.le_of_ble_eq_true rfl) ?_
  refine ev_iloadn_0 i49_0 ?_
  refine ew_bipush i49_1 (by decide) ?_
  refine ew_icmplt i49_3 (by omega) (fun c3 => ?_) (fun c3 => ?_)
  · refine ew_iconst i49_16 ?_
    exact ew_zreturn i49_17 r49 (by omega) hK
  · refine ev_iloadn_0 i49_6 ?_
    refine ew_bipush i49_7 (by decide) ?_
    refine ew_icmpgt i49_9 (by omega) (fun c9 => ?_) (fun c9 => ?_)
    · refine ew_iconst i49_16 ?_
      exact ew_zreturn i49_17 r49 (by omega) hK
    · refine ew_iconst i49_12 ?_
      refine ev_goto i49_13 ?_
      exact ew_zreturn i49_17 r49 (by omega) hK
theorem x_readNumber (hS : SX I sw n tx p s st op) (hp : 0 ≤ p) (hs : 0 ≤ s ∧ s < 128) (hK : ∀ J, fr (fzr sw) I J → SX J sw n tx (rdn n tx 4 p 0).1 (s + 1) (zu st s 0) (zu op s (rdn n tx 4 p 0).2) → K none (J, L, ts_P0 sw, ts_S0)) : ts_Cal X (d + 2) 48 [.ref 24] (I, L, ts_P0 sw, ts_S0) K := by
  have b := hS.n0
  have loop : ∀ i : Int, 0 ≤ i → i ≤ 4 → ∀ (q v : Int) (J : Nat → Nat → Int32), 0 ≤ q → fr (fzr sw) I J → SX J sw n tx q s st op → bnd i v → rdn n tx (4 - i).toNat q v = rdn n tx 4 p 0 → ts_Ev X (ts_Cal X (d + 1)) 48 ts_S0 K 4 [.ref 24, .int (zI (v)), .int (zI (i))] [] (J, L, ts_P0 sw, ts_S0) := by
    refine ts_ind 4 (fun i ih i0 iN q v J q0 hJ hSJ hb hR => ?_)
    have r := hSJ.nx_r q0
    have vb : 0 ≤ v ∧ v ≤ 9999 := by unfold bnd at hb; omega
    have fin : rdn n tx 4 p 0 = (q, v) → ts_Ev X (ts_Cal X (d + 1)) 48 ts_S0 K 48 [.ref 24, .int (zI (v)), .int (zI (i))] [] (J, L, ts_P0 sw, ts_S0) := by
      intro e
      rw [e] at hK
      refine ev_aloadn_0 i48_48 ?_
      refine ev_getA i48_49 g48_49 rfl (into_Q sw) (ts_into_ne _) ?_
      refine ew_iconst i48_52 ?_
      refine ev_iloadn_1 i48_53 ?_
      refine ev_virt2 i48_54 g48_54 (into_R sw) (by decide +kernel) (Nat.le_of_ble_eq_true rfl) (x_addStep hSJ hs (by omega) vb (fun M h1 h2 => ?_))
      refine ev_pop i48_57 rfl ?_
      refine ev_return i48_58 r48 ?_
      exact hK M (fr_tr hJ h1) h2
    refine ev_iloadn_2 i48_4 ?_
    refine ew_iconst i48_5 ?_
    refine ew_icmpge i48_6 (by omega) (fun c6 => ?_) (fun c6 => ?_)
    · first
      | (have e4 : i = 4 := by omega
         rw [show (4 - i).toNat = 0 by omega] at hR
         exact fin hR.symm)
      | (rw [show (4 - i).toNat = (4 - (i + 1)).toNat + 1 by omega] at hR
         unfold rdn at hR
         rw [if_neg c16] at hR
         exact fin hR.symm)
    · refine ev_aloadn_0 i48_9 ?_
      refine ev_virt0 i48_10 g48_10 rfl (by decide +kernel) (Nat.le_of_ble_eq_true rfl) (x_next hSJ q0 ?_)
      refine ev_stat1 i48_13 g48_13 (by decide +kernel) (Nat.le_of_ble_eq_true rfl) (x_isDigit (by omega) ?_)
      first
      | refine ew_ifeqB i48_16 (fun c16 => ?_) (fun c16 => ?_)
      | refine ew_ifeq i48_16 (by omega) (fun c16 => ?_) (fun c16 => ?_)
      · first
        | (have e4 : i = 4 := by omega
           rw [show (4 - i).toNat = 0 by omega] at hR
           exact fin hR.symm)
        | (rw [show (4 - i).toNat = (4 - (i + 1)).toNat + 1 by omega] at hR
           unfold rdn at hR
           rw [if_neg c16] at hR
           exact fin hR.symm)
      · refine ev_iloadn_1 i48_19 ?_
        refine ew_bipush i48_20 (by decide) ?_
        refine ew_imul i48_22 ?_
        refine ev_aloadn_0 i48_23 ?_
        refine ev_virt0 i48_24 g48_24 rfl (by decide +kernel) (Nat.le_of_ble_eq_true rfl) (x_next hSJ q0 ?_)
        refine ew_iadd i48_27 ?_
        refine ew_bipush i48_28 (by decide) ?_
        refine ew_isub i48_30 ?_
        refine ev_istoren_1 i48_31 rfl ?_
        refine ev_aloadn_0 i48_32 ?_
        refine ev_dup i48_33 rfl ?_
        refine ew_getI i48_34 g48_34 rfl (by first | exact hSJ.at | exact hX.men | exact hX.told | exact hX.road | exact hX.tone _ (by omega) (by omega) | exact hX.corn _ (by omega) (by omega) | exact hX.stand _ (by omega) (by omega) | exact hX.reach _ (by omega) (by omega) | exact hX.arm _ (by omega) (by omega) | exact hX.late _ (by omega) (by omega) | exact hX.len _ (by omega) (by omega) | exact hX.say (by omega) (by omega) _ (by omega) (by omega)) (fun b34 => ?_)
        refine ew_iconst i48_37 ?_
        refine ew_iadd i48_38 ?_
        refine ev_putI i48_39 g48_39 rfl ?_
        refine ew_iinc_2 i48_42 rfl ?_
        refine ev_goto i48_45 ?_
        rw [show (4 - i).toNat = (4 - (i + 1)).toNat + 1 by omega] at hR
        unfold rdn at hR
        rw [if_pos c16] at hR
        have lt := t_nx_lt (n := n) (tx := tx) (p := q) (by omega)
        exact ih (by omega) (by omega) (by omega) (q + 1) _ _ (by omega) (fr_up hJ (Or.inl ⟨rfl, rfl⟩)) (hSJ.sAt (by omega)) (by unfold bnd at hb ⊢; omega) hR
  refine ev_enter (lv := [.ref 24, .null, .null]) l48 rfl (Nat.le_of_ble_eq_true rfl) ?_
  refine ew_iconst i48_0 ?_
  refine ev_istoren_1 i48_1 rfl ?_
  refine ew_iconst i48_2 ?_
  refine ev_istoren_2 i48_3 rfl ?_
  exact loop 0 (by decide) (by decide) p 0 I hp (fr_rfl _ _) hS (Or.inl ⟨rfl, rfl⟩) rfl
theorem x_isLatin1 (hK : K (some (.int (zI (1)))) (I, L, ts_P0 sw, ts_S0)) : ts_Cal X (d + 1) 243 [.ref 1004] (I, L, ts_P0 sw, ts_S0) K := by
  refine ev_enter (lv := [.ref 1004]) l243 rfl (Nat.le_of_ble_eq_true rfl) ?_
  refine ev_gets i243_0 g243_0 ?_
  show ts_Ev X (ts_Cal X (d + 0)) 243 ts_S0 K 3 [.ref 1004] [.int (zI (1))] (I, L, ts_P0 sw, ts_S0)
  first
  | refine ew_ifeqB i243_3 (fun c3 => ?_) (fun c3 => ?_)
  | refine ew_ifeq i243_3 (by omega) (fun c3 => ?_) (fun c3 => ?_)
  · exfalso; omega
  · refine ev_aloadn_0 i243_6 ?_
    refine ev_getS i243_7 g243_7 ?_
    show ts_Ev X (ts_Cal X (d + 0)) 243 ts_S0 K 10 [.ref 1004] [.int (zI (0))] (I, L, ts_P0 sw, ts_S0)
    first
    | refine ew_ifneB i243_10 (fun c10 => ?_) (fun c10 => ?_)
    | refine ew_ifne i243_10 (by omega) (fun c10 => ?_) (fun c10 => ?_)
    · exfalso; omega
    · refine ew_iconst i243_13 ?_
      refine ev_goto i243_14 ?_
      exact ev_zreturn i243_18 r243 (by decide) hK
theorem x_coder (hK : K (some (.int (zI (0)))) (I, L, ts_P0 sw, ts_S0)) : ts_Cal X (d + 1) 240 [.ref 1004] (I, L, ts_P0 sw, ts_S0) K := by
  refine ev_enter (lv := [.ref 1004]) l240 rfl (Nat.le_of_ble_eq_true rfl) ?_
  refine ev_gets i240_0 g240_0 ?_
  show ts_Ev X (ts_Cal X (d + 0)) 240 ts_S0 K 3 [.ref 1004] [.int (zI (1))] (I, L, ts_P0 sw, ts_S0)
  first
  | refine ew_ifeqB i240_3 (fun c3 => ?_) (fun c3 => ?_)
  | refine ew_ifeq i240_3 (by omega) (fun c3 => ?_) (fun c3 => ?_)
  · exfalso; omega
  · refine ev_aloadn_0 i240_6 ?_
    refine ev_getS i240_7 g240_7 ?_
    refine ev_goto i240_10 ?_
    refine ev_breturn i240_14 r240 rfl ?_
    exact hK
theorem x_slength (hK : K (some (.int (zI (6)))) (I, L, ts_P0 sw, ts_S0)) : ts_Cal X (d + 2) 244 [.ref 1004] (I, L, ts_P0 sw, ts_S0) K := by
  refine ev_enter (lv := [.ref 1004]) l244 rfl (Nat.le_of_ble_eq_true rfl) ?_
  refine ev_aloadn_0 i244_0 ?_
  refine ev_getS i244_1 g244_1 ?_
  refine ew_alen i244_4 rfl ?_
  refine ev_aloadn_0 i244_5 ?_
  refine ev_virtS0 i244_6 g244_6 (by decide +kernel) (by decide +kernel) (Nat.le_of_ble_eq_true rfl) (x_coder ?_)
  refine ew_ishr i244_9 ?_
  rw [show zshr ((6 : Nat) : Int) 0 = 6 from by decide]
  refine ev_ireturn i244_10 r244 ?_
  first | exact hK | exact zK hK (by omega)
theorem x_canEncode {c : Int} (hc : 0 ≤ c ∧ c ≤ 255) (hK : K (some (.int (zI (1)))) (I, L, ts_P0 sw, ts_S0)) : ts_Cal X (d + 1) 245 [.int (zI (c))] (I, L, ts_P0 sw, ts_S0) K := by
  refine ev_enter (lv := [.int (zI (c))]) l245 rfl (Nat.le_of_ble_eq_true rfl) ?_
  refine ev_iloadn_0 i245_0 ?_
  refine ew_iflt i245_1 (by omega) (fun c1 => ?_) (fun c1 => ?_)
  · exfalso; omega
  · refine ev_iloadn_0 i245_4 ?_
    refine ew_sipush i245_5 (by decide) ?_
    refine ew_icmpgt i245_8 (by omega) (fun c8 => ?_) (fun c8 => ?_)
    · exfalso; omega
    · refine ew_iconst i245_11 ?_
      refine ev_goto i245_12 ?_
      exact ev_zreturn i245_16 r245 (by decide) hK
theorem x_indexOfChar {c : Int} (hc : 0 ≤ c ∧ c ≤ 255) (hK : K (some (.int (zI (nmi c)))) (I, L, ts_P0 sw, ts_S0)) : ts_Cal X (d + 1) 247 [.ref 1005, .int (zI (c)), .int (zI (0)), .int (zI (6))] (I, L, ts_P0 sw, ts_S0) K := by
  have zb := zi2b_v hc
  have loop : ∀ j : Int, 0 ≤ j → j ≤ 6 → (j ≤ nmi c ∨ nmi c = -1) → ts_Ev X (ts_Cal X (d + 0)) 247 ts_S0 K 7 [.ref 1005, .int (zI (c)), .int (zI (0)), .int (zI (6)), .int (zI (zi2b c)), .int (zI (j))] [] (I, L, ts_P0 sw, ts_S0) := by
    refine ts_ind 6 (fun j ih j0 jn hj => ?_)
    have hv : rd (ts_tx.getD j.toNat 0) 0 255 (if j = 0 then 116 else if j = 1 then 99 else if j = 2 then 114 else if j = 3 then 109 else if j = 4 then 97 else if j = 5 then 98 else 0) := by
      rcases (show j = 0 ∨ j = 1 ∨ j = 2 ∨ j = 3 ∨ j = 4 ∨ j = 5 ∨ j = 6 by omega) with rfl | rfl | rfl | rfl | rfl | rfl | rfl <;> exact ⟨rfl, by decide, by decide⟩
    refine ev_iload_5 i247_7 ?_
    refine ev_iloadn_3 i247_9 ?_
    refine ew_icmpge i247_10 (by omega) (fun c10 => ?_) (fun c10 => ?_)
    · refine ew_iconst i247_31 ?_
      refine ev_ireturn i247_32 r247 ?_
      exact zK hK (by unfold nmi at hj ⊢; omega)
    · refine ev_aloadn_0 i247_13 ?_
      refine ev_iload_5 i247_14 ?_
      refine ew_baload i247_16 (by omega) (by omega) (hv) (fun b16 => ?_)
      refine ev_iload_4 i247_17 ?_
      refine ew_icmpne i247_19 (by omega) (fun c19 => ?_) (fun c19 => ?_)
      · refine ew_iinc_5 i247_25 rfl ?_
        refine ev_goto i247_28 ?_
        exact ih (by omega) (by omega) (by omega) (by unfold nmi at hj ⊢; omega)
      · refine ev_iload_5 i247_22 ?_
        refine ev_ireturn i247_24 r247 ?_
        exact zK hK (by unfold nmi at hj ⊢; omega)
  refine ev_enter (lv := [.ref 1005, .int (zI (c)), .int (zI (0)), .int (zI (6)), .null, .null]) l247 rfl (Nat.le_of_ble_eq_true rfl) ?_
  refine ev_iloadn_1 i247_0 ?_
  refine ew_i2b i247_1 ?_
  refine ev_istore_4 i247_2 rfl ?_
  refine ev_iloadn_2 i247_4 ?_
  refine ev_istore_5 i247_5 rfl ?_
  exact loop 0 (by decide) (by decide) (by unfold nmi; omega)
theorem x_jindexOf {c : Int} (hc : 0 ≤ c ∧ c ≤ 255) (hK : K (some (.int (zI (nmi c)))) (I, L, ts_P0 sw, ts_S0)) : ts_Cal X (d + 2) 246 [.ref 1005, .int (zI (c)), .int (zI (0)), .int (zI (6))] (I, L, ts_P0 sw, ts_S0) K := by
  refine ev_enter (lv := [.ref 1005, .int (zI (c)), .int (zI (0)), .int (zI (6))]) l246 rfl (Nat.le_of_ble_eq_true rfl) ?_
  refine ev_iloadn_1 i246_0 ?_
  refine ev_stat1 i246_1 g246_1 (by decide +kernel) (Nat.le_of_ble_eq_true rfl) (x_canEncode hc ?_)
  first
  | refine ew_ifneB i246_4 (fun c4 => ?_) (fun c4 => ?_)
  | refine ew_ifne i246_4 (by omega) (fun c4 => ?_) (fun c4 => ?_)
  · refine ev_iloadn_2 i246_9 ?_
    refine ew_iconst i246_10 ?_
    refine ew_mmax i246_11 g246_11 (Nat.le_of_ble_eq_true rfl) (by omega) ?_
    rw [show (if (0 : Int) < 0 then (0 : Int) else 0) = 0 from rfl]
    refine ev_istoren_2 i246_14 rfl ?_
    refine ev_iloadn_3 i246_15 ?_
    refine ev_aloadn_0 i246_16 ?_
    refine ew_alen i246_17 rfl ?_
    refine ew_mmin i246_18 g246_18 (Nat.le_of_ble_eq_true rfl) (by omega) ?_
    rw [show (if ((6 : Nat) : Int) < 6 then ((6 : Nat) : Int) else 6) = 6 from rfl]
    refine ev_istoren_3 i246_21 rfl ?_
    refine ev_iloadn_2 i246_22 ?_
    refine ev_iloadn_3 i246_23 ?_
    refine ew_icmplt i246_24 (by omega) (fun c24 => ?_) (fun c24 => ?_)
    · refine ev_aloadn_0 i246_29 ?_
      refine ev_iloadn_1 i246_30 ?_
      refine ev_iloadn_2 i246_31 ?_
      refine ev_iloadn_3 i246_32 ?_
      refine ev_stat4 i246_33 g246_33 (by decide +kernel) (Nat.le_of_ble_eq_true rfl) (x_indexOfChar hc ?_)
      refine ev_ireturn i246_36 r246 ?_
      first | exact hK | exact zK hK (by omega)
    · exfalso; omega
  · exfalso; omega
theorem x_indexOf2 {c : Int} (hc : 0 ≤ c ∧ c ≤ 255) (hK : K (some (.int (zI (nmi c)))) (I, L, ts_P0 sw, ts_S0)) : ts_Cal X (d + 3) 242 [.ref 1004, .int (zI (c)), .int (zI (0))] (I, L, ts_P0 sw, ts_S0) K := by
  refine ev_enter (lv := [.ref 1004, .int (zI (c)), .int (zI (0))]) l242 rfl (Nat.le_of_ble_eq_true rfl) ?_
  refine ev_aloadn_0 i242_0 ?_
  refine ev_virtS0 i242_1 g242_1 (by decide +kernel) (by decide +kernel) (Nat.le_of_ble_eq_true rfl) (x_isLatin1 ?_)
  first
  | refine ew_ifeqB i242_4 (fun c4 => ?_) (fun c4 => ?_)
  | refine ew_ifeq i242_4 (by omega) (fun c4 => ?_) (fun c4 => ?_)
  · exfalso; omega
  · refine ev_aloadn_0 i242_7 ?_
    refine ev_getS i242_8 g242_8 ?_
    refine ev_iloadn_1 i242_11 ?_
    refine ev_iloadn_2 i242_12 ?_
    refine ev_aloadn_0 i242_13 ?_
    refine ev_virtS0 i242_14 g242_14 (by decide +kernel) (by decide +kernel) (Nat.le_of_ble_eq_true rfl) (x_slength ?_)
    refine ev_stat4 i242_17 g242_17 (by decide +kernel) (Nat.le_of_ble_eq_true rfl) (x_jindexOf hc ?_)
    refine ev_goto i242_20 ?_
    refine ev_ireturn i242_36 r242 ?_
    first | exact hK | exact zK hK (by omega)
theorem x_indexOf {c : Int} (hc : 0 ≤ c ∧ c ≤ 255) (hK : K (some (.int (zI (nmi c)))) (I, L, ts_P0 sw, ts_S0)) : ts_Cal X (d + 4) 241 [.ref 1004, .int (zI (c))] (I, L, ts_P0 sw, ts_S0) K := by
  refine ev_enter (lv := [.ref 1004, .int (zI (c))]) l241 rfl (Nat.le_of_ble_eq_true rfl) ?_
  refine ev_aloadn_0 i241_0 ?_
  refine ev_iloadn_1 i241_1 ?_
  refine ew_iconst i241_2 ?_
  refine ev_virtS2 i241_3 g241_3 (by decide +kernel) (by decide +kernel) (Nat.le_of_ble_eq_true rfl) (x_indexOf2 hc ?_)
  refine ev_ireturn i241_6 r241 ?_
  first | exact hK | exact zK hK (by omega)
end RD
