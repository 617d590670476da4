theorem i57_0 : ts_ins 57 0 = some (.iload_n 0, 1, 0) := by decide +kernel
theorem i57_1 : ts_ins 57 1 = some (.ifCond .lt 12, 4, 13) := by decide +kernel
theorem i57_4 : ts_ins 57 4 = some (.iload_n 0, 5, 0) := by decide +kernel
theorem i57_5 : ts_ins 57 5 = some (.iconst 4, 6, 0) := by decide +kernel
theorem i57_6 : ts_ins 57 6 = some (.if_icmp .gt 7, 9, 13) := by decide +kernel
theorem i57_9 : ts_ins 57 9 = some (.iconst 1, 10, 0) := by decide +kernel
theorem i57_10 : ts_ins 57 10 = some (.goto 4, 13, 14) := by decide +kernel
theorem i57_13 : ts_ins 57 13 = some (.iconst 0, 14, 0) := by decide +kernel
theorem i57_14 : ts_ins 57 14 = some (.ireturn, 15, 0) := by decide +kernel
theorem r57 : ts_rt 57 = ((some .boolean), 0, 0) := by decide +kernel
theorem l57 : ts_ml 57 = 1 := by decide +kernel
theorem i58_0 : ts_ins 58 0 = some (.aload_n 0, 1, 0) := by decide +kernel
theorem i58_1 : ts_ins 58 1 = some (.getfield 15, 4, 0) := by decide +kernel
theorem g58_1 : ts_fm 58 15 = some (7, 1, 0) := by decide +kernel
theorem i58_4 : ts_ins 58 4 = some (.ifCond .ne 7, 7, 11) := by decide +kernel
theorem i58_7 : ts_ins 58 7 = some (.iconst 1, 8, 0) := by decide +kernel
theorem i58_8 : ts_ins 58 8 = some (.goto 4, 11, 12) := by decide +kernel
theorem i58_11 : ts_ins 58 11 = some (.iconst 0, 12, 0) := by decide +kernel
theorem i58_12 : ts_ins 58 12 = some (.ireturn, 13, 0) := by decide +kernel
theorem r58 : ts_rt 58 = ((some .boolean), 0, 0) := by decide +kernel
theorem l58 : ts_ml 58 = 1 := by decide +kernel
theorem i59_0 : ts_ins 59 0 = some (.aload_n 0, 1, 0) := by decide +kernel
theorem i59_1 : ts_ins 59 1 = some (.getfield 15, 4, 0) := by decide +kernel
theorem g59_1 : ts_fm 59 15 = some (7, 1, 0) := by decide +kernel
theorem i59_4 : ts_ins 59 4 = some (.iconst 1, 5, 0) := by decide +kernel
theorem i59_5 : ts_ins 59 5 = some (.if_icmp .ne 7, 8, 12) := by decide +kernel
theorem i59_8 : ts_ins 59 8 = some (.iconst 1, 9, 0) := by decide +kernel
theorem i59_9 : ts_ins 59 9 = some (.goto 4, 12, 13) := by decide +kernel
theorem i59_12 : ts_ins 59 12 = some (.iconst 0, 13, 0) := by decide +kernel
theorem i59_13 : ts_ins 59 13 = some (.ireturn, 14, 0) := by decide +kernel
theorem r59 : ts_rt 59 = ((some .boolean), 0, 0) := by decide +kernel
theorem l59 : ts_ml 59 = 1 := by decide +kernel
theorem i60_0 : ts_ins 60 0 = some (.aload_n 0, 1, 0) := by decide +kernel
theorem i60_1 : ts_ins 60 1 = some (.getfield 15, 4, 0) := by decide +kernel
theorem g60_1 : ts_fm 60 15 = some (7, 1, 0) := by decide +kernel
theorem i60_4 : ts_ins 60 4 = some (.iconst 2, 5, 0) := by decide +kernel
theorem i60_5 : ts_ins 60 5 = some (.if_icmp .ne 7, 8, 12) := by decide +kernel
theorem i60_8 : ts_ins 60 8 = some (.iconst 1, 9, 0) := by decide +kernel
theorem i60_9 : ts_ins 60 9 = some (.goto 4, 12, 13) := by decide +kernel
theorem i60_12 : ts_ins 60 12 = some (.iconst 0, 13, 0) := by decide +kernel
theorem i60_13 : ts_ins 60 13 = some (.ireturn, 14, 0) := by decide +kernel
theorem r60 : ts_rt 60 = ((some .boolean), 0, 0) := by decide +kernel
theorem l60 : ts_ml 60 = 1 := by decide +kernel
theorem i64_0 : ts_ins 64 0 = some (.iload_n 1, 1, 0) := by decide +kernel
theorem i64_1 : ts_ins 64 1 = some (.ifCond .lt 29, 4, 30) := by decide +kernel
theorem i64_4 : ts_ins 64 4 = some (.iload_n 2, 5, 0) := by decide +kernel
theorem i64_5 : ts_ins 64 5 = some (.ifCond .lt 25, 8, 30) := by decide +kernel
theorem i64_8 : ts_ins 64 8 = some (.iload_n 2, 9, 0) := by decide +kernel
theorem i64_9 : ts_ins 64 9 = some (.aload_n 0, 10, 0) := by decide +kernel
theorem i64_10 : ts_ins 64 10 = some (.getfield 25, 13, 0) := by decide +kernel
theorem g64_10 : ts_fm 64 25 = some (7, 4, 0) := by decide +kernel
theorem i64_13 : ts_ins 64 13 = some (.if_icmp .gt 17, 16, 30) := by decide +kernel
theorem i64_16 : ts_ins 64 16 = some (.iload_n 1, 17, 0) := by decide +kernel
theorem i64_17 : ts_ins 64 17 = some (.aload_n 0, 18, 0) := by decide +kernel
theorem i64_18 : ts_ins 64 18 = some (.getfield 25, 21, 0) := by decide +kernel
theorem g64_18 : ts_fm 64 25 = some (7, 4, 0) := by decide +kernel
theorem i64_21 : ts_ins 64 21 = some (.iload_n 2, 22, 0) := by decide +kernel
theorem i64_22 : ts_ins 64 22 = some (.isub, 23, 0) := by decide +kernel
theorem i64_23 : ts_ins 64 23 = some (.if_icmp .gt 7, 26, 30) := by decide +kernel
theorem i64_26 : ts_ins 64 26 = some (.iconst 1, 27, 0) := by decide +kernel
theorem i64_27 : ts_ins 64 27 = some (.goto 4, 30, 31) := by decide +kernel
theorem i64_30 : ts_ins 64 30 = some (.iconst 0, 31, 0) := by decide +kernel
theorem i64_31 : ts_ins 64 31 = some (.ireturn, 32, 0) := by decide +kernel
theorem r64 : ts_rt 64 = ((some .boolean), 0, 0) := by decide +kernel
theorem l64 : ts_ml 64 = 3 := by decide +kernel
theorem i141_0 : ts_ins 141 0 = some (.iload_n 1, 1, 0) := by decide +kernel
theorem i141_1 : ts_ins 141 1 = some (.invokestatic 358, 4, 0) := by decide +kernel
theorem g141_1 : ts_cal (ts_mc 141) 358 = some (1, 138, 1) := by decide +kernel
theorem i141_4 : ts_ins 141 4 = some (.ifCond .ne 5, 7, 9) := by decide +kernel
theorem i141_7 : ts_ins 141 7 = some (.iconst (-1), 8, 0) := by decide +kernel
theorem i141_8 : ts_ins 141 8 = some (.ireturn, 9, 0) := by decide +kernel
theorem i141_9 : ts_ins 141 9 = some (.aload_n 0, 10, 0) := by decide +kernel
theorem i141_10 : ts_ins 141 10 = some (.getfield 87, 13, 0) := by decide +kernel
theorem g141_10 : ts_fm 141 87 = some (11, 12, 2) := by decide +kernel
theorem i141_13 : ts_ins 141 13 = some (.iload_n 1, 14, 0) := by decide +kernel
theorem i141_14 : ts_ins 141 14 = some (.aaload, 15, 0) := by decide +kernel
theorem i141_15 : ts_ins 141 15 = some (.astore_n 2, 16, 0) := by decide +kernel
theorem i141_16 : ts_ins 141 16 = some (.aload_n 2, 17, 0) := by decide +kernel
theorem i141_17 : ts_ins 141 17 = some (.invokevirtual 388, 20, 0) := by decide +kernel
theorem g141_17 : ts_cal (ts_mc 141) 388 = some (0, 58, 0) := by decide +kernel
theorem i141_20 : ts_ins 141 20 = some (.ifCond .eq 6, 23, 26) := by decide +kernel
theorem i141_23 : ts_ins 141 23 = some (.bipush (-11), 25, 0) := by decide +kernel
theorem i141_25 : ts_ins 141 25 = some (.ireturn, 26, 0) := by decide +kernel
theorem i141_26 : ts_ins 141 26 = some (.aload_n 2, 27, 0) := by decide +kernel
theorem i141_27 : ts_ins 141 27 = some (.invokevirtual 391, 30, 0) := by decide +kernel
theorem g141_27 : ts_cal (ts_mc 141) 391 = some (0, 60, 0) := by decide +kernel
theorem i141_30 : ts_ins 141 30 = some (.ifCond .eq 14, 33, 44) := by decide +kernel
theorem i141_33 : ts_ins 141 33 = some (.aload_n 2, 34, 0) := by decide +kernel
theorem i141_34 : ts_ins 141 34 = some (.getfield 394, 37, 0) := by decide +kernel
theorem g141_34 : ts_fm 141 394 = some (7, 3, 0) := by decide +kernel
theorem i141_37 : ts_ins 141 37 = some (.ifCond .ne 7, 40, 44) := by decide +kernel
theorem i141_40 : ts_ins 141 40 = some (.iconst 0, 41, 0) := by decide +kernel
theorem i141_41 : ts_ins 141 41 = some (.goto 5, 44, 46) := by decide +kernel
theorem i141_44 : ts_ins 141 44 = some (.bipush (-12), 46, 0) := by decide +kernel
theorem i141_46 : ts_ins 141 46 = some (.ireturn, 47, 0) := by decide +kernel
theorem r141 : ts_rt 141 = ((some .int), 0, 0) := by decide +kernel
theorem l141 : ts_ml 141 = 3 := by decide +kernel
theorem i142_0 : ts_ins 142 0 = some (.iload_n 1, 1, 0) := by decide +kernel
theorem i142_1 : ts_ins 142 1 = some (.invokestatic 358, 4, 0) := by decide +kernel
theorem g142_1 : ts_cal (ts_mc 142) 358 = some (1, 138, 1) := by decide +kernel
theorem i142_4 : ts_ins 142 4 = some (.ifCond .ne 5, 7, 9) := by decide +kernel
theorem i142_7 : ts_ins 142 7 = some (.iconst (-1), 8, 0) := by decide +kernel
theorem i142_8 : ts_ins 142 8 = some (.ireturn, 9, 0) := by decide +kernel
theorem i142_9 : ts_ins 142 9 = some (.aload_n 0, 10, 0) := by decide +kernel
theorem i142_10 : ts_ins 142 10 = some (.getfield 87, 13, 0) := by decide +kernel
theorem g142_10 : ts_fm 142 87 = some (11, 12, 2) := by decide +kernel
theorem i142_13 : ts_ins 142 13 = some (.iload_n 1, 14, 0) := by decide +kernel
theorem i142_14 : ts_ins 142 14 = some (.aaload, 15, 0) := by decide +kernel
theorem i142_15 : ts_ins 142 15 = some (.astore_n 3, 16, 0) := by decide +kernel
theorem i142_16 : ts_ins 142 16 = some (.aload_n 3, 17, 0) := by decide +kernel
theorem i142_17 : ts_ins 142 17 = some (.invokevirtual 388, 20, 0) := by decide +kernel
theorem g142_17 : ts_cal (ts_mc 142) 388 = some (0, 58, 0) := by decide +kernel
theorem i142_20 : ts_ins 142 20 = some (.ifCond .eq 6, 23, 26) := by decide +kernel
theorem i142_23 : ts_ins 142 23 = some (.bipush (-11), 25, 0) := by decide +kernel
theorem i142_25 : ts_ins 142 25 = some (.ireturn, 26, 0) := by decide +kernel
theorem i142_26 : ts_ins 142 26 = some (.aload_n 3, 27, 0) := by decide +kernel
theorem i142_27 : ts_ins 142 27 = some (.invokevirtual 391, 30, 0) := by decide +kernel
theorem g142_27 : ts_cal (ts_mc 142) 391 = some (0, 60, 0) := by decide +kernel
theorem i142_30 : ts_ins 142 30 = some (.ifCond .ne 6, 33, 36) := by decide +kernel
theorem i142_33 : ts_ins 142 33 = some (.bipush (-12), 35, 0) := by decide +kernel
theorem i142_35 : ts_ins 142 35 = some (.ireturn, 36, 0) := by decide +kernel
theorem i142_36 : ts_ins 142 36 = some (.aload_n 3, 37, 0) := by decide +kernel
theorem i142_37 : ts_ins 142 37 = some (.iload_n 2, 38, 0) := by decide +kernel
theorem i142_38 : ts_ins 142 38 = some (.iconst 1, 39, 0) := by decide +kernel
theorem i142_39 : ts_ins 142 39 = some (.invokevirtual 397, 42, 0) := by decide +kernel
theorem g142_39 : ts_cal (ts_mc 142) 397 = some (0, 64, 2) := by decide +kernel
theorem i142_42 : ts_ins 142 42 = some (.ifCond .eq 7, 45, 49) := by decide +kernel
theorem i142_45 : ts_ins 142 45 = some (.iconst 0, 46, 0) := by decide +kernel
theorem i142_46 : ts_ins 142 46 = some (.goto 5, 49, 51) := by decide +kernel
theorem i142_49 : ts_ins 142 49 = some (.bipush (-13), 51, 0) := by decide +kernel
theorem i142_51 : ts_ins 142 51 = some (.ireturn, 52, 0) := by decide +kernel
theorem r142 : ts_rt 142 = ((some .int), 0, 0) := by decide +kernel
theorem l142 : ts_ml 142 = 4 := by decide +kernel
theorem i153_0 : ts_ins 153 0 = some (.iload_n 1, 1, 0) := by decide +kernel
theorem i153_1 : ts_ins 153 1 = some (.invokestatic 111, 4, 0) := by decide +kernel
theorem g153_1 : ts_cal (ts_mc 153) 111 = some (1, 228, 1) := by decide +kernel
theorem i153_4 : ts_ins 153 4 = some (.ifCond .ne 7, 7, 11) := by decide +kernel
theorem i153_7 : ts_ins 153 7 = some (.iconst (-1), 8, 0) := by decide +kernel
theorem i153_8 : ts_ins 153 8 = some (.goto 34, 11, 42) := by decide +kernel
theorem i153_11 : ts_ins 153 11 = some (.aload_n 0, 12, 0) := by decide +kernel
theorem i153_12 : ts_ins 153 12 = some (.getfield 70, 15, 0) := by decide +kernel
theorem g153_12 : ts_fm 153 70 = some (12, 38, 2) := by decide +kernel
theorem i153_15 : ts_ins 153 15 = some (.iload_n 1, 16, 0) := by decide +kernel
theorem i153_16 : ts_ins 153 16 = some (.iaload, 17, 0) := by decide +kernel
theorem i153_17 : ts_ins 153 17 = some (.ifCond .ge 8, 20, 25) := by decide +kernel
theorem i153_20 : ts_ins 153 20 = some (.bipush (-11), 22, 0) := by decide +kernel
theorem i153_22 : ts_ins 153 22 = some (.goto 20, 25, 42) := by decide +kernel
theorem i153_25 : ts_ins 153 25 = some (.aload_n 0, 26, 0) := by decide +kernel
theorem i153_26 : ts_ins 153 26 = some (.getfield 70, 29, 0) := by decide +kernel
theorem g153_26 : ts_fm 153 70 = some (12, 38, 2) := by decide +kernel
theorem i153_29 : ts_ins 153 29 = some (.iload_n 1, 30, 0) := by decide +kernel
theorem i153_30 : ts_ins 153 30 = some (.iaload, 31, 0) := by decide +kernel
theorem i153_31 : ts_ins 153 31 = some (.bipush 50, 33, 0) := by decide +kernel
theorem i153_33 : ts_ins 153 33 = some (.if_icmp .ne 7, 36, 40) := by decide +kernel
theorem i153_36 : ts_ins 153 36 = some (.iconst 1, 37, 0) := by decide +kernel
theorem i153_37 : ts_ins 153 37 = some (.goto 5, 40, 42) := by decide +kernel
theorem i153_40 : ts_ins 153 40 = some (.bipush (-12), 42, 0) := by decide +kernel
theorem i153_42 : ts_ins 153 42 = some (.ireturn, 43, 0) := by decide +kernel
theorem r153 : ts_rt 153 = ((some .int), 0, 0) := by decide +kernel
theorem l153 : ts_ml 153 = 2 := by decide +kernel
theorem i231_0 : ts_ins 231 0 = some (.iload_n 1, 1, 0) := by decide +kernel
theorem i231_1 : ts_ins 231 1 = some (.invokestatic 111, 4, 0) := by decide +kernel
theorem g231_1 : ts_cal (ts_mc 231) 111 = some (1, 228, 1) := by decide +kernel
theorem i231_4 : ts_ins 231 4 = some (.ifCond .ne 5, 7, 9) := by decide +kernel
theorem i231_7 : ts_ins 231 7 = some (.iconst (-1), 8, 0) := by decide +kernel
theorem i231_8 : ts_ins 231 8 = some (.ireturn, 9, 0) := by decide +kernel
theorem i231_9 : ts_ins 231 9 = some (.aload_n 0, 10, 0) := by decide +kernel
theorem i231_10 : ts_ins 231 10 = some (.getfield 70, 13, 0) := by decide +kernel
theorem g231_10 : ts_fm 231 70 = some (12, 38, 2) := by decide +kernel
theorem i231_13 : ts_ins 231 13 = some (.iload_n 1, 14, 0) := by decide +kernel
theorem i231_14 : ts_ins 231 14 = some (.iaload, 15, 0) := by decide +kernel
theorem i231_15 : ts_ins 231 15 = some (.ifCond .ge 6, 18, 21) := by decide +kernel
theorem i231_18 : ts_ins 231 18 = some (.bipush (-11), 20, 0) := by decide +kernel
theorem i231_20 : ts_ins 231 20 = some (.ireturn, 21, 0) := by decide +kernel
theorem i231_21 : ts_ins 231 21 = some (.aload_n 0, 22, 0) := by decide +kernel
theorem i231_22 : ts_ins 231 22 = some (.getfield 70, 25, 0) := by decide +kernel
theorem g231_22 : ts_fm 231 70 = some (12, 38, 2) := by decide +kernel
theorem i231_25 : ts_ins 231 25 = some (.iload_n 1, 26, 0) := by decide +kernel
theorem i231_26 : ts_ins 231 26 = some (.iaload, 27, 0) := by decide +kernel
theorem i231_27 : ts_ins 231 27 = some (.bipush 50, 29, 0) := by decide +kernel
theorem i231_29 : ts_ins 231 29 = some (.if_icmp .ge 6, 32, 35) := by decide +kernel
theorem i231_32 : ts_ins 231 32 = some (.bipush (-12), 34, 0) := by decide +kernel
theorem i231_34 : ts_ins 231 34 = some (.ireturn, 35, 0) := by decide +kernel
theorem i231_35 : ts_ins 231 35 = some (.iload_n 2, 36, 0) := by decide +kernel
theorem i231_36 : ts_ins 231 36 = some (.ifCond .lt 17, 39, 53) := by decide +kernel
theorem i231_39 : ts_ins 231 39 = some (.iload_n 2, 40, 0) := by decide +kernel
theorem i231_40 : ts_ins 231 40 = some (.aload_n 0, 41, 0) := by decide +kernel
theorem i231_41 : ts_ins 231 41 = some (.getfield 73, 44, 0) := by decide +kernel
theorem g231_41 : ts_fm 231 73 = some (12, 39, 2) := by decide +kernel
theorem i231_44 : ts_ins 231 44 = some (.iload_n 1, 45, 0) := by decide +kernel
theorem i231_45 : ts_ins 231 45 = some (.iaload, 46, 0) := by decide +kernel
theorem i231_46 : ts_ins 231 46 = some (.if_icmp .ge 7, 49, 53) := by decide +kernel
theorem i231_49 : ts_ins 231 49 = some (.iconst 0, 50, 0) := by decide +kernel
theorem i231_50 : ts_ins 231 50 = some (.goto 5, 53, 55) := by decide +kernel
theorem i231_53 : ts_ins 231 53 = some (.bipush (-13), 55, 0) := by decide +kernel
theorem i231_55 : ts_ins 231 55 = some (.ireturn, 56, 0) := by decide +kernel
theorem r231 : ts_rt 231 = ((some .int), 0, 0) := by decide +kernel
theorem l231 : ts_ml 231 = 3 := by decide +kernel
theorem i133_0 : ts_ins 133 0 = some (.aload_n 0, 1, 0) := by decide +kernel
theorem i133_1 : ts_ins 133 1 = some (.iload_n 1, 2, 0) := by decide +kernel
theorem i133_2 : ts_ins 133 2 = some (.iload_n 2, 3, 0) := by decide +kernel
theorem i133_3 : ts_ins 133 3 = some (.invokevirtual 377, 6, 0) := by decide +kernel
theorem g133_3 : ts_cal (ts_mc 133) 377 = some (0, 142, 2) := by decide +kernel
theorem i133_6 : ts_ins 133 6 = some (.ifCond .eq 7, 9, 13) := by decide +kernel
theorem i133_9 : ts_ins 133 9 = some (.ldc2_w 206, 12, 0) := by decide +kernel
theorem g133_9 : ts_lc (ts_mc 133) 206 = some (.long (-9223372036854775808)) := by decide +kernel
theorem i133_12 : ts_ins 133 12 = some (.lreturn, 13, 0) := by decide +kernel
theorem i133_13 : ts_ins 133 13 = some (.aload_n 0, 14, 0) := by decide +kernel
theorem i133_14 : ts_ins 133 14 = some (.getfield 87, 17, 0) := by decide +kernel
theorem g133_14 : ts_fm 133 87 = some (11, 12, 2) := by decide +kernel
theorem i133_17 : ts_ins 133 17 = some (.iload_n 1, 18, 0) := by decide +kernel
theorem i133_18 : ts_ins 133 18 = some (.aaload, 19, 0) := by decide +kernel
theorem i133_19 : ts_ins 133 19 = some (.getfield 384, 22, 0) := by decide +kernel
theorem g133_19 : ts_fm 133 384 = some (7, 0, 2) := by decide +kernel
theorem i133_22 : ts_ins 133 22 = some (.iload_n 2, 23, 0) := by decide +kernel
theorem i133_23 : ts_ins 133 23 = some (.laload, 24, 0) := by decide +kernel
theorem i133_24 : ts_ins 133 24 = some (.lreturn, 25, 0) := by decide +kernel
theorem r133 : ts_rt 133 = ((some .long), 0, 0) := by decide +kernel
theorem l133 : ts_ml 133 = 3 := by decide +kernel
theorem i234_0 : ts_ins 234 0 = some (.aload_n 0, 1, 0) := by decide +kernel
theorem i234_1 : ts_ins 234 1 = some (.iload_n 1, 2, 0) := by decide +kernel
theorem i234_2 : ts_ins 234 2 = some (.iload_n 2, 3, 0) := by decide +kernel
theorem i234_3 : ts_ins 234 3 = some (.invokevirtual 324, 6, 0) := by decide +kernel
theorem g234_3 : ts_cal (ts_mc 234) 324 = some (0, 231, 2) := by decide +kernel
theorem i234_6 : ts_ins 234 6 = some (.ifCond .eq 9, 9, 15) := by decide +kernel
theorem i234_9 : ts_ins 234 9 = some (.ldc2_w 236, 12, 0) := by decide +kernel
theorem g234_9 : ts_lc (ts_mc 234) 236 = some (.long (-9223372036854775808)) := by decide +kernel
theorem i234_12 : ts_ins 234 12 = some (.goto 14, 15, 26) := by decide +kernel
theorem i234_15 : ts_ins 234 15 = some (.aload_n 0, 16, 0) := by decide +kernel
theorem i234_16 : ts_ins 234 16 = some (.getfield 76, 19, 0) := by decide +kernel
theorem g234_16 : ts_fm 234 76 = some (12, 40, 2) := by decide +kernel
theorem i234_19 : ts_ins 234 19 = some (.bipush 60, 21, 0) := by decide +kernel
theorem i234_21 : ts_ins 234 21 = some (.iload_n 1, 22, 0) := by decide +kernel
theorem i234_22 : ts_ins 234 22 = some (.imul, 23, 0) := by decide +kernel
theorem i234_23 : ts_ins 234 23 = some (.iload_n 2, 24, 0) := by decide +kernel
theorem i234_24 : ts_ins 234 24 = some (.iadd, 25, 0) := by decide +kernel
theorem i234_25 : ts_ins 234 25 = some (.laload, 26, 0) := by decide +kernel
theorem i234_26 : ts_ins 234 26 = some (.lreturn, 27, 0) := by decide +kernel
theorem r234 : ts_rt 234 = ((some .long), 0, 0) := by decide +kernel
theorem l234 : ts_ml 234 = 3 := by decide +kernel
theorem i61_0 : ts_ins 61 0 = some (.aload_n 0, 1, 0) := by decide +kernel
theorem i61_1 : ts_ins 61 1 = some (.iconst 0, 2, 0) := by decide +kernel
theorem i61_2 : ts_ins 61 2 = some (.putfield 15, 5, 0) := by decide +kernel
theorem g61_2 : ts_fmm 61 15 = some (7, 1, 0, false) := by decide +kernel
theorem i61_5 : ts_ins 61 5 = some (.aload_n 0, 6, 0) := by decide +kernel
theorem i61_6 : ts_ins 61 6 = some (.iconst 0, 7, 0) := by decide +kernel
theorem i61_7 : ts_ins 61 7 = some (.putfield 25, 10, 0) := by decide +kernel
theorem g61_7 : ts_fmm 61 25 = some (7, 4, 0, false) := by decide +kernel
theorem i61_10 : ts_ins 61 10 = some (.return_, 11, 0) := by decide +kernel
theorem r61 : ts_rt 61 = (none, 0, 0) := by decide +kernel
theorem l61 : ts_ml 61 = 1 := by decide +kernel
theorem i62_0 : ts_ins 62 0 = some (.aload_n 0, 1, 0) := by decide +kernel
theorem i62_1 : ts_ins 62 1 = some (.iconst 1, 2, 0) := by decide +kernel
theorem i62_2 : ts_ins 62 2 = some (.putfield 15, 5, 0) := by decide +kernel
theorem g62_2 : ts_fmm 62 15 = some (7, 1, 0, false) := by decide +kernel
theorem i62_5 : ts_ins 62 5 = some (.aload_n 0, 6, 0) := by decide +kernel
theorem i62_6 : ts_ins 62 6 = some (.iload_n 1, 7, 0) := by decide +kernel
theorem i62_7 : ts_ins 62 7 = some (.putfield 19, 10, 0) := by decide +kernel
theorem g62_7 : ts_fmm 62 19 = some (7, 2, 0, false) := by decide +kernel
theorem i62_10 : ts_ins 62 10 = some (.aload_n 0, 11, 0) := by decide +kernel
theorem i62_11 : ts_ins 62 11 = some (.iconst 0, 12, 0) := by decide +kernel
theorem i62_12 : ts_ins 62 12 = some (.putfield 25, 15, 0) := by decide +kernel
theorem g62_12 : ts_fmm 62 25 = some (7, 4, 0, false) := by decide +kernel
theorem i62_15 : ts_ins 62 15 = some (.return_, 16, 0) := by decide +kernel
theorem r62 : ts_rt 62 = (none, 0, 0) := by decide +kernel
theorem l62 : ts_ml 62 = 2 := by decide +kernel
theorem i130_0 : ts_ins 130 0 = some (.iload_n 1, 1, 0) := by decide +kernel
theorem i130_1 : ts_ins 130 1 = some (.invokestatic 358, 4, 0) := by decide +kernel
theorem g130_1 : ts_cal (ts_mc 130) 358 = some (1, 138, 1) := by decide +kernel
theorem i130_4 : ts_ins 130 4 = some (.ifCond .eq 19, 7, 23) := by decide +kernel
theorem i130_7 : ts_ins 130 7 = some (.iload_n 2, 8, 0) := by decide +kernel
theorem i130_8 : ts_ins 130 8 = some (.iconst (-1), 9, 0) := by decide +kernel
theorem i130_9 : ts_ins 130 9 = some (.if_icmp .lt 14, 12, 23) := by decide +kernel
theorem i130_12 : ts_ins 130 12 = some (.iload_n 2, 13, 0) := by decide +kernel
theorem i130_13 : ts_ins 130 13 = some (.aload_n 0, 14, 0) := by decide +kernel
theorem i130_14 : ts_ins 130 14 = some (.getfield 81, 17, 0) := by decide +kernel
theorem g130_14 : ts_fm 130 81 = some (11, 11, 2) := by decide +kernel
theorem i130_17 : ts_ins 130 17 = some (.getfield 361, 20, 0) := by decide +kernel
theorem g130_17 : ts_fm 130 361 = some (2, 2, 0) := by decide +kernel
theorem i130_20 : ts_ins 130 20 = some (.if_icmp .lt 5, 23, 25) := by decide +kernel
theorem i130_23 : ts_ins 130 23 = some (.iconst (-1), 24, 0) := by decide +kernel
theorem i130_24 : ts_ins 130 24 = some (.ireturn, 25, 0) := by decide +kernel
theorem i130_25 : ts_ins 130 25 = some (.iload_n 2, 26, 0) := by decide +kernel
theorem i130_26 : ts_ins 130 26 = some (.iconst (-1), 27, 0) := by decide +kernel
theorem i130_27 : ts_ins 130 27 = some (.if_icmp .ne 15, 30, 42) := by decide +kernel
theorem i130_30 : ts_ins 130 30 = some (.aload_n 0, 31, 0) := by decide +kernel
theorem i130_31 : ts_ins 130 31 = some (.getfield 87, 34, 0) := by decide +kernel
theorem g130_31 : ts_fm 130 87 = some (11, 12, 2) := by decide +kernel
theorem i130_34 : ts_ins 130 34 = some (.iload_n 1, 35, 0) := by decide +kernel
theorem i130_35 : ts_ins 130 35 = some (.aaload, 36, 0) := by decide +kernel
theorem i130_36 : ts_ins 130 36 = some (.invokevirtual 364, 39, 0) := by decide +kernel
theorem g130_36 : ts_cal (ts_mc 130) 364 = some (0, 61, 0) := by decide +kernel
theorem i130_39 : ts_ins 130 39 = some (.goto 13, 42, 52) := by decide +kernel
theorem i130_42 : ts_ins 130 42 = some (.aload_n 0, 43, 0) := by decide +kernel
theorem i130_43 : ts_ins 130 43 = some (.getfield 87, 46, 0) := by decide +kernel
theorem g130_43 : ts_fm 130 87 = some (11, 12, 2) := by decide +kernel
theorem i130_46 : ts_ins 130 46 = some (.iload_n 1, 47, 0) := by decide +kernel
theorem i130_47 : ts_ins 130 47 = some (.aaload, 48, 0) := by decide +kernel
theorem i130_48 : ts_ins 130 48 = some (.iload_n 2, 49, 0) := by decide +kernel
theorem i130_49 : ts_ins 130 49 = some (.invokevirtual 367, 52, 0) := by decide +kernel
theorem g130_49 : ts_cal (ts_mc 130) 367 = some (0, 62, 1) := by decide +kernel
theorem i130_52 : ts_ins 130 52 = some (.iconst 1, 53, 0) := by decide +kernel
theorem i130_53 : ts_ins 130 53 = some (.ireturn, 54, 0) := by decide +kernel
theorem r130 : ts_rt 130 = ((some .int), 0, 0) := by decide +kernel
theorem l130 : ts_ml 130 = 3 := by decide +kernel
/-! SHELVES: sh (-1 nothing, 0 .. 49 a flail, 50 .. 54 a row of sort 0 .. 4), many, items -/
abbrev ts_Sh : Type := (Int → Int) × (Int → Int) × (Int → Int → Int)
def s_holds (v : Int) : Int := if v < 0 then 0 else if v < 50 then 1 else 2
/-- what the class holds -/
def RXs (I : Nat → Nat → Int32) (L : Nat → Nat → Int64) (s : ts_Sh) : Prop := ∀ q : Nat, q < 6 →
  rd (I (60 + 2 * q) 1) 0 2 (s_holds (s.1 q)) ∧
  (0 ≤ s.1 q → s.1 q < 50 → rd (I (60 + 2 * q) 2) 0 49 (s.1 q)) ∧
  (50 ≤ s.1 q → rd (I (60 + 2 * q) 3) 0 4 (s.1 q - 50)) ∧
  rd (I (60 + 2 * q) 4) 0 60 (s.2.1 q) ∧
  (∀ k : Int, 0 ≤ k → k < 60 → rl (L (61 + 2 * q) k.toNat) (-9223372036854775808) 9223372036854775807 (s.2.2 q k))
/-- what the reference holds -/
def RMs (I : Nat → Nat → Int32) (L : Nat → Nat → Int64) (s : ts_Sh) : Prop :=
  ar I 93 6 (-1) 54 s.1 ∧ ar I 94 6 0 60 s.2.1 ∧ (∀ q : Int, 0 ≤ q → q < 6 → ∀ k : Int, 0 ≤ k → k < 60 → rl (L 95 (60 * q + k).toNat) (-9223372036854775808) 9223372036854775807 (s.2.2 q k))
/-- a row of bytes holds bytes -/
def ROs (s : ts_Sh) : Prop := ∀ q : Int, 0 ≤ q → q < 6 → -1 ≤ s.1 q ∧ s.1 q ≤ 54 ∧ (s.1 q < 50 → s.2.1 q = 0) ∧ (s.1 q = 50 → ∀ k : Int, 0 ≤ k → k < 60 → -128 ≤ s.2.2 q k ∧ s.2.2 q k ≤ 127)
section SH0
variable {I J : Nat → Nat → Int32} {L M : Nat → Nat → Int64} {s : ts_Sh} {q : Nat} {sw : Bool}
theorem RXs.holds (h : RXs I L s) (hq : q < 6) : rd (I (60 + 2 * q) 1) 0 2 (s_holds (s.1 q)) := (h q hq).1
theorem RXs.flail (h : RXs I L s) (hq : q < 6) (h0 : 0 ≤ s.1 q ∧ s.1 q < 50) : rd (I (60 + 2 * q) 2) 0 49 (s.1 q) := (h q hq).2.1 h0.1 h0.2
theorem RXs.sort (h : RXs I L s) (hq : q < 6) (h0 : 50 ≤ s.1 q) : rd (I (60 + 2 * q) 3) 0 4 (s.1 q - 50) := (h q hq).2.2.1 h0
theorem RXs.size (h : RXs I L s) (hq : q < 6) : rd (I (60 + 2 * q) 4) 0 60 (s.2.1 q) := (h q hq).2.2.2.1
theorem RXs.it (h : RXs I L s) (hq : q < 6) {k : Int} (h0 : 0 ≤ k) (h1 : k < 60) : rl (L (61 + 2 * q) k.toNat) (-9223372036854775808) 9223372036854775807 (s.2.2 q k) := (h q hq).2.2.2.2 k h0 h1
theorem RXs.co (h : RXs I L s) (e : ∀ a, 60 ≤ a → a ≤ 71 → J a = I a ∧ M a = L a) : RXs J M s := by
  intro q hq
  have e1 := (e (60 + 2 * q) (by omega) (by omega)).1
  have e2 := (e (61 + 2 * q) (by omega) (by omega)).2
  rw [e1, e2]
  exact h q hq
theorem RMs.co (h : RMs I L s) (e : ∀ a, 93 ≤ a → a ≤ 95 → J a = I a ∧ M a = L a) : RMs J M s := by
  refine ⟨ar_co h.1 (e 93 (by decide) (by decide)).1, ar_co h.2.1 (e 94 (by decide) (by decide)).1, ?_⟩
  rw [(e 95 (by decide) (by decide)).2]
  exact h.2.2
theorem she_I (hq : q < 6) : ts_isI ts_S0 (60 + 2 * q) 7 = true := (by decide : ∀ q, q < 6 → ts_isI ts_S0 (60 + 2 * q) 7 = true) q hq
theorem she_R {y : Nat} (hq : q < 6) (hy : ts_mc y = 7) : ts_rcv ts_S0 (60 + 2 * q) y = true := by unfold ts_rcv; rw [hy, she_I hq]; rfl
theorem she_P (hq : q < 6) : ts_pg (ts_P0 sw) (60 + 2 * q) 0 = some (61 + 2 * q) := by cases sw <;> exact (by decide : ∀ q, q < 6 → ts_pg (ts_P0 _) (60 + 2 * q) 0 = some (61 + 2 * q)) q hq
theorem she_A (hq : q < 6) : ts_sA ts_S0 (61 + 2 * q) = some (1, 60) := (by decide : ∀ q, q < 6 → ts_sA ts_S0 (61 + 2 * q) = some (1, 60)) q hq
theorem she_L {X : ts_X} (hq : q < 6) : ts_al X ts_S0 (61 + 2 * q) = some 60 := (by decide : ∀ q, q < 6 → (match ts_sh ts_S0 (61 + 2 * q) with | some (k, n) => bif Nat.blt k 4 then some n else none | _ => none) = some 60 ∧ Nat.blt (61 + 2 * q) 1000 = true) q hq |> fun h => by unfold ts_al; rw [h.2]; exact h.1
/-- shelf d of the class -/
theorem she_S {d : Int} (h0 : 0 ≤ d) (h1 : d < 6) : ts_pg (ts_P0 sw) 59 d.toNat = some (60 + 2 * d.toNat) := by cases sw <;> exact (by decide : ∀ q, q < 6 → ts_pg (ts_P0 _) 59 q = some (60 + 2 * q)) d.toNat (by omega)
theorem she_Sq (hq : q < 6) : ts_pg (ts_P0 sw) 59 ((q : Int)).toNat = some (60 + 2 * q) := she_S (d := (q : Int)) (by omega) (by omega)
theorem s_holds_0 {v : Int} : s_holds v = 0 ↔ v < 0 := by unfold s_holds; omega
theorem s_holds_1 {v : Int} : s_holds v = 1 ↔ 0 ≤ v ∧ v < 50 := by unfold s_holds; omega
theorem s_holds_2 {v : Int} : s_holds v = 2 ↔ 50 ≤ v := by unfold s_holds; omega
end SH0
section SH1
variable {X : ts_X} {I : Nat → Nat → Int32} {L : Nat → Nat → Int64} {sw : Bool} {K : Option Value → ts_H → Prop} {d : Nat} {s : ts_Sh} {q : Nat}
theorem x_isSort {x : Int} (hx : -2147483648 ≤ x ∧ x ≤ 2147483647) (hK : K (some (.int (zI (if 0 ≤ x ∧ x < 5 then 1 else 0)))) (I, L, ts_P0 sw, ts_S0)) : ts_Cal X (d + 1) 57 [.int (zI (x))] (I, L, ts_P0 sw, ts_S0) K := by
  refine ev_enter (lv := [.int (zI (x))]) l57 rfl (Nat.le_of_ble_eq_true rfl) ?_
  refine ev_iloadn_0 i57_0 ?_
  refine ew_iflt i57_1 (by omega) (fun c1 => ?_) (fun c1 => ?_)
  · refine ew_iconst i57_13 ?_
    exact ew_zreturn i57_14 r57 (by omega) hK
  · refine ev_iloadn_0 i57_4 ?_
    refine ew_iconst i57_5 ?_
    refine ew_icmpgt i57_6 (by omega) (fun c6 => ?_) (fun c6 => ?_)
    · refine ew_iconst i57_13 ?_
      exact ew_zreturn i57_14 r57 (by omega) hK
    · refine ew_iconst i57_9 ?_
      refine ev_goto i57_10 ?_
      exact ew_zreturn i57_14 r57 (by omega) hK
theorem x_isEmpty (hS : RXs I L s) (hq : q < 6) (hK : K (some (.int (zI (if s.1 q < 0 then 1 else 0)))) (I, L, ts_P0 sw, ts_S0)) : ts_Cal X (d + 1) 58 [.ref (60 + 2 * q)] (I, L, ts_P0 sw, ts_S0) K := by
  have e := s_holds_0 (v := s.1 q)
  refine ev_enter (lv := [.ref (60 + 2 * q)]) l58 rfl (Nat.le_of_ble_eq_true rfl) ?_
  refine ev_aloadn_0 i58_0 ?_
  refine ew_getI i58_1 g58_1 (she_I hq) (by first | exact hS.holds hq | exact hX.men | exact hX.told | exact hX.road | exact hX.tone _ (by omega) (by omega) | exact hX.corn _ (by omega) (by omega) | exact hX.stand _ (by omega) (by omega) | exact hX.reach _ (by omega) (by omega) | exact hX.arm _ (by omega) (by omega) | exact hX.late _ (by omega) (by omega) | exact hX.len _ (by omega) (by omega) | exact hX.say (by omega) (by omega) _ (by omega) (by omega)) (fun b1 => ?_)
  first
  | refine ew_ifneB i58_4 (fun c4 => ?_) (fun c4 => ?_)
  | refine ew_ifne i58_4 (by omega) (fun c4 => ?_) (fun c4 => ?_)
  · refine ew_iconst i58_11 ?_
    exact ew_zreturn i58_12 r58 (by omega) hK
  · refine ew_iconst i58_7 ?_
    refine ev_goto i58_8 ?_
    exact ew_zreturn i58_12 r58 (by omega) hK
theorem x_isFlail (hS : RXs I L s) (hq : q < 6) (hK : K (some (.int (zI (if 0 ≤ s.1 q ∧ s.1 q < 50 then 1 else 0)))) (I, L, ts_P0 sw, ts_S0)) : ts_Cal X (d + 1) 59 [.ref (60 + 2 * q)] (I, L, ts_P0 sw, ts_S0) K := by
  have e := s_holds_1 (v := s.1 q)
  refine ev_enter (lv := [.ref (60 + 2 * q)]) l59 rfl (Nat.le_of_ble_eq_true rfl) ?_
  refine ev_aloadn_0 i59_0 ?_
  refine ew_getI i59_1 g59_1 (she_I hq) (by first | exact hS.holds hq | exact hX.men | exact hX.told | exact hX.road | exact hX.tone _ (by omega) (by omega) | exact hX.corn _ (by omega) (by omega) | exact hX.stand _ (by omega) (by omega) | exact hX.reach _ (by omega) (by omega) | exact hX.arm _ (by omega) (by omega) | exact hX.late _ (by omega) (by omega) | exact hX.len _ (by omega) (by omega) | exact hX.say (by omega) (by omega) _ (by omega) (by omega)) (fun b1 => ?_)
  refine ew_iconst i59_4 ?_
  refine ew_icmpne i59_5 (by omega) (fun c5 => ?_) (fun c5 => ?_)
  · refine ew_iconst i59_12 ?_
    exact ew_zreturn i59_13 r59 (by omega) hK
  · refine ew_iconst i59_8 ?_
    refine ev_goto i59_9 ?_
    exact ew_zreturn i59_13 r59 (by omega) hK
theorem x_isRow (hS : RXs I L s) (hq : q < 6) (hK : K (some (.int (zI (if 50 ≤ s.1 q then 1 else 0)))) (I, L, ts_P0 sw, ts_S0)) : ts_Cal X (d + 1) 60 [.ref (60 + 2 * q)] (I, L, ts_P0 sw, ts_S0) K := by
  have e := s_holds_2 (v := s.1 q)
  refine ev_enter (lv := [.ref (60 + 2 * q)]) l60 rfl (Nat.le_of_ble_eq_true rfl) ?_
  refine ev_aloadn_0 i60_0 ?_
  refine ew_getI i60_1 g60_1 (she_I hq) (by first | exact hS.holds hq | exact hX.men | exact hX.told | exact hX.road | exact hX.tone _ (by omega) (by omega) | exact hX.corn _ (by omega) (by omega) | exact hX.stand _ (by omega) (by omega) | exact hX.reach _ (by omega) (by omega) | exact hX.arm _ (by omega) (by omega) | exact hX.late _ (by omega) (by omega) | exact hX.len _ (by omega) (by omega) | exact hX.say (by omega) (by omega) _ (by omega) (by omega)) (fun b1 => ?_)
  refine ew_iconst i60_4 ?_
  refine ew_icmpne i60_5 (by omega) (fun c5 => ?_) (fun c5 => ?_)
  · refine ew_iconst i60_12 ?_
    exact ew_zreturn i60_13 r60 (by omega) hK
  · refine ew_iconst i60_8 ?_
    refine ev_goto i60_9 ?_
    exact ew_zreturn i60_13 r60 (by omega) hK
theorem x_hasPlaces (hS : RXs I L s) (hq : q < 6) {i n : Int} (hi : -2147483648 ≤ i ∧ i ≤ 2147483647) (hn : -2147483648 ≤ n ∧ n ≤ 2147483647) (hK : K (some (.int (zI (if 0 ≤ i ∧ 0 ≤ n ∧ i + n ≤ s.2.1 q then 1 else 0)))) (I, L, ts_P0 sw, ts_S0)) : ts_Cal X (d + 1) 64 [.ref (60 + 2 * q), .int (zI (i)), .int (zI (n))] (I, L, ts_P0 sw, ts_S0) K := by
  refine ev_enter (lv := [.ref (60 + 2 * q), .int (zI (i)), .int (zI (n))]) l64 rfl (Nat.le_of_ble_eq_true rfl) ?_
  refine ev_iloadn_1 i64_0 ?_
  refine ew_iflt i64_1 (by omega) (fun c1 => ?_) (fun c1 => ?_)
  · refine ew_iconst i64_30 ?_
    exact ew_zreturn i64_31 r64 (by omega) hK
  · refine ev_iloadn_2 i64_4 ?_
    refine ew_iflt i64_5 (by omega) (fun c5 => ?_) (fun c5 => ?_)
    · refine ew_iconst i64_30 ?_
      exact ew_zreturn i64_31 r64 (by omega) hK
    · refine ev_iloadn_2 i64_8 ?_
      refine ev_aloadn_0 i64_9 ?_
      refine ew_getI i64_10 g64_10 (she_I hq) (by first | exact hS.size hq | exact hX.men | exact hX.told | exact hX.road | exact hX.tone _ (by omega) (by omega) | exact hX.corn _ (by omega) (by omega) | exact hX.stand _ (by omega) (by omega) | exact hX.reach _ (by omega) (by omega) | exact hX.arm _ (by omega) (by omega) | exact hX.late _ (by omega) (by omega) | exact hX.len _ (by omega) (by omega) | exact hX.say (by omega) (by omega) _ (by omega) (by omega)) (fun b10 => ?_)
      refine ew_icmpgt i64_13 (by omega) (fun c13 => ?_) (fun c13 => ?_)
      · refine ew_iconst i64_30 ?_
        exact ew_zreturn i64_31 r64 (by omega) hK
      · refine ev_iloadn_1 i64_16 ?_
        refine ev_aloadn_0 i64_17 ?_
        refine ew_getI i64_18 g64_18 (she_I hq) (by first | exact hS.size hq | exact hX.men | exact hX.told | exact hX.road | exact hX.tone _ (by omega) (by omega) | exact hX.corn _ (by omega) (by omega) | exact hX.stand _ (by omega) (by omega) | exact hX.reach _ (by omega) (by omega) | exact hX.arm _ (by omega) (by omega) | exact hX.late _ (by omega) (by omega) | exact hX.len _ (by omega) (by omega) | exact hX.say (by omega) (by omega) _ (by omega) (by omega)) (fun b18 => ?_)
        refine ev_iloadn_2 i64_21 ?_
        refine ew_isub i64_22 ?_
        refine ew_icmpgt i64_23 (by omega) (fun c23 => ?_) (fun c23 => ?_)
        · refine ew_iconst i64_30 ?_
          exact ew_zreturn i64_31 r64 (by omega) hK
        · refine ew_iconst i64_26 ?_
          refine ev_goto i64_27 ?_
          exact ew_zreturn i64_31 r64 (by omega) hK
/-- why there is no row of bytes, 0 -/
def g_bytes (s : ts_Sh) (x : Int) : Int := if 0 ≤ x ∧ x < 6 then (if s.1 x < 0 then -11 else if s.1 x = 50 then 0 else -12) else -1
theorem x_bytesOn (hS : RXs I L s) {x : Int} (hx : -2147483648 ≤ x ∧ x ≤ 2147483647) (hK : K (some (.int (zI (g_bytes s x)))) (I, L, ts_P0 sw, ts_S0)) : ts_Cal X (d + 2) 141 [.ref 1, .int (zI (x))] (I, L, ts_P0 sw, ts_S0) K := by
  unfold g_bytes at hK
  refine ev_enter (lv := [.ref 1, .int (zI (x)), .null]) l141 rfl (Nat.le_of_ble_eq_true rfl) ?_
  refine ev_iloadn_1 i141_0 ?_
  refine ev_stat1 i141_1 g141_1 (by decide +kernel) (Nat.le_of_ble_eq_true rfl) (x_isShelf hx ?_)
  first
  | refine ew_ifneB i141_4 (fun c4 => ?_) (fun c4 => ?_)
  | refine ew_ifne i141_4 (by omega) (fun c4 => ?_) (fun c4 => ?_)
  · obtain ⟨q, rfl⟩ : ∃ q : Nat, x = q := ⟨x.toNat, by omega⟩
    have hq : q < 6 := by omega
    refine ev_aloadn_0 i141_9 ?_
    refine ev_getA i141_10 g141_10 rfl rfl (by decide) ?_
    refine ev_iloadn_1 i141_13 ?_
    refine ew_aaload i141_14 rfl (by omega) (by omega) (by omega) (she_Sq hq) (by omega) ?_
    refine ev_astoren_2 i141_15 rfl ?_
    refine ev_aloadn_2 i141_16 ?_
    refine ev_virt0 i141_17 g141_17 (she_R hq (by decide +kernel)) (by decide +kernel) (Nat.le_of_ble_eq_true rfl) (x_isEmpty hS hq ?_)
    first
    | refine ew_ifeqB i141_20 (fun c20 => ?_) (fun c20 => ?_)
    | refine ew_ifeq i141_20 (by omega) (fun c20 => ?_) (fun c20 => ?_)
    · refine ev_aloadn_2 i141_26 ?_
      refine ev_virt0 i141_27 g141_27 (she_R hq (by decide +kernel)) (by decide +kernel) (Nat.le_of_ble_eq_true rfl) (x_isRow hS hq ?_)
      first
      | refine ew_ifeqB i141_30 (fun c30 => ?_) (fun c30 => ?_)
      | refine ew_ifeq i141_30 (by omega) (fun c30 => ?_) (fun c30 => ?_)
      · refine ew_bipush i141_44 (by decide) ?_
        refine ev_ireturn i141_46 r141 ?_
        first | exact hK | exact zK hK (by omega)
      · refine ev_aloadn_2 i141_33 ?_
        refine ew_getI i141_34 g141_34 (she_I hq) (by first | exact hS.sort hq (by omega) | exact hX.men | exact hX.told | exact hX.road | exact hX.tone _ (by omega) (by omega) | exact hX.corn _ (by omega) (by omega) | exact hX.stand _ (by omega) (by omega) | exact hX.reach _ (by omega) (by omega) | exact hX.arm _ (by omega) (by omega) | exact hX.late _ (by omega) (by omega) | exact hX.len _ (by omega) (by omega) | exact hX.say (by omega) (by omega) _ (by omega) (by omega)) (fun b34 => ?_)
        first
        | refine ew_ifneB i141_37 (fun c37 => ?_) (fun c37 => ?_)
        | refine ew_ifne i141_37 (by omega) (fun c37 => ?_) (fun c37 => ?_)
        · refine ew_bipush i141_44 (by decide) ?_
          refine ev_ireturn i141_46 r141 ?_
          first | exact hK | exact zK hK (by omega)
        · refine ew_iconst i141_40 ?_
          refine ev_goto i141_41 ?_
          refine ev_ireturn i141_46 r141 ?_
          first | exact hK | exact zK hK (by omega)
    · refine ew_bipush i141_23 (by decide) ?_
      refine ev_ireturn i141_25 r141 ?_
      first | exact hK | exact zK hK (by omega)
  · refine ew_iconst i141_7 ?_
    refine ev_ireturn i141_8 r141 ?_
    first | exact hK | exact zK hK (by omega)
/-- why there is no element, 0 -/
def g_refusal (s : ts_Sh) (x i : Int) : Int := if 0 ≤ x ∧ x < 6 then (if s.1 x < 0 then -11 else if s.1 x < 50 then -12 else if 0 ≤ i ∧ i < s.2.1 x then 0 else -13) else -1
theorem x_refusal (hS : RXs I L s) {x i : Int} (hx : -2147483648 ≤ x ∧ x ≤ 2147483647) (hi : -2147483648 ≤ i ∧ i ≤ 2147483647) (hK : K (some (.int (zI (g_refusal s x i)))) (I, L, ts_P0 sw, ts_S0)) : ts_Cal X (d + 2) 142 [.ref 1, .int (zI (x)), .int (zI (i))] (I, L, ts_P0 sw, ts_S0) K := by
  unfold g_refusal at hK
  refine ev_enter (lv := [.ref 1, .int (zI (x)), .int (zI (i)), .null]) l142 rfl (Nat.le_of_ble_eq_true rfl) ?_
  refine ev_iloadn_1 i142_0 ?_
  refine ev_stat1 i142_1 g142_1 (by decide +kernel) (Nat.le_of_ble_eq_true rfl) (x_isShelf hx ?_)
  first
  | refine ew_ifneB i142_4 (fun c4 => ?_) (fun c4 => ?_)
  | refine ew_ifne i142_4 (by omega) (fun c4 => ?_) (fun c4 => ?_)
  · obtain ⟨q, rfl⟩ : ∃ q : Nat, x = q := ⟨x.toNat, by omega⟩
    have hq : q < 6 := by omega
    refine ev_aloadn_0 i142_9 ?_
    refine ev_getA i142_10 g142_10 rfl rfl (by decide) ?_
    refine ev_iloadn_1 i142_13 ?_
    refine ew_aaload i142_14 rfl (by omega) (by omega) (by omega) (she_Sq hq) (by omega) ?_
    refine ev_astoren_3 i142_15 rfl ?_
    refine ev_aloadn_3 i142_16 ?_
    refine ev_virt0 i142_17 g142_17 (she_R hq (by decide +kernel)) (by decide +kernel) (Nat.le_of_ble_eq_true rfl) (x_isEmpty hS hq ?_)
    first
    | refine ew_ifeqB i142_20 (fun c20 => ?_) (fun c20 => ?_)
    | refine ew_ifeq i142_20 (by omega) (fun c20 => ?_) (fun c20 => ?_)
    · refine ev_aloadn_3 i142_26 ?_
      refine ev_virt0 i142_27 g142_27 (she_R hq (by decide +kernel)) (by decide +kernel) (Nat.le_of_ble_eq_true rfl) (x_isRow hS hq ?_)
      first
      | refine ew_ifneB i142_30 (fun c30 => ?_) (fun c30 => ?_)
      | refine ew_ifne i142_30 (by omega) (fun c30 => ?_) (fun c30 => ?_)
      · refine ev_aloadn_3 i142_36 ?_
        refine ev_iloadn_2 i142_37 ?_
        refine ew_iconst i142_38 ?_
        refine ev_virt2 i142_39 g142_39 (she_R hq (by decide +kernel)) (by decide +kernel) (Nat.le_of_ble_eq_true rfl) (x_hasPlaces hS hq hi (by omega) ?_)
        first
        | refine ew_ifeqB i142_42 (fun c42 => ?_) (fun c42 => ?_)
        | refine ew_ifeq i142_42 (by omega) (fun c42 => ?_) (fun c42 => ?_)
        · refine ew_bipush i142_49 (by decide) ?_
          refine ev_ireturn i142_51 r142 ?_
          first | exact hK | exact zK hK (by omega)
        · refine ew_iconst i142_45 ?_
          refine ev_goto i142_46 ?_
          refine ev_ireturn i142_51 r142 ?_
          first | exact hK | exact zK hK (by omega)
      · refine ew_bipush i142_33 (by decide) ?_
        refine ev_ireturn i142_35 r142 ?_
        first | exact hK | exact zK hK (by omega)
    · refine ew_bipush i142_23 (by decide) ?_
      refine ev_ireturn i142_25 r142 ?_
      first | exact hK | exact zK hK (by omega)
  · refine ew_iconst i142_7 ?_
    refine ev_ireturn i142_8 r142 ?_
    first | exact hK | exact zK hK (by omega)
theorem m_bytesIs (hS : RMs I L s) {x : Int} (hx : -2147483648 ≤ x ∧ x ≤ 2147483647) (hK : K (some (.int (zI (if g_bytes s x = 0 then 1 else g_bytes s x)))) (I, L, ts_P0 sw, ts_S0)) : ts_Cal X (d + 3) 153 [.ref 72, .int (zI (x))] (I, L, ts_P0 sw, ts_S0) K := by
  unfold g_bytes at hK
  refine ev_enter (lv := [.ref 72, .int (zI (x))]) l153 rfl (Nat.le_of_ble_eq_true rfl) ?_
  refine ev_iloadn_1 i153_0 ?_
  refine ev_stat1 i153_1 g153_1 (by decide +kernel) (Nat.le_of_ble_eq_true rfl) (m_isShelf hx ?_)
  first
  | refine ew_ifneB i153_4 (fun c4 => ?_) (fun c4 => ?_)
  | refine ew_ifne i153_4 (by omega) (fun c4 => ?_) (fun c4 => ?_)
  · refine ev_aloadn_0 i153_11 ?_
    refine ev_getA i153_12 g153_12 rfl rfl (by decide) ?_
    refine ev_iloadn_1 i153_15 ?_
    refine ew_iaload i153_16 rfl (by omega) (by omega) (by omega) (by first | exact hS.1 _ (by omega) (by omega) | exact hM.men | exact hM.told | exact hM.road | exact hM.stand _ (by omega) (by omega) | exact hM.reach _ (by omega) (by omega) | exact hM.arm _ (by omega) (by omega) | exact hM.late _ (by omega) (by omega) | exact hM.len _ (by omega) (by omega) | exact hM.corn _ (by omega) (by omega) | exact hM.say (by omega) (by omega) _ (by omega) (by omega) | exact hM.tone _ (by omega) (by omega)) (fun b16 => ?_)
    refine ew_ifge i153_17 (by omega) (fun c17 => ?_) (fun c17 => ?_)
    · refine ev_aloadn_0 i153_25 ?_
      refine ev_getA i153_26 g153_26 rfl rfl (by decide) ?_
      refine ev_iloadn_1 i153_29 ?_
      refine ew_iaload i153_30 rfl (by omega) (by omega) (by omega) (by first | exact hS.1 _ (by omega) (by omega) | exact hM.men | exact hM.told | exact hM.road | exact hM.stand _ (by omega) (by omega) | exact hM.reach _ (by omega) (by omega) | exact hM.arm _ (by omega) (by omega) | exact hM.late _ (by omega) (by omega) | exact hM.len _ (by omega) (by omega) | exact hM.corn _ (by omega) (by omega) | exact hM.say (by omega) (by omega) _ (by omega) (by omega) | exact hM.tone _ (by omega) (by omega)) (fun b30 => ?_)
      refine ew_bipush i153_31 (by decide) ?_
      refine ew_icmpne i153_33 (by omega) (fun c33 => ?_) (fun c33 => ?_)
      · refine ew_bipush i153_40 (by decide) ?_
        refine ev_ireturn i153_42 r153 ?_
        first | exact hK | exact zK hK (by omega)
      · refine ew_iconst i153_36 ?_
        refine ev_goto i153_37 ?_
        refine ev_ireturn i153_42 r153 ?_
        first | exact hK | exact zK hK (by omega)
    · refine ew_bipush i153_20 (by decide) ?_
      refine ev_goto i153_22 ?_
      refine ev_ireturn i153_42 r153 ?_
      first | exact hK | exact zK hK (by omega)
  · refine ew_iconst i153_7 ?_
    refine ev_goto i153_8 ?_
    refine ev_ireturn i153_42 r153 ?_
    first | exact hK | exact zK hK (by omega)
theorem m_refusal (hS : RMs I L s) {x i : Int} (hx : -2147483648 ≤ x ∧ x ≤ 2147483647) (hi : -2147483648 ≤ i ∧ i ≤ 2147483647) (hK : K (some (.int (zI (g_refusal s x i)))) (I, L, ts_P0 sw, ts_S0)) : ts_Cal X (d + 3) 231 [.ref 72, .int (zI (x)), .int (zI (i))] (I, L, ts_P0 sw, ts_S0) K := by
  unfold g_refusal at hK
  refine ev_enter (lv := [.ref 72, .int (zI (x)), .int (zI (i))]) l231 rfl (Nat.le_of_ble_eq_true rfl) ?_
  refine ev_iloadn_1 i231_0 ?_
  refine ev_stat1 i231_1 g231_1 (by decide +kernel) (Nat.le_of_ble_eq_true rfl) (m_isShelf hx ?_)
  first
  | refine ew_ifneB i231_4 (fun c4 => ?_) (fun c4 => ?_)
  | refine ew_ifne i231_4 (by omega) (fun c4 => ?_) (fun c4 => ?_)
  · refine ev_aloadn_0 i231_9 ?_
    refine ev_getA i231_10 g231_10 rfl rfl (by decide) ?_
    refine ev_iloadn_1 i231_13 ?_
    refine ew_iaload i231_14 rfl (by omega) (by omega) (by omega) (by first | exact hS.1 _ (by omega) (by omega) | exact hS.2.1 _ (by omega) (by omega) | exact hM.men | exact hM.told | exact hM.road | exact hM.stand _ (by omega) (by omega) | exact hM.reach _ (by omega) (by omega) | exact hM.arm _ (by omega) (by omega) | exact hM.late _ (by omega) (by omega) | exact hM.len _ (by omega) (by omega) | exact hM.corn _ (by omega) (by omega) | exact hM.say (by omega) (by omega) _ (by omega) (by omega) | exact hM.tone _ (by omega) (by omega)) (fun b14 => ?_)
    refine ew_ifge i231_15 (by omega) (fun c15 => ?_) (fun c15 => ?_)
    · refine ev_aloadn_0 i231_21 ?_
      refine ev_getA i231_22 g231_22 rfl rfl (by decide) ?_
      refine ev_iloadn_1 i231_25 ?_
      refine ew_iaload i231_26 rfl (by omega) (by omega) (by omega) (by first | exact hS.1 _ (by omega) (by omega) | exact hS.2.1 _ (by omega) (by omega) | exact hM.men | exact hM.told | exact hM.road | exact hM.stand _ (by omega) (by omega) | exact hM.reach _ (by omega) (by omega) | exact hM.arm _ (by omega) (by omega) | exact hM.late _ (by omega) (by omega) | exact hM.len _ (by omega) (by omega) | exact hM.corn _ (by omega) (by omega) | exact hM.say (by omega) (by omega) _ (by omega) (by omega) | exact hM.tone _ (by omega) (by omega)) (fun b26 => ?_)
      refine ew_bipush i231_27 (by decide) ?_
      refine ew_icmpge i231_29 (by omega) (fun c29 => ?_) (fun c29 => ?_)
      · refine ev_iloadn_2 i231_35 ?_
        refine ew_iflt i231_36 (by omega) (fun c36 => ?_) (fun c36 => ?_)
        · refine ew_bipush i231_53 (by decide) ?_
          refine ev_ireturn i231_55 r231 ?_
          first | exact hK | exact zK hK (by omega)
        · refine ev_iloadn_2 i231_39 ?_
          refine ev_aloadn_0 i231_40 ?_
          refine ev_getA i231_41 g231_41 rfl rfl (by decide) ?_
          refine ev_iloadn_1 i231_44 ?_
          refine ew_iaload i231_45 rfl (by omega) (by omega) (by omega) (by first | exact hS.1 _ (by omega) (by omega) | exact hS.2.1 _ (by omega) (by omega) | exact hM.men | exact hM.told | exact hM.road | exact hM.stand _ (by omega) (by omega) | exact hM.reach _ (by omega) (by omega) | exact hM.arm _ (by omega) (by omega) | exact hM.late _ (by omega) (by omega) | exact hM.len _ (by omega) (by omega) | exact hM.corn _ (by omega) (by omega) | exact hM.say (by omega) (by omega) _ (by omega) (by omega) | exact hM.tone _ (by omega) (by omega)) (fun b45 => ?_)
          refine ew_icmpge i231_46 (by omega) (fun c46 => ?_) (fun c46 => ?_)
          · refine ew_bipush i231_53 (by decide) ?_
            refine ev_ireturn i231_55 r231 ?_
            first | exact hK | exact zK hK (by omega)
          · refine ew_iconst i231_49 ?_
            refine ev_goto i231_50 ?_
            refine ev_ireturn i231_55 r231 ?_
            first | exact hK | exact zK hK (by omega)
      · refine ew_bipush i231_32 (by decide) ?_
        refine ev_ireturn i231_34 r231 ?_
        first | exact hK | exact zK hK (by omega)
    · refine ew_bipush i231_18 (by decide) ?_
      refine ev_ireturn i231_20 r231 ?_
      first | exact hK | exact zK hK (by omega)
  · refine ew_iconst i231_7 ?_
    refine ev_ireturn i231_8 r231 ?_
    first | exact hK | exact zK hK (by omega)
/-- element: what it answers -/
def g_element (s : ts_Sh) (x i : Int) : Int := if g_refusal s x i = 0 then s.2.2 x i else -9223372036854775808
theorem g_refusal_0 {s : ts_Sh} {x i : Int} (h : g_refusal s x i = 0) : 0 ≤ x ∧ x < 6 ∧ 50 ≤ s.1 x ∧ 0 ≤ i ∧ i < s.2.1 x := by
  unfold g_refusal at h
  omega
theorem g_refusal_r (s : ts_Sh) (x i : Int) : -13 ≤ g_refusal s x i ∧ g_refusal s x i ≤ 0 := by
  unfold g_refusal
  omega
theorem x_element (hS : RXs I L s) {x i : Int} (hx : -2147483648 ≤ x ∧ x ≤ 2147483647) (hi : -2147483648 ≤ i ∧ i ≤ 2147483647) (hK : K (some (.long (zL (g_element s x i)))) (I, L, ts_P0 sw, ts_S0)) : ts_Cal X (d + 3) 133 [.ref 1, .int (zI (x)), .int (zI (i))] (I, L, ts_P0 sw, ts_S0) K := by
  have hr := g_refusal_r s x i
  unfold g_element at hK
  refine ev_enter (lv := [.ref 1, .int (zI (x)), .int (zI (i))]) l133 rfl (Nat.le_of_ble_eq_true rfl) ?_
  refine ev_aloadn_0 i133_0 ?_
  refine ev_iloadn_1 i133_1 ?_
  refine ev_iloadn_2 i133_2 ?_
  refine ev_virt2 i133_3 g133_3 rfl (by decide +kernel) (Nat.le_of_ble_eq_true rfl) (x_refusal hS hx hi ?_)
  first
  | refine ew_ifeqB i133_6 (fun c6 => ?_) (fun c6 => ?_)
  | refine ew_ifeq i133_6 (by omega) (fun c6 => ?_) (fun c6 => ?_)
  · have h0 := g_refusal_0 c6
    rw [if_pos c6] at hK
    obtain ⟨q, rfl⟩ : ∃ q : Nat, x = q := ⟨x.toNat, by omega⟩
    have hq : q < 6 := by omega
    have hz := (hS.size hq).2
    refine ev_aloadn_0 i133_13 ?_
    refine ev_getA i133_14 g133_14 rfl rfl (by decide) ?_
    refine ev_iloadn_1 i133_17 ?_
    refine ew_aaload i133_18 rfl (by omega) (by omega) (by omega) (she_Sq hq) (by omega) ?_
    refine ev_getA i133_19 g133_19 (she_I hq) (she_P hq) (by omega) ?_
    refine ev_iloadn_2 i133_22 ?_
    refine ew_laload i133_23 (she_A hq) (by omega) (by omega) (by omega) ((hS.it hq (by omega) (by omega))) (fun b23 => ?_)
    refine ev_lreturn i133_24 r133 ?_
    first | exact hK | exact zKl hK (by omega)
  · rw [if_neg c6] at hK
    refine ew_ldc2_w (z := (-9223372036854775808)) i133_9 g133_9 (by decide) ?_
    refine ev_lreturn i133_12 r133 ?_
    first | exact hK | exact zKl hK (by omega)
theorem m_element (hS : RMs I L s) {x i : Int} (hx : -2147483648 ≤ x ∧ x ≤ 2147483647) (hi : -2147483648 ≤ i ∧ i ≤ 2147483647) (hK : K (some (.long (zL (g_element s x i)))) (I, L, ts_P0 sw, ts_S0)) : ts_Cal X (d + 4) 234 [.ref 72, .int (zI (x)), .int (zI (i))] (I, L, ts_P0 sw, ts_S0) K := by
  have hr := g_refusal_r s x i
  unfold g_element at hK
  refine ev_enter (lv := [.ref 72, .int (zI (x)), .int (zI (i))]) l234 rfl (Nat.le_of_ble_eq_true rfl) ?_
  refine ev_aloadn_0 i234_0 ?_
  refine ev_iloadn_1 i234_1 ?_
  refine ev_iloadn_2 i234_2 ?_
  refine ev_virt2 i234_3 g234_3 rfl (by decide +kernel) (Nat.le_of_ble_eq_true rfl) (m_refusal hS hx hi ?_)
  first
  | refine ew_ifeqB i234_6 (fun c6 => ?_) (fun c6 => ?_)
  | refine ew_ifeq i234_6 (by omega) (fun c6 => ?_) (fun c6 => ?_)
  · have h0 := g_refusal_0 c6
    rw [if_pos c6] at hK
    have hz := (hS.2.1 x (by omega) (by omega)).2
    refine ev_aloadn_0 i234_15 ?_
    refine ev_getA i234_16 g234_16 rfl rfl (by decide) ?_
    refine ew_bipush i234_19 (by decide) ?_
    refine ev_iloadn_1 i234_21 ?_
    refine ew_imul i234_22 ?_
    refine ev_iloadn_2 i234_23 ?_
    refine ew_iadd i234_24 ?_
    refine ew_laload i234_25 rfl (by omega) (by omega) (by omega) (by first | exact hS.2.2 _ (by omega) (by omega) _ (by omega) (by omega) | exact hM.men | exact hM.told | exact hM.road | exact hM.stand _ (by omega) (by omega) | exact hM.reach _ (by omega) (by omega) | exact hM.arm _ (by omega) (by omega) | exact hM.late _ (by omega) (by omega) | exact hM.len _ (by omega) (by omega) | exact hM.corn _ (by omega) (by omega) | exact hM.say (by omega) (by omega) _ (by omega) (by omega) | exact hM.tone _ (by omega) (by omega)) (fun b25 => ?_)
    refine ev_lreturn i234_26 r234 ?_
    first | exact hK | exact zKl hK (by omega)
  · rw [if_neg c6] at hK
    refine ew_ldc2_w (z := (-9223372036854775808)) i234_9 g234_9 (by decide) ?_
    refine ev_goto i234_12 ?_
    refine ev_lreturn i234_26 r234 ?_
    first | exact hK | exact zKl hK (by omega)
/-- a shelf becomes another -/
theorem RXs.set {J : Nat → Nat → Int32} {M : Nat → Nat → Int64} {t : ts_Sh} (h : RXs I L s) (hq : q < 6) (e : ∀ a, ¬ a = 60 + 2 * q → J a = I a) (e2 : ∀ a, ¬ a = 61 + 2 * q → M a = L a) (es : ∀ p : Int, ¬ p = q → t.1 p = s.1 p ∧ t.2.1 p = s.2.1 p ∧ t.2.2 p = s.2.2 p) (h1 : rd (J (60 + 2 * q) 1) 0 2 (s_holds (t.1 q))) (h2 : 0 ≤ t.1 q → t.1 q < 50 → rd (J (60 + 2 * q) 2) 0 49 (t.1 q)) (h3 : 50 ≤ t.1 q → rd (J (60 + 2 * q) 3) 0 4 (t.1 q - 50)) (h4 : rd (J (60 + 2 * q) 4) 0 60 (t.2.1 q)) (h5 : ∀ k : Int, 0 ≤ k → k < 60 → rl (M (61 + 2 * q) k.toNat) (-9223372036854775808) 9223372036854775807 (t.2.2 q k)) : RXs J M t := by
  intro p hp
  by_cases c : p = q
  · subst c; exact ⟨h1, h2, h3, h4, h5⟩
  · obtain ⟨a1, a2, a3⟩ := es p (by omega)
    rw [e (60 + 2 * p) (by omega), e2 (61 + 2 * p) (by omega), a1, a2, a3]
    exact h p hp
abbrev fsh : Nat → Nat → Prop := fun a _ => 60 ≤ a ∧ a ≤ 71
/-- keep: what becomes of it -/
def g_keep (s : ts_Sh) (nb x w : Int) : ts_Sh := if 0 ≤ x ∧ x < 6 ∧ -1 ≤ w ∧ w < nb then (zu s.1 x w, zu s.2.1 x 0, s.2.2) else s
theorem x_clear (hK : K none (ts_up (ts_up I (60 + 2 * q) 1 (zI 0)) (60 + 2 * q) 4 (zI 0), L, ts_P0 sw, ts_S0)) (hq : q < 6) : ts_Cal X (d + 1) 61 [.ref (60 + 2 * q)] (I, L, ts_P0 sw, ts_S0) K := by
  refine ev_enter (lv := [.ref (60 + 2 * q)]) l61 rfl (Nat.le_of_ble_eq_true rfl) ?_
  refine ev_aloadn_0 i61_0 ?_
  refine ew_iconst i61_1 ?_
  refine ev_putI i61_2 g61_2 (she_I hq) ?_
  refine ev_aloadn_0 i61_5 ?_
  refine ew_iconst i61_6 ?_
  refine ev_putI i61_7 g61_7 (she_I hq) ?_
  refine ev_return i61_10 r61 ?_
  exact hK
theorem x_holdFlail {w : Int} (hK : K none (ts_up (ts_up (ts_up I (60 + 2 * q) 1 (zI 1)) (60 + 2 * q) 2 (zI w)) (60 + 2 * q) 4 (zI 0), L, ts_P0 sw, ts_S0)) (hq : q < 6) : ts_Cal X (d + 1) 62 [.ref (60 + 2 * q), .int (zI (w))] (I, L, ts_P0 sw, ts_S0) K := by
  refine ev_enter (lv := [.ref (60 + 2 * q), .int (zI (w))]) l62 rfl (Nat.le_of_ble_eq_true rfl) ?_
  refine ev_aloadn_0 i62_0 ?_
  refine ew_iconst i62_1 ?_
  refine ev_putI i62_2 g62_2 (she_I hq) ?_
  refine ev_aloadn_0 i62_5 ?_
  refine ev_iloadn_1 i62_6 ?_
  refine ev_putI i62_7 g62_7 (she_I hq) ?_
  refine ev_aloadn_0 i62_10 ?_
  refine ew_iconst i62_11 ?_
  refine ev_putI i62_12 g62_12 (she_I hq) ?_
  refine ev_return i62_15 r62 ?_
  exact hK
theorem x_keep (hS : RXs I L s) {nb : Int} (hb : rd (I 56 2) 0 50 nb) {x w : Int} (hx : -2147483648 ≤ x ∧ x ≤ 2147483647) (hw : -2147483648 ≤ w ∧ w ≤ 2147483647) (hK : ∀ J, fr fsh I J → RXs J L (g_keep s nb x w) → K (some (.int (zI (if 0 ≤ x ∧ x < 6 ∧ -1 ≤ w ∧ w < nb then 1 else -1)))) (J, L, ts_P0 sw, ts_S0)) : ts_Cal X (d + 2) 130 [.ref 1, .int (zI (x)), .int (zI (w))] (I, L, ts_P0 sw, ts_S0) K := by
  have hbb := hb.2
  unfold g_keep at hK
  refine ev_enter (lv := [.ref 1, .int (zI (x)), .int (zI (w))]) l130 rfl (Nat.le_of_ble_eq_true rfl) ?_
  refine ev_iloadn_1 i130_0 ?_
  refine ev_stat1 i130_1 g130_1 (by decide +kernel) (Nat.le_of_ble_eq_true rfl) (x_isShelf hx ?_)
  first
  | refine ew_ifeqB i130_4 (fun c4 => ?_) (fun c4 => ?_)
  | refine ew_ifeq i130_4 (by omega) (fun c4 => ?_) (fun c4 => ?_)
  · refine ew_iconst i130_23 ?_
    refine ev_ireturn i130_24 r130 ?_
    rw [if_neg (by omega), if_neg (by omega)] at hK
    exact hK I (fr_rfl _ _) hS
  · refine ev_iloadn_2 i130_7 ?_
    refine ew_iconst i130_8 ?_
    refine ew_icmplt i130_9 (by omega) (fun c9 => ?_) (fun c9 => ?_)
    · refine ew_iconst i130_23 ?_
      refine ev_ireturn i130_24 r130 ?_
      rw [if_neg (by omega), if_neg (by omega)] at hK
      exact hK I (fr_rfl _ _) hS
    · refine ev_iloadn_2 i130_12 ?_
      refine ev_aloadn_0 i130_13 ?_
      refine ev_getA i130_14 g130_14 rfl rfl (by decide) ?_
      refine ew_getI i130_17 g130_17 rfl (by first | exact hb | exact hX.men | exact hX.told | exact hX.road | exact hX.tone _ (by omega) (by omega) | exact hX.corn _ (by omega) (by omega) | exact hX.stand _ (by omega) (by omega) | exact hX.reach _ (by omega) (by omega) | exact hX.arm _ (by omega) (by omega) | exact hX.late _ (by omega) (by omega) | exact hX.len _ (by omega) (by omega) | exact hX.say (by omega) (by omega) _ (by omega) (by omega)) (fun b17 => ?_)
      refine ew_icmplt i130_20 (by omega) (fun c20 => ?_) (fun c20 => ?_)
      · rw [if_pos (by omega), if_pos (by omega)] at hK
        obtain ⟨q, rfl⟩ : ∃ q : Nat, x = q := ⟨x.toNat, by omega⟩
        have hq : q < 6 := by omega
        refine ev_iloadn_2 i130_25 ?_
        refine ew_iconst i130_26 ?_
        refine ew_icmpne i130_27 (by omega) (fun c27 => ?_) (fun c27 => ?_)
        · refine ev_aloadn_0 i130_42 ?_
          refine ev_getA i130_43 g130_43 rfl rfl (by decide) ?_
          refine ev_iloadn_1 i130_46 ?_
          refine ew_aaload i130_47 rfl (by omega) (by omega) (by omega) (she_Sq hq) (by omega) ?_
          refine ev_iloadn_2 i130_48 ?_
          refine ev_virt1 i130_49 g130_49 (she_R hq (by decide +kernel)) (by decide +kernel) (Nat.le_of_ble_eq_true rfl) (x_holdFlail ?_ hq)
          refine ew_iconst i130_52 ?_
          refine ev_ireturn i130_53 r130 ?_
          refine hK _ ?_ ?_
          · first
            | exact fr_up (fr_up (fr_rfl _ _) (by show 60 ≤ _ ∧ _ ≤ 71; omega)) (by show 60 ≤ _ ∧ _ ≤ 71; omega)
            | exact fr_up (fr_up (fr_up (fr_rfl _ _) (by show 60 ≤ _ ∧ _ ≤ 71; omega)) (by show 60 ≤ _ ∧ _ ≤ 71; omega)) (by show 60 ≤ _ ∧ _ ≤ 71; omega)
          · refine hS.set hq (fun a ha => ?_) (fun a ha => rfl) (fun p hp => ⟨zu_n hp, zu_n hp, rfl⟩) ?_ (fun a1 a2 => ?_) (fun a1 => ?_) ?_ (fun k k0 k1 => hS.it hq k0 k1)
            · first
              | rw [ts_up_na ha, ts_up_na ha, ts_up_na ha]
              | rw [ts_up_na ha, ts_up_na ha]
            · simp only [zu_e] at *
              simp [ts_up]
              exact ⟨by unfold s_holds; first | rw [if_pos (by omega)] | rw [if_neg (by omega), if_pos (by omega)], by unfold s_holds; omega, by unfold s_holds; omega⟩
            · simp only [zu_e] at *
              first
              | omega
              | (simp [ts_up]; exact ⟨rfl, by omega, by omega⟩)
            · simp only [zu_e] at *
              omega
            · simp only [zu_e] at *
              simp [ts_up]
              exact ⟨rfl, by omega, by omega⟩
        · refine ev_aloadn_0 i130_30 ?_
          refine ev_getA i130_31 g130_31 rfl rfl (by decide) ?_
          refine ev_iloadn_1 i130_34 ?_
          refine ew_aaload i130_35 rfl (by omega) (by omega) (by omega) (she_Sq hq) (by omega) ?_
          refine ev_virt0 i130_36 g130_36 (she_R hq (by decide +kernel)) (by decide +kernel) (Nat.le_of_ble_eq_true rfl) (x_clear ?_ hq)
          refine ev_goto i130_39 ?_
          refine ew_iconst i130_52 ?_
          refine ev_ireturn i130_53 r130 ?_
          refine hK _ ?_ ?_
          · first
            | exact fr_up (fr_up (fr_rfl _ _) (by show 60 ≤ _ ∧ _ ≤ 71; omega)) (by show 60 ≤ _ ∧ _ ≤ 71; omega)
            | exact fr_up (fr_up (fr_up (fr_rfl _ _) (by show 60 ≤ _ ∧ _ ≤ 71; omega)) (by show 60 ≤ _ ∧ _ ≤ 71; omega)) (by show 60 ≤ _ ∧ _ ≤ 71; omega)
          · refine hS.set hq (fun a ha => ?_) (fun a ha => rfl) (fun p hp => ⟨zu_n hp, zu_n hp, rfl⟩) ?_ (fun a1 a2 => ?_) (fun a1 => ?_) ?_ (fun k k0 k1 => hS.it hq k0 k1)
            · first
              | rw [ts_up_na ha, ts_up_na ha, ts_up_na ha]
              | rw [ts_up_na ha, ts_up_na ha]
            · simp only [zu_e] at *
              simp [ts_up]
              exact ⟨by unfold s_holds; first | rw [if_pos (by omega)] | rw [if_neg (by omega), if_pos (by omega)], by unfold s_holds; omega, by unfold s_holds; omega⟩
            · simp only [zu_e] at *
              first
              | omega
              | (simp [ts_up]; exact ⟨rfl, by omega, by omega⟩)
            · simp only [zu_e] at *
              omega
            · simp only [zu_e] at *
              simp [ts_up]
              exact ⟨rfl, by omega, by omega⟩
      · refine ew_iconst i130_23 ?_
        refine ev_ireturn i130_24 r130 ?_
        rw [if_neg (by omega), if_neg (by omega)] at hK
        exact hK I (fr_rfl _ _) hS
end SH1
