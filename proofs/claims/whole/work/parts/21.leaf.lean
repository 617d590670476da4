theorem i137_0 : ts_ins 137 0 = some (.iload_n 0, 1, 0) := by decide +kernel
theorem i137_1 : ts_ins 137 1 = some (.ifCond .lt 13, 4, 14) := by decide +kernel
theorem i137_4 : ts_ins 137 4 = some (.iload_n 0, 5, 0) := by decide +kernel
theorem i137_5 : ts_ins 137 5 = some (.bipush 16, 7, 0) := by decide +kernel
theorem i137_7 : ts_ins 137 7 = some (.if_icmp .ge 7, 10, 14) := by decide +kernel
theorem i137_10 : ts_ins 137 10 = some (.iconst 1, 11, 0) := by decide +kernel
theorem i137_11 : ts_ins 137 11 = some (.goto 4, 14, 15) := by decide +kernel
theorem i137_14 : ts_ins 137 14 = some (.iconst 0, 15, 0) := by decide +kernel
theorem i137_15 : ts_ins 137 15 = some (.ireturn, 16, 0) := by decide +kernel
theorem r137 : ts_rt 137 = ((some .boolean), 0, 0) := by decide +kernel
theorem l137 : ts_ml 137 = 1 := by decide +kernel
theorem i138_0 : ts_ins 138 0 = some (.iload_n 0, 1, 0) := by decide +kernel
theorem i138_1 : ts_ins 138 1 = some (.ifCond .lt 13, 4, 14) := by decide +kernel
theorem i138_4 : ts_ins 138 4 = some (.iload_n 0, 5, 0) := by decide +kernel
theorem i138_5 : ts_ins 138 5 = some (.bipush 6, 7, 0) := by decide +kernel
theorem i138_7 : ts_ins 138 7 = some (.if_icmp .ge 7, 10, 14) := by decide +kernel
theorem i138_10 : ts_ins 138 10 = some (.iconst 1, 11, 0) := by decide +kernel
theorem i138_11 : ts_ins 138 11 = some (.goto 4, 14, 15) := by decide +kernel
theorem i138_14 : ts_ins 138 14 = some (.iconst 0, 15, 0) := by decide +kernel
theorem i138_15 : ts_ins 138 15 = some (.ireturn, 16, 0) := by decide +kernel
theorem r138 : ts_rt 138 = ((some .boolean), 0, 0) := by decide +kernel
theorem l138 : ts_ml 138 = 1 := by decide +kernel
theorem i139_0 : ts_ins 139 0 = some (.iload_n 0, 1, 0) := by decide +kernel
theorem i139_1 : ts_ins 139 1 = some (.ifCond .lt 13, 4, 14) := by decide +kernel
theorem i139_4 : ts_ins 139 4 = some (.iload_n 0, 5, 0) := by decide +kernel
theorem i139_5 : ts_ins 139 5 = some (.bipush 8, 7, 0) := by decide +kernel
theorem i139_7 : ts_ins 139 7 = some (.if_icmp .ge 7, 10, 14) := by decide +kernel
theorem i139_10 : ts_ins 139 10 = some (.iconst 1, 11, 0) := by decide +kernel
theorem i139_11 : ts_ins 139 11 = some (.goto 4, 14, 15) := by decide +kernel
theorem i139_14 : ts_ins 139 14 = some (.iconst 0, 15, 0) := by decide +kernel
theorem i139_15 : ts_ins 139 15 = some (.ireturn, 16, 0) := by decide +kernel
theorem r139 : ts_rt 139 = ((some .boolean), 0, 0) := by decide +kernel
theorem l139 : ts_ml 139 = 1 := by decide +kernel
theorem i140_0 : ts_ins 140 0 = some (.iload_n 0, 1, 0) := by decide +kernel
theorem i140_1 : ts_ins 140 1 = some (.ifCond .eq 8, 4, 9) := by decide +kernel
theorem i140_4 : ts_ins 140 4 = some (.iload_n 0, 5, 0) := by decide +kernel
theorem i140_5 : ts_ins 140 5 = some (.iconst 1, 6, 0) := by decide +kernel
theorem i140_6 : ts_ins 140 6 = some (.if_icmp .ne 7, 9, 13) := by decide +kernel
theorem i140_9 : ts_ins 140 9 = some (.iconst 1, 10, 0) := by decide +kernel
theorem i140_10 : ts_ins 140 10 = some (.goto 4, 13, 14) := by decide +kernel
theorem i140_13 : ts_ins 140 13 = some (.iconst 0, 14, 0) := by decide +kernel
theorem i140_14 : ts_ins 140 14 = some (.ireturn, 15, 0) := by decide +kernel
theorem r140 : ts_rt 140 = ((some .boolean), 0, 0) := by decide +kernel
theorem l140 : ts_ml 140 = 1 := by decide +kernel
theorem i19_0 : ts_ins 19 0 = some (.iload_n 1, 1, 0) := by decide +kernel
theorem i19_1 : ts_ins 19 1 = some (.ifCond .lt 15, 4, 16) := by decide +kernel
theorem i19_4 : ts_ins 19 4 = some (.iload_n 1, 5, 0) := by decide +kernel
theorem i19_5 : ts_ins 19 5 = some (.aload_n 0, 6, 0) := by decide +kernel
theorem i19_6 : ts_ins 19 6 = some (.getfield 38, 9, 0) := by decide +kernel
theorem g19_6 : ts_fm 19 38 = some (3, 8, 0) := by decide +kernel
theorem i19_9 : ts_ins 19 9 = some (.if_icmp .ge 7, 12, 16) := by decide +kernel
theorem i19_12 : ts_ins 19 12 = some (.iconst 1, 13, 0) := by decide +kernel
theorem i19_13 : ts_ins 19 13 = some (.goto 4, 16, 17) := by decide +kernel
theorem i19_16 : ts_ins 19 16 = some (.iconst 0, 17, 0) := by decide +kernel
theorem i19_17 : ts_ins 19 17 = some (.ireturn, 18, 0) := by decide +kernel
theorem r19 : ts_rt 19 = ((some .boolean), 0, 0) := by decide +kernel
theorem l19 : ts_ml 19 = 2 := by decide +kernel
theorem i20_0 : ts_ins 20 0 = some (.iload_n 1, 1, 0) := by decide +kernel
theorem i20_1 : ts_ins 20 1 = some (.ifCond .lt 15, 4, 16) := by decide +kernel
theorem i20_4 : ts_ins 20 4 = some (.iload_n 1, 5, 0) := by decide +kernel
theorem i20_5 : ts_ins 20 5 = some (.aload_n 0, 6, 0) := by decide +kernel
theorem i20_6 : ts_ins 20 6 = some (.getfield 42, 9, 0) := by decide +kernel
theorem g20_6 : ts_fm 20 42 = some (3, 9, 0) := by decide +kernel
theorem i20_9 : ts_ins 20 9 = some (.if_icmp .ge 7, 12, 16) := by decide +kernel
theorem i20_12 : ts_ins 20 12 = some (.iconst 1, 13, 0) := by decide +kernel
theorem i20_13 : ts_ins 20 13 = some (.goto 4, 16, 17) := by decide +kernel
theorem i20_16 : ts_ins 20 16 = some (.iconst 0, 17, 0) := by decide +kernel
theorem i20_17 : ts_ins 20 17 = some (.ireturn, 18, 0) := by decide +kernel
theorem r20 : ts_rt 20 = ((some .boolean), 0, 0) := by decide +kernel
theorem l20 : ts_ml 20 = 2 := by decide +kernel
theorem i143_0 : ts_ins 143 0 = some (.lload_n 0, 1, 0) := by decide +kernel
theorem i143_1 : ts_ins 143 1 = some (.lload_n 2, 2, 0) := by decide +kernel
theorem i143_2 : ts_ins 143 2 = some (.lcmp, 3, 0) := by decide +kernel
theorem i143_3 : ts_ins 143 3 = some (.ifCond .lt 14, 6, 17) := by decide +kernel
theorem i143_6 : ts_ins 143 6 = some (.lload_n 0, 7, 0) := by decide +kernel
theorem i143_7 : ts_ins 143 7 = some (.lload 4, 9, 0) := by decide +kernel
theorem i143_9 : ts_ins 143 9 = some (.lcmp, 10, 0) := by decide +kernel
theorem i143_10 : ts_ins 143 10 = some (.ifCond .gt 7, 13, 17) := by decide +kernel
theorem i143_13 : ts_ins 143 13 = some (.iconst 1, 14, 0) := by decide +kernel
theorem i143_14 : ts_ins 143 14 = some (.goto 4, 17, 18) := by decide +kernel
theorem i143_17 : ts_ins 143 17 = some (.iconst 0, 18, 0) := by decide +kernel
theorem i143_18 : ts_ins 143 18 = some (.ireturn, 19, 0) := by decide +kernel
theorem r143 : ts_rt 143 = ((some .boolean), 0, 0) := by decide +kernel
theorem l143 : ts_ml 143 = 6 := by decide +kernel
theorem i149_0 : ts_ins 149 0 = some (.lload_n 1, 1, 0) := by decide +kernel
theorem i149_1 : ts_ins 149 1 = some (.lconst 0, 2, 0) := by decide +kernel
theorem i149_2 : ts_ins 149 2 = some (.aload_n 0, 3, 0) := by decide +kernel
theorem i149_3 : ts_ins 149 3 = some (.getfield 99, 6, 0) := by decide +kernel
theorem g149_3 : ts_fm 149 99 = some (12, 6, 0) := by decide +kernel
theorem i149_6 : ts_ins 149 6 = some (.iconst 1, 7, 0) := by decide +kernel
theorem i149_7 : ts_ins 149 7 = some (.isub, 8, 0) := by decide +kernel
theorem i149_8 : ts_ins 149 8 = some (.i2l, 9, 0) := by decide +kernel
theorem i149_9 : ts_ins 149 9 = some (.invokestatic 95, 12, 0) := by decide +kernel
theorem g149_9 : ts_cal (ts_mc 149) 95 = some (1, 143, 3) := by decide +kernel
theorem i149_12 : ts_ins 149 12 = some (.ireturn, 13, 0) := by decide +kernel
theorem r149 : ts_rt 149 = ((some .boolean), 0, 0) := by decide +kernel
theorem l149 : ts_ml 149 = 3 := by decide +kernel
theorem i150_0 : ts_ins 150 0 = some (.lload_n 1, 1, 0) := by decide +kernel
theorem i150_1 : ts_ins 150 1 = some (.lconst 0, 2, 0) := by decide +kernel
theorem i150_2 : ts_ins 150 2 = some (.aload_n 0, 3, 0) := by decide +kernel
theorem i150_3 : ts_ins 150 3 = some (.getfield 102, 6, 0) := by decide +kernel
theorem g150_3 : ts_fm 150 102 = some (12, 7, 0) := by decide +kernel
theorem i150_6 : ts_ins 150 6 = some (.iconst 1, 7, 0) := by decide +kernel
theorem i150_7 : ts_ins 150 7 = some (.isub, 8, 0) := by decide +kernel
theorem i150_8 : ts_ins 150 8 = some (.i2l, 9, 0) := by decide +kernel
theorem i150_9 : ts_ins 150 9 = some (.invokestatic 95, 12, 0) := by decide +kernel
theorem g150_9 : ts_cal (ts_mc 150) 95 = some (1, 143, 3) := by decide +kernel
theorem i150_12 : ts_ins 150 12 = some (.ireturn, 13, 0) := by decide +kernel
theorem r150 : ts_rt 150 = ((some .boolean), 0, 0) := by decide +kernel
theorem l150 : ts_ml 150 = 3 := by decide +kernel
theorem i148_0 : ts_ins 148 0 = some (.lload_n 0, 1, 0) := by decide +kernel
theorem i148_1 : ts_ins 148 1 = some (.lconst 0, 2, 0) := by decide +kernel
theorem i148_2 : ts_ins 148 2 = some (.ldc2_w 93, 5, 0) := by decide +kernel
theorem g148_2 : ts_lc (ts_mc 148) 93 = some (.long (15)) := by decide +kernel
theorem i148_5 : ts_ins 148 5 = some (.invokestatic 95, 8, 0) := by decide +kernel
theorem g148_5 : ts_cal (ts_mc 148) 95 = some (1, 143, 3) := by decide +kernel
theorem i148_8 : ts_ins 148 8 = some (.ireturn, 9, 0) := by decide +kernel
theorem r148 : ts_rt 148 = ((some .boolean), 0, 0) := by decide +kernel
theorem l148 : ts_ml 148 = 2 := by decide +kernel
theorem i151_0 : ts_ins 151 0 = some (.lload_n 0, 1, 0) := by decide +kernel
theorem i151_1 : ts_ins 151 1 = some (.lconst 0, 2, 0) := by decide +kernel
theorem i151_2 : ts_ins 151 2 = some (.ldc2_w 105, 5, 0) := by decide +kernel
theorem g151_2 : ts_lc (ts_mc 151) 105 = some (.long (7)) := by decide +kernel
theorem i151_5 : ts_ins 151 5 = some (.invokestatic 95, 8, 0) := by decide +kernel
theorem g151_5 : ts_cal (ts_mc 151) 95 = some (1, 143, 3) := by decide +kernel
theorem i151_8 : ts_ins 151 8 = some (.ireturn, 9, 0) := by decide +kernel
theorem r151 : ts_rt 151 = ((some .boolean), 0, 0) := by decide +kernel
theorem l151 : ts_ml 151 = 2 := by decide +kernel
theorem i228_0 : ts_ins 228 0 = some (.iload_n 0, 1, 0) := by decide +kernel
theorem i228_1 : ts_ins 228 1 = some (.i2l, 2, 0) := by decide +kernel
theorem i228_2 : ts_ins 228 2 = some (.lconst 0, 3, 0) := by decide +kernel
theorem i228_3 : ts_ins 228 3 = some (.ldc2_w 126, 6, 0) := by decide +kernel
theorem g228_3 : ts_lc (ts_mc 228) 126 = some (.long (5)) := by decide +kernel
theorem i228_6 : ts_ins 228 6 = some (.invokestatic 95, 9, 0) := by decide +kernel
theorem g228_6 : ts_cal (ts_mc 228) 95 = some (1, 143, 3) := by decide +kernel
theorem i228_9 : ts_ins 228 9 = some (.ireturn, 10, 0) := by decide +kernel
theorem r228 : ts_rt 228 = ((some .boolean), 0, 0) := by decide +kernel
theorem l228 : ts_ml 228 = 1 := by decide +kernel
theorem i26_0 : ts_ins 26 0 = some (.aload_n 0, 1, 0) := by decide +kernel
theorem i26_1 : ts_ins 26 1 = some (.iload_n 1, 2, 0) := by decide +kernel
theorem i26_2 : ts_ins 26 2 = some (.invokevirtual 69, 5, 0) := by decide +kernel
theorem g26_2 : ts_cal (ts_mc 26) 69 = some (0, 19, 1) := by decide +kernel
theorem i26_5 : ts_ins 26 5 = some (.ifCond .eq 10, 8, 15) := by decide +kernel
theorem i26_8 : ts_ins 26 8 = some (.iload_n 2, 9, 0) := by decide +kernel
theorem i26_9 : ts_ins 26 9 = some (.invokestatic 65, 12, 0) := by decide +kernel
theorem g26_9 : ts_cal (ts_mc 26) 65 = some (3, 137, 1) := by decide +kernel
theorem i26_12 : ts_ins 26 12 = some (.ifCond .ne 5, 15, 17) := by decide +kernel
theorem i26_15 : ts_ins 26 15 = some (.iconst 0, 16, 0) := by decide +kernel
theorem i26_16 : ts_ins 26 16 = some (.ireturn, 17, 0) := by decide +kernel
theorem i26_17 : ts_ins 26 17 = some (.iload_n 2, 18, 0) := by decide +kernel
theorem i26_18 : ts_ins 26 18 = some (.iconst 4, 19, 0) := by decide +kernel
theorem i26_19 : ts_ins 26 19 = some (.irem, 20, 0) := by decide +kernel
theorem i26_20 : ts_ins 26 20 = some (.aload_n 0, 21, 0) := by decide +kernel
theorem i26_21 : ts_ins 26 21 = some (.getfield 18, 24, 0) := by decide +kernel
theorem g26_21 : ts_fm 26 18 = some (3, 2, 2) := by decide +kernel
theorem i26_24 : ts_ins 26 24 = some (.iload_n 1, 25, 0) := by decide +kernel
theorem i26_25 : ts_ins 26 25 = some (.iaload, 26, 0) := by decide +kernel
theorem i26_26 : ts_ins 26 26 = some (.iconst 4, 27, 0) := by decide +kernel
theorem i26_27 : ts_ins 26 27 = some (.irem, 28, 0) := by decide +kernel
theorem i26_28 : ts_ins 26 28 = some (.isub, 29, 0) := by decide +kernel
theorem i26_29 : ts_ins 26 29 = some (.invokestatic 83, 32, 0) := by decide +kernel
theorem g26_29 : ts_cal (ts_mc 26) 83 = some (7, 0, 1) := by decide +kernel
theorem i26_32 : ts_ins 26 32 = some (.istore_n 3, 33, 0) := by decide +kernel
theorem i26_33 : ts_ins 26 33 = some (.iload_n 2, 34, 0) := by decide +kernel
theorem i26_34 : ts_ins 26 34 = some (.iconst 4, 35, 0) := by decide +kernel
theorem i26_35 : ts_ins 26 35 = some (.idiv, 36, 0) := by decide +kernel
theorem i26_36 : ts_ins 26 36 = some (.aload_n 0, 37, 0) := by decide +kernel
theorem i26_37 : ts_ins 26 37 = some (.getfield 18, 40, 0) := by decide +kernel
theorem g26_37 : ts_fm 26 18 = some (3, 2, 2) := by decide +kernel
theorem i26_40 : ts_ins 26 40 = some (.iload_n 1, 41, 0) := by decide +kernel
theorem i26_41 : ts_ins 26 41 = some (.iaload, 42, 0) := by decide +kernel
theorem i26_42 : ts_ins 26 42 = some (.iconst 4, 43, 0) := by decide +kernel
theorem i26_43 : ts_ins 26 43 = some (.idiv, 44, 0) := by decide +kernel
theorem i26_44 : ts_ins 26 44 = some (.isub, 45, 0) := by decide +kernel
theorem i26_45 : ts_ins 26 45 = some (.invokestatic 83, 48, 0) := by decide +kernel
theorem g26_45 : ts_cal (ts_mc 26) 83 = some (7, 0, 1) := by decide +kernel
theorem i26_48 : ts_ins 26 48 = some (.istore 4, 50, 0) := by decide +kernel
theorem i26_50 : ts_ins 26 50 = some (.iload_n 3, 51, 0) := by decide +kernel
theorem i26_51 : ts_ins 26 51 = some (.iload 4, 53, 0) := by decide +kernel
theorem i26_53 : ts_ins 26 53 = some (.iadd, 54, 0) := by decide +kernel
theorem i26_54 : ts_ins 26 54 = some (.aload_n 0, 55, 0) := by decide +kernel
theorem i26_55 : ts_ins 26 55 = some (.getfield 21, 58, 0) := by decide +kernel
theorem g26_55 : ts_fm 26 21 = some (3, 3, 2) := by decide +kernel
theorem i26_58 : ts_ins 26 58 = some (.iload_n 1, 59, 0) := by decide +kernel
theorem i26_59 : ts_ins 26 59 = some (.iaload, 60, 0) := by decide +kernel
theorem i26_60 : ts_ins 26 60 = some (.if_icmp .gt 7, 63, 67) := by decide +kernel
theorem i26_63 : ts_ins 26 63 = some (.iconst 1, 64, 0) := by decide +kernel
theorem i26_64 : ts_ins 26 64 = some (.goto 4, 67, 68) := by decide +kernel
theorem i26_67 : ts_ins 26 67 = some (.iconst 0, 68, 0) := by decide +kernel
theorem i26_68 : ts_ins 26 68 = some (.ireturn, 69, 0) := by decide +kernel
theorem r26 : ts_rt 26 = ((some .boolean), 0, 0) := by decide +kernel
theorem l26 : ts_ml 26 = 5 := by decide +kernel
theorem i172_0 : ts_ins 172 0 = some (.iload_n 0, 1, 0) := by decide +kernel
theorem i172_1 : ts_ins 172 1 = some (.iconst 4, 2, 0) := by decide +kernel
theorem i172_2 : ts_ins 172 2 = some (.irem, 3, 0) := by decide +kernel
theorem i172_3 : ts_ins 172 3 = some (.iload_n 1, 4, 0) := by decide +kernel
theorem i172_4 : ts_ins 172 4 = some (.iconst 4, 5, 0) := by decide +kernel
theorem i172_5 : ts_ins 172 5 = some (.irem, 6, 0) := by decide +kernel
theorem i172_6 : ts_ins 172 6 = some (.isub, 7, 0) := by decide +kernel
theorem i172_7 : ts_ins 172 7 = some (.istore_n 2, 8, 0) := by decide +kernel
theorem i172_8 : ts_ins 172 8 = some (.iload_n 0, 9, 0) := by decide +kernel
theorem i172_9 : ts_ins 172 9 = some (.iconst 4, 10, 0) := by decide +kernel
theorem i172_10 : ts_ins 172 10 = some (.idiv, 11, 0) := by decide +kernel
theorem i172_11 : ts_ins 172 11 = some (.iload_n 1, 12, 0) := by decide +kernel
theorem i172_12 : ts_ins 172 12 = some (.iconst 4, 13, 0) := by decide +kernel
theorem i172_13 : ts_ins 172 13 = some (.idiv, 14, 0) := by decide +kernel
theorem i172_14 : ts_ins 172 14 = some (.isub, 15, 0) := by decide +kernel
theorem i172_15 : ts_ins 172 15 = some (.istore_n 3, 16, 0) := by decide +kernel
theorem i172_16 : ts_ins 172 16 = some (.iload_n 2, 17, 0) := by decide +kernel
theorem i172_17 : ts_ins 172 17 = some (.ifCond .ge 8, 20, 25) := by decide +kernel
theorem i172_20 : ts_ins 172 20 = some (.iload_n 2, 21, 0) := by decide +kernel
theorem i172_21 : ts_ins 172 21 = some (.ineg, 22, 0) := by decide +kernel
theorem i172_22 : ts_ins 172 22 = some (.goto 4, 25, 26) := by decide +kernel
theorem i172_25 : ts_ins 172 25 = some (.iload_n 2, 26, 0) := by decide +kernel
theorem i172_26 : ts_ins 172 26 = some (.iload_n 3, 27, 0) := by decide +kernel
theorem i172_27 : ts_ins 172 27 = some (.ifCond .ge 8, 30, 35) := by decide +kernel
theorem i172_30 : ts_ins 172 30 = some (.iload_n 3, 31, 0) := by decide +kernel
theorem i172_31 : ts_ins 172 31 = some (.ineg, 32, 0) := by decide +kernel
theorem i172_32 : ts_ins 172 32 = some (.goto 4, 35, 36) := by decide +kernel
theorem i172_35 : ts_ins 172 35 = some (.iload_n 3, 36, 0) := by decide +kernel
theorem i172_36 : ts_ins 172 36 = some (.iadd, 37, 0) := by decide +kernel
theorem i172_37 : ts_ins 172 37 = some (.ireturn, 38, 0) := by decide +kernel
theorem r172 : ts_rt 172 = ((some .int), 0, 0) := by decide +kernel
theorem l172 : ts_ml 172 = 4 := by decide +kernel
theorem i173_0 : ts_ins 173 0 = some (.aload_n 0, 1, 0) := by decide +kernel
theorem i173_1 : ts_ins 173 1 = some (.getfield 9, 4, 0) := by decide +kernel
theorem g173_1 : ts_fm 173 9 = some (12, 0, 2) := by decide +kernel
theorem i173_4 : ts_ins 173 4 = some (.bipush 32, 6, 0) := by decide +kernel
theorem i173_6 : ts_ins 173 6 = some (.iload_n 1, 7, 0) := by decide +kernel
theorem i173_7 : ts_ins 173 7 = some (.iadd, 8, 0) := by decide +kernel
theorem i173_8 : ts_ins 173 8 = some (.iaload, 9, 0) := by decide +kernel
theorem i173_9 : ts_ins 173 9 = some (.iload_n 2, 10, 0) := by decide +kernel
theorem i173_10 : ts_ins 173 10 = some (.invokestatic 198, 13, 0) := by decide +kernel
theorem g173_10 : ts_cal (ts_mc 173) 198 = some (1, 172, 2) := by decide +kernel
theorem i173_13 : ts_ins 173 13 = some (.aload_n 0, 14, 0) := by decide +kernel
theorem i173_14 : ts_ins 173 14 = some (.getfield 9, 17, 0) := by decide +kernel
theorem g173_14 : ts_fm 173 9 = some (12, 0, 2) := by decide +kernel
theorem i173_17 : ts_ins 173 17 = some (.bipush 36, 19, 0) := by decide +kernel
theorem i173_19 : ts_ins 173 19 = some (.iload_n 1, 20, 0) := by decide +kernel
theorem i173_20 : ts_ins 173 20 = some (.iadd, 21, 0) := by decide +kernel
theorem i173_21 : ts_ins 173 21 = some (.iaload, 22, 0) := by decide +kernel
theorem i173_22 : ts_ins 173 22 = some (.if_icmp .gt 7, 25, 29) := by decide +kernel
theorem i173_25 : ts_ins 173 25 = some (.iconst 1, 26, 0) := by decide +kernel
theorem i173_26 : ts_ins 173 26 = some (.goto 4, 29, 30) := by decide +kernel
theorem i173_29 : ts_ins 173 29 = some (.iconst 0, 30, 0) := by decide +kernel
theorem i173_30 : ts_ins 173 30 = some (.ireturn, 31, 0) := by decide +kernel
theorem r173 : ts_rt 173 = ((some .boolean), 0, 0) := by decide +kernel
theorem l173 : ts_ml 173 = 3 := by decide +kernel
theorem i25_0 : ts_ins 25 0 = some (.aload_n 0, 1, 0) := by decide +kernel
theorem i25_1 : ts_ins 25 1 = some (.getfield 38, 4, 0) := by decide +kernel
theorem g25_1 : ts_fm 25 38 = some (3, 8, 0) := by decide +kernel
theorem i25_4 : ts_ins 25 4 = some (.ifCond .le 16, 7, 20) := by decide +kernel
theorem i25_7 : ts_ins 25 7 = some (.iload_n 1, 8, 0) := by decide +kernel
theorem i25_8 : ts_ins 25 8 = some (.ifCond .lt 12, 11, 20) := by decide +kernel
theorem i25_11 : ts_ins 25 11 = some (.iload_n 1, 12, 0) := by decide +kernel
theorem i25_12 : ts_ins 25 12 = some (.aload_n 0, 13, 0) := by decide +kernel
theorem i25_13 : ts_ins 25 13 = some (.getfield 38, 16, 0) := by decide +kernel
theorem g25_13 : ts_fm 25 38 = some (3, 8, 0) := by decide +kernel
theorem i25_16 : ts_ins 25 16 = some (.irem, 17, 0) := by decide +kernel
theorem i25_17 : ts_ins 25 17 = some (.goto 5, 20, 22) := by decide +kernel
theorem i25_20 : ts_ins 25 20 = some (.bipush (-2), 22, 0) := by decide +kernel
theorem i25_22 : ts_ins 25 22 = some (.ireturn, 23, 0) := by decide +kernel
theorem r25 : ts_rt 25 = ((some .int), 0, 0) := by decide +kernel
theorem l25 : ts_ml 25 = 2 := by decide +kernel
theorem i27_0 : ts_ins 27 0 = some (.iconst 0, 1, 0) := by decide +kernel
theorem i27_1 : ts_ins 27 1 = some (.istore_n 2, 2, 0) := by decide +kernel
theorem i27_2 : ts_ins 27 2 = some (.iconst 0, 3, 0) := by decide +kernel
theorem i27_3 : ts_ins 27 3 = some (.istore_n 3, 4, 0) := by decide +kernel
theorem i27_4 : ts_ins 27 4 = some (.iload_n 3, 5, 0) := by decide +kernel
theorem i27_5 : ts_ins 27 5 = some (.bipush 16, 7, 0) := by decide +kernel
theorem i27_7 : ts_ins 27 7 = some (.if_icmp .ge 24, 10, 31) := by decide +kernel
theorem i27_10 : ts_ins 27 10 = some (.aload_n 0, 11, 0) := by decide +kernel
theorem i27_11 : ts_ins 27 11 = some (.iload_n 1, 12, 0) := by decide +kernel
theorem i27_12 : ts_ins 27 12 = some (.iload_n 3, 13, 0) := by decide +kernel
theorem i27_13 : ts_ins 27 13 = some (.invokevirtual 89, 16, 0) := by decide +kernel
theorem g27_13 : ts_cal (ts_mc 27) 89 = some (0, 26, 2) := by decide +kernel
theorem i27_16 : ts_ins 27 16 = some (.ifCond .eq 9, 19, 25) := by decide +kernel
theorem i27_19 : ts_ins 27 19 = some (.iload_n 2, 20, 0) := by decide +kernel
theorem i27_20 : ts_ins 27 20 = some (.iconst 1, 21, 0) := by decide +kernel
theorem i27_21 : ts_ins 27 21 = some (.iload_n 3, 22, 0) := by decide +kernel
theorem i27_22 : ts_ins 27 22 = some (.ishl, 23, 0) := by decide +kernel
theorem i27_23 : ts_ins 27 23 = some (.ior, 24, 0) := by decide +kernel
theorem i27_24 : ts_ins 27 24 = some (.istore_n 2, 25, 0) := by decide +kernel
theorem i27_25 : ts_ins 27 25 = some (.iinc 3 1, 28, 0) := by decide +kernel
theorem i27_28 : ts_ins 27 28 = some (.goto (-24), 31, 4) := by decide +kernel
theorem i27_31 : ts_ins 27 31 = some (.iload_n 2, 32, 0) := by decide +kernel
theorem i27_32 : ts_ins 27 32 = some (.ireturn, 33, 0) := by decide +kernel
theorem r27 : ts_rt 27 = ((some .int), 0, 0) := by decide +kernel
theorem l27 : ts_ml 27 = 4 := by decide +kernel
theorem i100_0 : ts_ins 100 0 = some (.aload_n 0, 1, 0) := by decide +kernel
theorem i100_1 : ts_ins 100 1 = some (.getfield 10, 4, 0) := by decide +kernel
theorem g100_1 : ts_fm 100 10 = some (11, 0, 2) := by decide +kernel
theorem i100_4 : ts_ins 100 4 = some (.iload_n 1, 5, 0) := by decide +kernel
theorem i100_5 : ts_ins 100 5 = some (.invokevirtual 157, 8, 0) := by decide +kernel
theorem g100_5 : ts_cal (ts_mc 100) 157 = some (0, 19, 1) := by decide +kernel
theorem i100_8 : ts_ins 100 8 = some (.ifCond .eq 14, 11, 22) := by decide +kernel
theorem i100_11 : ts_ins 100 11 = some (.aload_n 0, 12, 0) := by decide +kernel
theorem i100_12 : ts_ins 100 12 = some (.getfield 10, 15, 0) := by decide +kernel
theorem g100_12 : ts_fm 100 10 = some (11, 0, 2) := by decide +kernel
theorem i100_15 : ts_ins 100 15 = some (.iload_n 1, 16, 0) := by decide +kernel
theorem i100_16 : ts_ins 100 16 = some (.invokevirtual 160, 19, 0) := by decide +kernel
theorem g100_16 : ts_cal (ts_mc 100) 160 = some (0, 27, 1) := by decide +kernel
theorem i100_19 : ts_ins 100 19 = some (.goto 4, 22, 23) := by decide +kernel
theorem i100_22 : ts_ins 100 22 = some (.iconst (-1), 23, 0) := by decide +kernel
theorem i100_23 : ts_ins 100 23 = some (.ireturn, 24, 0) := by decide +kernel
theorem r100 : ts_rt 100 = ((some .int), 0, 0) := by decide +kernel
theorem l100 : ts_ml 100 = 2 := by decide +kernel
theorem i174_0 : ts_ins 174 0 = some (.aload_n 0, 1, 0) := by decide +kernel
theorem i174_1 : ts_ins 174 1 = some (.iload_n 1, 2, 0) := by decide +kernel
theorem i174_2 : ts_ins 174 2 = some (.i2l, 3, 0) := by decide +kernel
theorem i174_3 : ts_ins 174 3 = some (.invokevirtual 128, 6, 0) := by decide +kernel
theorem g174_3 : ts_cal (ts_mc 174) 128 = some (0, 149, 1) := by decide +kernel
theorem i174_6 : ts_ins 174 6 = some (.ifCond .ne 5, 9, 11) := by decide +kernel
theorem i174_9 : ts_ins 174 9 = some (.iconst (-1), 10, 0) := by decide +kernel
theorem i174_10 : ts_ins 174 10 = some (.ireturn, 11, 0) := by decide +kernel
theorem i174_11 : ts_ins 174 11 = some (.iconst 0, 12, 0) := by decide +kernel
theorem i174_12 : ts_ins 174 12 = some (.istore_n 2, 13, 0) := by decide +kernel
theorem i174_13 : ts_ins 174 13 = some (.iconst 0, 14, 0) := by decide +kernel
theorem i174_14 : ts_ins 174 14 = some (.istore_n 3, 15, 0) := by decide +kernel
theorem i174_15 : ts_ins 174 15 = some (.iload_n 3, 16, 0) := by decide +kernel
theorem i174_16 : ts_ins 174 16 = some (.bipush 16, 18, 0) := by decide +kernel
theorem i174_18 : ts_ins 174 18 = some (.if_icmp .ge 28, 21, 46) := by decide +kernel
theorem i174_21 : ts_ins 174 21 = some (.iload_n 2, 22, 0) := by decide +kernel
theorem i174_22 : ts_ins 174 22 = some (.aload_n 0, 23, 0) := by decide +kernel
theorem i174_23 : ts_ins 174 23 = some (.iload_n 1, 24, 0) := by decide +kernel
theorem i174_24 : ts_ins 174 24 = some (.iload_n 3, 25, 0) := by decide +kernel
theorem i174_25 : ts_ins 174 25 = some (.invokevirtual 201, 28, 0) := by decide +kernel
theorem g174_25 : ts_cal (ts_mc 174) 201 = some (0, 173, 2) := by decide +kernel
theorem i174_28 : ts_ins 174 28 = some (.ifCond .eq 9, 31, 37) := by decide +kernel
theorem i174_31 : ts_ins 174 31 = some (.iconst 1, 32, 0) := by decide +kernel
theorem i174_32 : ts_ins 174 32 = some (.iload_n 3, 33, 0) := by decide +kernel
theorem i174_33 : ts_ins 174 33 = some (.ishl, 34, 0) := by decide +kernel
theorem i174_34 : ts_ins 174 34 = some (.goto 4, 37, 38) := by decide +kernel
theorem i174_37 : ts_ins 174 37 = some (.iconst 0, 38, 0) := by decide +kernel
theorem i174_38 : ts_ins 174 38 = some (.ior, 39, 0) := by decide +kernel
theorem i174_39 : ts_ins 174 39 = some (.istore_n 2, 40, 0) := by decide +kernel
theorem i174_40 : ts_ins 174 40 = some (.iinc 3 1, 43, 0) := by decide +kernel
theorem i174_43 : ts_ins 174 43 = some (.goto (-28), 46, 15) := by decide +kernel
theorem i174_46 : ts_ins 174 46 = some (.iload_n 2, 47, 0) := by decide +kernel
theorem i174_47 : ts_ins 174 47 = some (.ireturn, 48, 0) := by decide +kernel
theorem r174 : ts_rt 174 = ((some .int), 0, 0) := by decide +kernel
theorem l174 : ts_ml 174 = 4 := by decide +kernel
/-! the leaves: ranges, who is there, who reaches what -/
section LEAF
variable {X : ts_X} {I : Nat → Nat → Int32} {L : Nat → Nat → Int64} {sw : Bool} {K : Option Value → ts_H → Prop} {d : Nat} {f : ts_Fl}
theorem x_isPlank {x : Int} (hx : -2147483648 ≤ x ∧ x ≤ 2147483647) (hK : K (some (.int (zI (if 0 ≤ x ∧ x < 16 then 1 else 0)))) (I, L, ts_P0 sw, ts_S0)) : ts_Cal X (d + 1) 137 [.int (zI (x))] (I, L, ts_P0 sw, ts_S0) K := by
  refine ev_enter (lv := [.int (zI (x))]) l137 rfl (Nat.le_of_ble_eq_true rfl) ?_
  refine ev_iloadn_0 i137_0 ?_
  refine ew_iflt i137_1 (by omega) (fun c1 => ?_) (fun c1 => ?_)
  · refine ew_iconst i137_14 ?_
    exact ew_zreturn i137_15 r137 (by omega) hK
  · refine ev_iloadn_0 i137_4 ?_
    refine ew_bipush i137_5 (by decide) ?_
    refine ew_icmpge i137_7 (by omega) (fun c7 => ?_) (fun c7 => ?_)
    · refine ew_iconst i137_14 ?_
      exact ew_zreturn i137_15 r137 (by omega) hK
    · refine ew_iconst i137_10 ?_
      refine ev_goto i137_11 ?_
      exact ew_zreturn i137_15 r137 (by omega) hK
theorem x_isShelf {x : Int} (hx : -2147483648 ≤ x ∧ x ≤ 2147483647) (hK : K (some (.int (zI (if 0 ≤ x ∧ x < 6 then 1 else 0)))) (I, L, ts_P0 sw, ts_S0)) : ts_Cal X (d + 1) 138 [.int (zI (x))] (I, L, ts_P0 sw, ts_S0) K := by
  refine ev_enter (lv := [.int (zI (x))]) l138 rfl (Nat.le_of_ble_eq_true rfl) ?_
  refine ev_iloadn_0 i138_0 ?_
  refine ew_iflt i138_1 (by omega) (fun c1 => ?_) (fun c1 => ?_)
  · refine ew_iconst i138_14 ?_
    exact ew_zreturn i138_15 r138 (by omega) hK
  · refine ev_iloadn_0 i138_4 ?_
    refine ew_bipush i138_5 (by decide) ?_
    refine ew_icmpge i138_7 (by omega) (fun c7 => ?_) (fun c7 => ?_)
    · refine ew_iconst i138_14 ?_
      exact ew_zreturn i138_15 r138 (by omega) hK
    · refine ew_iconst i138_10 ?_
      refine ev_goto i138_11 ?_
      exact ew_zreturn i138_15 r138 (by omega) hK
theorem x_isKind {x : Int} (hx : -2147483648 ≤ x ∧ x ≤ 2147483647) (hK : K (some (.int (zI (if 0 ≤ x ∧ x < 8 then 1 else 0)))) (I, L, ts_P0 sw, ts_S0)) : ts_Cal X (d + 1) 139 [.int (zI (x))] (I, L, ts_P0 sw, ts_S0) K := by
  refine ev_enter (lv := [.int (zI (x))]) l139 rfl (Nat.le_of_ble_eq_true rfl) ?_
  refine ev_iloadn_0 i139_0 ?_
  refine ew_iflt i139_1 (by omega) (fun c1 => ?_) (fun c1 => ?_)
  · refine ew_iconst i139_14 ?_
    exact ew_zreturn i139_15 r139 (by omega) hK
  · refine ev_iloadn_0 i139_4 ?_
    refine ew_bipush i139_5 (by decide) ?_
    refine ew_icmpge i139_7 (by omega) (fun c7 => ?_) (fun c7 => ?_)
    · refine ew_iconst i139_14 ?_
      exact ew_zreturn i139_15 r139 (by omega) hK
    · refine ew_iconst i139_10 ?_
      refine ev_goto i139_11 ?_
      exact ew_zreturn i139_15 r139 (by omega) hK
theorem x_isPart {x : Int} (hx : -2147483648 ≤ x ∧ x ≤ 2147483647) (hK : K (some (.int (zI (if 0 ≤ x ∧ x ≤ 1 then 1 else 0)))) (I, L, ts_P0 sw, ts_S0)) : ts_Cal X (d + 1) 140 [.int (zI (x))] (I, L, ts_P0 sw, ts_S0) K := by
  refine ev_enter (lv := [.int (zI (x))]) l140 rfl (Nat.le_of_ble_eq_true rfl) ?_
  refine ev_iloadn_0 i140_0 ?_
  first
  | refine ew_ifeqB i140_1 (fun c1 => ?_) (fun c1 => ?_)
  | refine ew_ifeq i140_1 (by omega) (fun c1 => ?_) (fun c1 => ?_)
  · refine ew_iconst i140_9 ?_
    refine ev_goto i140_10 ?_
    exact ew_zreturn i140_14 r140 (by omega) hK
  · refine ev_iloadn_0 i140_4 ?_
    refine ew_iconst i140_5 ?_
    refine ew_icmpne i140_6 (by omega) (fun c6 => ?_) (fun c6 => ?_)
    · refine ew_iconst i140_13 ?_
      exact ew_zreturn i140_14 r140 (by omega) hK
    · refine ew_iconst i140_9 ?_
      refine ev_goto i140_10 ?_
      exact ew_zreturn i140_14 r140 (by omega) hK
theorem x_hasMan (hX : RX I f) {x : Int} (hx : -2147483648 ≤ x ∧ x ≤ 2147483647) (hK : K (some (.int (zI (if 0 ≤ x ∧ x < f_men f then 1 else 0)))) (I, L, ts_P0 sw, ts_S0)) : ts_Cal X (d + 1) 19 [.ref 2, .int (zI (x))] (I, L, ts_P0 sw, ts_S0) K := by
  refine ev_enter (lv := [.ref 2, .int (zI (x))]) l19 rfl (Nat.le_of_ble_eq_true rfl) ?_
  refine ev_iloadn_1 i19_0 ?_
  refine ew_iflt i19_1 (by omega) (fun c1 => ?_) (fun c1 => ?_)
  · refine ew_iconst i19_16 ?_
    exact ew_zreturn i19_17 r19 (by omega) hK
  · refine ev_iloadn_1 i19_4 ?_
    refine ev_aloadn_0 i19_5 ?_
    refine ew_getI i19_6 g19_6 rfl (by first | exact hX.men | exact hX.told | exact hX.road | exact hX.tone _ (by omega) (by omega) | exact hX.corn _ (by omega) (by omega) | exact hX.stand _ (by omega) (by omega) | exact hX.reach _ (by omega) (by omega) | exact hX.arm _ (by omega) (by omega) | exact hX.late _ (by omega) (by omega) | exact hX.len _ (by omega) (by omega) | exact hX.say (by omega) (by omega) _ (by omega) (by omega)) (fun b6 => ?_)
    refine ew_icmpge i19_9 (by omega) (fun c9 => ?_) (fun c9 => ?_)
    · refine ew_iconst i19_16 ?_
      exact ew_zreturn i19_17 r19 (by omega) hK
    · refine ew_iconst i19_12 ?_
      refine ev_goto i19_13 ?_
      exact ew_zreturn i19_17 r19 (by omega) hK
theorem x_hasSaying (hX : RX I f) {x : Int} (hx : -2147483648 ≤ x ∧ x ≤ 2147483647) (hK : K (some (.int (zI (if 0 ≤ x ∧ x < f_told f then 1 else 0)))) (I, L, ts_P0 sw, ts_S0)) : ts_Cal X (d + 1) 20 [.ref 2, .int (zI (x))] (I, L, ts_P0 sw, ts_S0) K := by
  refine ev_enter (lv := [.ref 2, .int (zI (x))]) l20 rfl (Nat.le_of_ble_eq_true rfl) ?_
  refine ev_iloadn_1 i20_0 ?_
  refine ew_iflt i20_1 (by omega) (fun c1 => ?_) (fun c1 => ?_)
  · refine ew_iconst i20_16 ?_
    exact ew_zreturn i20_17 r20 (by omega) hK
  · refine ev_iloadn_1 i20_4 ?_
    refine ev_aloadn_0 i20_5 ?_
    refine ew_getI i20_6 g20_6 rfl (by first | exact hX.men | exact hX.told | exact hX.road | exact hX.tone _ (by omega) (by omega) | exact hX.corn _ (by omega) (by omega) | exact hX.stand _ (by omega) (by omega) | exact hX.reach _ (by omega) (by omega) | exact hX.arm _ (by omega) (by omega) | exact hX.late _ (by omega) (by omega) | exact hX.len _ (by omega) (by omega) | exact hX.say (by omega) (by omega) _ (by omega) (by omega)) (fun b6 => ?_)
    refine ew_icmpge i20_9 (by omega) (fun c9 => ?_) (fun c9 => ?_)
    · refine ew_iconst i20_16 ?_
      exact ew_zreturn i20_17 r20 (by omega) hK
    · refine ew_iconst i20_12 ?_
      refine ev_goto i20_13 ?_
      exact ew_zreturn i20_17 r20 (by omega) hK
theorem m_within {a b c : Int} (ha : -9223372036854775808 ≤ a ∧ a ≤ 9223372036854775807) (hb : -9223372036854775808 ≤ b ∧ b ≤ 9223372036854775807) (hc : -9223372036854775808 ≤ c ∧ c ≤ 9223372036854775807) (hK : K (some (.int (zI (if b ≤ a ∧ a ≤ c then 1 else 0)))) (I, L, ts_P0 sw, ts_S0)) : ts_Cal X (d + 1) 143 [.long (zL (a)), .long (zL (b)), .long (zL (c))] (I, L, ts_P0 sw, ts_S0) K := by
  refine ev_enter (lv := [.long (zL (a)), .null, .long (zL (b)), .null, .long (zL (c)), .null]) l143 rfl (Nat.le_of_ble_eq_true rfl) ?_
  refine ev_lloadn_0 i143_0 ?_
  refine ev_lloadn_2 i143_1 ?_
  refine ew_lcmp i143_2 (by omega) (by omega) ?_
  refine ew_iflt i143_3 (by omega) (fun c3 => ?_) (fun c3 => ?_)
  · refine ew_iconst i143_17 ?_
    exact ew_zreturn i143_18 r143 (by omega) hK
  · refine ev_lloadn_0 i143_6 ?_
    refine ev_lload_4 i143_7 ?_
    refine ew_lcmp i143_9 (by omega) (by omega) ?_
    refine ew_ifgt i143_10 (by omega) (fun c10 => ?_) (fun c10 => ?_)
    · refine ew_iconst i143_17 ?_
      exact ew_zreturn i143_18 r143 (by omega) hK
    · refine ew_iconst i143_13 ?_
      refine ev_goto i143_14 ?_
      exact ew_zreturn i143_18 r143 (by omega) hK
theorem m_isMan (hM : RM I f) {x : Int} (hx : -9223372036854775808 ≤ x ∧ x ≤ 9223372036854775807) (hK : K (some (.int (zI (if 0 ≤ x ∧ x < f_men f then 1 else 0)))) (I, L, ts_P0 sw, ts_S0)) : ts_Cal X (d + 2) 149 [.ref 72, .long (zL (x))] (I, L, ts_P0 sw, ts_S0) K := by
  refine ev_enter (lv := [.ref 72, .long (zL (x)), .null]) l149 rfl (Nat.le_of_ble_eq_true rfl) ?_
  refine ev_lloadn_1 i149_0 ?_
  refine ew_lconst (z := 0) i149_1 (by decide) ?_
  refine ev_aloadn_0 i149_2 ?_
  refine ew_getI i149_3 g149_3 rfl (by first | exact hM.men | exact hM.told | exact hM.road | exact hM.stand _ (by omega) (by omega) | exact hM.reach _ (by omega) (by omega) | exact hM.arm _ (by omega) (by omega) | exact hM.late _ (by omega) (by omega) | exact hM.len _ (by omega) (by omega) | exact hM.corn _ (by omega) (by omega) | exact hM.say (by omega) (by omega) _ (by omega) (by omega) | exact hM.tone _ (by omega) (by omega)) (fun b3 => ?_)
  refine ew_iconst i149_6 ?_
  refine ew_isub i149_7 ?_
  refine ew_i2l i149_8 (by omega) ?_
  refine ev_stat3 i149_9 g149_9 (by decide +kernel) (Nat.le_of_ble_eq_true rfl) (m_within (by omega) (by omega) (by omega) ?_)
  exact ew_zreturn i149_12 r149 (by omega) hK
theorem m_isSaying (hM : RM I f) {x : Int} (hx : -9223372036854775808 ≤ x ∧ x ≤ 9223372036854775807) (hK : K (some (.int (zI (if 0 ≤ x ∧ x < f_told f then 1 else 0)))) (I, L, ts_P0 sw, ts_S0)) : ts_Cal X (d + 2) 150 [.ref 72, .long (zL (x))] (I, L, ts_P0 sw, ts_S0) K := by
  refine ev_enter (lv := [.ref 72, .long (zL (x)), .null]) l150 rfl (Nat.le_of_ble_eq_true rfl) ?_
  refine ev_lloadn_1 i150_0 ?_
  refine ew_lconst (z := 0) i150_1 (by decide) ?_
  refine ev_aloadn_0 i150_2 ?_
  refine ew_getI i150_3 g150_3 rfl (by first | exact hM.men | exact hM.told | exact hM.road | exact hM.stand _ (by omega) (by omega) | exact hM.reach _ (by omega) (by omega) | exact hM.arm _ (by omega) (by omega) | exact hM.late _ (by omega) (by omega) | exact hM.len _ (by omega) (by omega) | exact hM.corn _ (by omega) (by omega) | exact hM.say (by omega) (by omega) _ (by omega) (by omega) | exact hM.tone _ (by omega) (by omega)) (fun b3 => ?_)
  refine ew_iconst i150_6 ?_
  refine ew_isub i150_7 ?_
  refine ew_i2l i150_8 (by omega) ?_
  refine ev_stat3 i150_9 g150_9 (by decide +kernel) (Nat.le_of_ble_eq_true rfl) (m_within (by omega) (by omega) (by omega) ?_)
  exact ew_zreturn i150_12 r150 (by omega) hK
theorem m_isPlank {x : Int} (hx : -9223372036854775808 ≤ x ∧ x ≤ 9223372036854775807) (hK : K (some (.int (zI (if 0 ≤ x ∧ x < 16 then 1 else 0)))) (I, L, ts_P0 sw, ts_S0)) : ts_Cal X (d + 2) 148 [.long (zL (x))] (I, L, ts_P0 sw, ts_S0) K := by
  refine ev_enter (lv := [.long (zL (x)), .null]) l148 rfl (Nat.le_of_ble_eq_true rfl) ?_
  refine ev_lloadn_0 i148_0 ?_
  refine ew_lconst (z := 0) i148_1 (by decide) ?_
  refine ew_ldc2_w (z := (15)) i148_2 g148_2 (by decide) ?_
  refine ev_stat3 i148_5 g148_5 (by decide +kernel) (Nat.le_of_ble_eq_true rfl) (m_within (by omega) (by omega) (by omega) ?_)
  exact ew_zreturn i148_8 r148 (by omega) hK
theorem m_isTone {x : Int} (hx : -9223372036854775808 ≤ x ∧ x ≤ 9223372036854775807) (hK : K (some (.int (zI (if 0 ≤ x ∧ x < 8 then 1 else 0)))) (I, L, ts_P0 sw, ts_S0)) : ts_Cal X (d + 2) 151 [.long (zL (x))] (I, L, ts_P0 sw, ts_S0) K := by
  refine ev_enter (lv := [.long (zL (x)), .null]) l151 rfl (Nat.le_of_ble_eq_true rfl) ?_
  refine ev_lloadn_0 i151_0 ?_
  refine ew_lconst (z := 0) i151_1 (by decide) ?_
  refine ew_ldc2_w (z := (7)) i151_2 g151_2 (by decide) ?_
  refine ev_stat3 i151_5 g151_5 (by decide +kernel) (Nat.le_of_ble_eq_true rfl) (m_within (by omega) (by omega) (by omega) ?_)
  exact ew_zreturn i151_8 r151 (by omega) hK
theorem m_isShelf {x : Int} (hx : -2147483648 ≤ x ∧ x ≤ 2147483647) (hK : K (some (.int (zI (if 0 ≤ x ∧ x < 6 then 1 else 0)))) (I, L, ts_P0 sw, ts_S0)) : ts_Cal X (d + 2) 228 [.int (zI (x))] (I, L, ts_P0 sw, ts_S0) K := by
  refine ev_enter (lv := [.int (zI (x))]) l228 rfl (Nat.le_of_ble_eq_true rfl) ?_
  refine ev_iloadn_0 i228_0 ?_
  refine ew_i2l i228_1 (by omega) ?_
  refine ew_lconst (z := 0) i228_2 (by decide) ?_
  refine ew_ldc2_w (z := (5)) i228_3 g228_3 (by decide) ?_
  refine ev_stat3 i228_6 g228_6 (by decide +kernel) (Nat.le_of_ble_eq_true rfl) (m_within (by omega) (by omega) (by omega) ?_)
  exact ew_zreturn i228_9 r228 (by omega) hK
/-- whoever asks -/
theorem x_canStrikeG (hX : RX I f) {m p : Int} (hm : -2147483648 ≤ m ∧ m ≤ 2147483647) (hp : -2147483648 ≤ p ∧ p ≤ 2147483647) (hK : K (some (.int (zI (if 0 ≤ m ∧ m < f_men f ∧ 0 ≤ p ∧ p < 16 ∧ f_can f m p then 1 else 0)))) (I, L, ts_P0 sw, ts_S0)) : ts_Cal X (d + 2) 26 [.ref 2, .int (zI (m)), .int (zI (p))] (I, L, ts_P0 sw, ts_S0) K := by
  have hb := hX.men.2
  have join : ∀ a b : Int, 0 ≤ m → m < f_men f → 0 ≤ p → p < 16 → 0 ≤ a + b → a + b ≤ 20 → a + b = f_far (f_stand f m) p → ts_Ev X (ts_Cal X (d + 1)) 26 ts_S0 K 53 [.ref 2, .int (zI (m)), .int (zI (p)), .int (zI (a)), .int (zI (b))] [.int (zI (b)), .int (zI (a))] (I, L, ts_P0 sw, ts_S0) := by
    intro a b h1 h2 h3 h4 h5 h6 hab
    refine ew_iadd i26_53 ?_
    refine ev_aloadn_0 i26_54 ?_
    refine ev_getA i26_55 g26_55 rfl rfl (by decide) ?_
    refine ev_iloadn_1 i26_58 ?_
    refine ew_iaload i26_59 rfl (by omega) (by omega) (by omega) (by first | exact hX.men | exact hX.told | exact hX.road | exact hX.tone _ (by omega) (by omega) | exact hX.corn _ (by omega) (by omega) | exact hX.stand _ (by omega) (by omega) | exact hX.reach _ (by omega) (by omega) | exact hX.arm _ (by omega) (by omega) | exact hX.late _ (by omega) (by omega) | exact hX.len _ (by omega) (by omega) | exact hX.say (by omega) (by omega) _ (by omega) (by omega)) (fun b59 => ?_)
    refine ew_icmpgt i26_60 (by omega) (fun c60 => ?_) (fun c60 => ?_)
    · refine ew_iconst i26_67 ?_
      exact ew_zreturn i26_68 r26 (by omega) hK
    · refine ew_iconst i26_63 ?_
      refine ev_goto i26_64 ?_
      exact ew_zreturn i26_68 r26 (by omega) hK
  refine ev_enter (lv := [.ref 2, .int (zI (m)), .int (zI (p)), .null, .null]) l26 rfl (Nat.le_of_ble_eq_true rfl) ?_
  refine ev_aloadn_0 i26_0 ?_
  refine ev_iloadn_1 i26_1 ?_
  refine ev_virt1 i26_2 g26_2 rfl (by decide +kernel) (Nat.le_of_ble_eq_true rfl) (x_hasMan hX hm ?_)
  first
  | refine ew_ifeqB i26_5 (fun c5 => ?_) (fun c5 => ?_)
  | refine ew_ifeq i26_5 (by omega) (fun c5 => ?_) (fun c5 => ?_)
  · refine ew_iconst i26_15 ?_
    exact ew_zreturn i26_16 r26 (by omega) hK
  · refine ev_iloadn_2 i26_8 ?_
    refine ev_nest1 i26_9 g26_9 (by decide +kernel) (Nat.le_of_ble_eq_true rfl) (x_isPlank hp ?_)
    first
    | refine ew_ifneB i26_12 (fun c12 => ?_) (fun c12 => ?_)
    | refine ew_ifne i26_12 (by omega) (fun c12 => ?_) (fun c12 => ?_)
    · refine ev_iloadn_2 i26_17 ?_
      refine ew_iconst i26_18 ?_
      refine ew_irem i26_19 (by omega) (by omega) ?_
      refine ev_aloadn_0 i26_20 ?_
      refine ev_getA i26_21 g26_21 rfl rfl (by decide) ?_
      refine ev_iloadn_1 i26_24 ?_
      refine ew_iaload i26_25 rfl (by omega) (by omega) (by omega) (by first | exact hX.men | exact hX.told | exact hX.road | exact hX.tone _ (by omega) (by omega) | exact hX.corn _ (by omega) (by omega) | exact hX.stand _ (by omega) (by omega) | exact hX.reach _ (by omega) (by omega) | exact hX.arm _ (by omega) (by omega) | exact hX.late _ (by omega) (by omega) | exact hX.len _ (by omega) (by omega) | exact hX.say (by omega) (by omega) _ (by omega) (by omega)) (fun b25 => ?_)
      refine ew_iconst i26_26 ?_
      refine ew_irem i26_27 (by omega) (by omega) ?_
      refine ew_isub i26_28 ?_
      refine ew_mabs i26_29 g26_29 (Nat.le_of_ble_eq_true rfl) (by omega) ?_
      refine ev_istoren_3 i26_32 rfl ?_
      refine ev_iloadn_2 i26_33 ?_
      refine ew_iconst i26_34 ?_
      refine ew_idiv i26_35 (by omega) (by omega) ?_
      refine ev_aloadn_0 i26_36 ?_
      refine ev_getA i26_37 g26_37 rfl rfl (by decide) ?_
      refine ev_iloadn_1 i26_40 ?_
      refine ew_iaload i26_41 rfl (by omega) (by omega) (by omega) (by first | exact hX.men | exact hX.told | exact hX.road | exact hX.tone _ (by omega) (by omega) | exact hX.corn _ (by omega) (by omega) | exact hX.stand _ (by omega) (by omega) | exact hX.reach _ (by omega) (by omega) | exact hX.arm _ (by omega) (by omega) | exact hX.late _ (by omega) (by omega) | exact hX.len _ (by omega) (by omega) | exact hX.say (by omega) (by omega) _ (by omega) (by omega)) (fun b41 => ?_)
      refine ew_iconst i26_42 ?_
      refine ew_idiv i26_43 (by omega) (by omega) ?_
      refine ew_isub i26_44 ?_
      refine ew_mabs i26_45 g26_45 (Nat.le_of_ble_eq_true rfl) (by omega) ?_
      refine ev_istore_4 i26_48 rfl ?_
      refine ev_iloadn_3 i26_50 ?_
      refine ev_iload_4 i26_51 ?_
      refine join _ _ (by omega) (by omega) (by omega) (by omega) (by omega) (by omega) ?_
      unfold f_far
      omega
    · refine ew_iconst i26_15 ?_
      exact ew_zreturn i26_16 r26 (by omega) hK
theorem x_canStrike (hX : RX I f) {m p : Int} (hm0 : 0 ≤ m) (hm : m < f_men f) (hp0 : 0 ≤ p) (hp : p < 16) (hK : K (some (.int (zI (if f_can f m p then 1 else 0)))) (I, L, ts_P0 sw, ts_S0)) : ts_Cal X (d + 2) 26 [.ref 2, .int (zI (m)), .int (zI (p))] (I, L, ts_P0 sw, ts_S0) K := by
  have hb := hX.men.2
  refine x_canStrikeG hX (by omega) (by omega) ?_
  have e : (if 0 ≤ m ∧ m < f_men f ∧ 0 ≤ p ∧ p < 16 ∧ f_can f m p then (1 : Int) else 0) = if f_can f m p then 1 else 0 := by
    by_cases c : f_can f m p
    · rw [if_pos c, if_pos ⟨hm0, hm, hp0, hp, c⟩]
    · rw [if_neg c, if_neg (fun q => c q.2.2.2.2)]
  rw [e]
  exact hK
theorem m_farOf {a b : Int} (ha0 : 0 ≤ a) (ha : a < 16) (hb0 : 0 ≤ b) (hb : b < 16) (hK : K (some (.int (zI (f_far a b)))) (I, L, ts_P0 sw, ts_S0)) : ts_Cal X (d + 1) 172 [.int (zI (a)), .int (zI (b))] (I, L, ts_P0 sw, ts_S0) K := by
  unfold f_far at hK
  refine ev_enter (lv := [.int (zI (a)), .int (zI (b)), .null, .null]) l172 rfl (Nat.le_of_ble_eq_true rfl) ?_
  refine ev_iloadn_0 i172_0 ?_
  refine ew_iconst i172_1 ?_
  refine ew_irem i172_2 (by omega) (by omega) ?_
  refine ev_iloadn_1 i172_3 ?_
  refine ew_iconst i172_4 ?_
  refine ew_irem i172_5 (by omega) (by omega) ?_
  refine ew_isub i172_6 ?_
  refine ev_istoren_2 i172_7 rfl ?_
  refine ev_iloadn_0 i172_8 ?_
  refine ew_iconst i172_9 ?_
  refine ew_idiv i172_10 (by omega) (by omega) ?_
  refine ev_iloadn_1 i172_11 ?_
  refine ew_iconst i172_12 ?_
  refine ew_idiv i172_13 (by omega) (by omega) ?_
  refine ew_isub i172_14 ?_
  refine ev_istoren_3 i172_15 rfl ?_
  refine ev_iloadn_2 i172_16 ?_
  refine ew_ifge i172_17 (by omega) (fun c17 => ?_) (fun c17 => ?_)
  · refine ev_iloadn_2 i172_25 ?_
    refine ev_iloadn_3 i172_26 ?_
    refine ew_ifge i172_27 (by omega) (fun c27 => ?_) (fun c27 => ?_)
    · refine ev_iloadn_3 i172_35 ?_
      refine ew_iadd i172_36 ?_
      refine ev_ireturn i172_37 r172 ?_
      first | exact hK | exact zK hK (by omega)
    · refine ev_iloadn_3 i172_30 ?_
      refine ew_ineg i172_31 ?_
      refine ev_goto i172_32 ?_
      refine ew_iadd i172_36 ?_
      refine ev_ireturn i172_37 r172 ?_
      first | exact hK | exact zK hK (by omega)
  · refine ev_iloadn_2 i172_20 ?_
    refine ew_ineg i172_21 ?_
    refine ev_goto i172_22 ?_
    refine ev_iloadn_3 i172_26 ?_
    refine ew_ifge i172_27 (by omega) (fun c27 => ?_) (fun c27 => ?_)
    · refine ev_iloadn_3 i172_35 ?_
      refine ew_iadd i172_36 ?_
      refine ev_ireturn i172_37 r172 ?_
      first | exact hK | exact zK hK (by omega)
    · refine ev_iloadn_3 i172_30 ?_
      refine ew_ineg i172_31 ?_
      refine ev_goto i172_32 ?_
      refine ew_iadd i172_36 ?_
      refine ev_ireturn i172_37 r172 ?_
      first | exact hK | exact zK hK (by omega)
theorem f_far_r {a b : Int} (ha0 : 0 ≤ a) (ha : a < 16) (hb0 : 0 ≤ b) (hb : b < 16) : 0 ≤ f_far a b ∧ f_far a b ≤ 6 := by
  unfold f_far
  omega
theorem m_reaches (hM : RM I f) {m p : Int} (hm0 : 0 ≤ m) (hm : m < 4) (hp0 : 0 ≤ p) (hp : p < 16) (hK : K (some (.int (zI (if f_can f m p then 1 else 0)))) (I, L, ts_P0 sw, ts_S0)) : ts_Cal X (d + 2) 173 [.ref 72, .int (zI (m)), .int (zI (p))] (I, L, ts_P0 sw, ts_S0) K := by
  have hs := (hM.stand m hm0 hm).2
  have hq := f_far_r (a := f_stand f m) (b := p) (by omega) (by omega) (by omega) (by omega)
  refine ev_enter (lv := [.ref 72, .int (zI (m)), .int (zI (p))]) l173 rfl (Nat.le_of_ble_eq_true rfl) ?_
  refine ev_aloadn_0 i173_0 ?_
  refine ev_getA i173_1 g173_1 rfl rfl (by decide) ?_
  refine ew_bipush i173_4 (by decide) ?_
  refine ev_iloadn_1 i173_6 ?_
  refine ew_iadd i173_7 ?_
  refine ew_iaload i173_8 rfl (by omega) (by omega) (by omega) (by first | exact hM.men | exact hM.told | exact hM.road | exact hM.stand _ (by omega) (by omega) | exact hM.reach _ (by omega) (by omega) | exact hM.arm _ (by omega) (by omega) | exact hM.late _ (by omega) (by omega) | exact hM.len _ (by omega) (by omega) | exact hM.corn _ (by omega) (by omega) | exact hM.say (by omega) (by omega) _ (by omega) (by omega) | exact hM.tone _ (by omega) (by omega)) (fun b8 => ?_)
  refine ev_iloadn_2 i173_9 ?_
  refine ev_stat2 i173_10 g173_10 (by decide +kernel) (Nat.le_of_ble_eq_true rfl) (m_farOf (by omega) (by omega) hp0 hp ?_)
  refine ev_aloadn_0 i173_13 ?_
  refine ev_getA i173_14 g173_14 rfl rfl (by decide) ?_
  refine ew_bipush i173_17 (by decide) ?_
  refine ev_iloadn_1 i173_19 ?_
  refine ew_iadd i173_20 ?_
  refine ew_iaload i173_21 rfl (by omega) (by omega) (by omega) (by first | exact hM.men | exact hM.told | exact hM.road | exact hM.stand _ (by omega) (by omega) | exact hM.reach _ (by omega) (by omega) | exact hM.arm _ (by omega) (by omega) | exact hM.late _ (by omega) (by omega) | exact hM.len _ (by omega) (by omega) | exact hM.corn _ (by omega) (by omega) | exact hM.say (by omega) (by omega) _ (by omega) (by omega) | exact hM.tone _ (by omega) (by omega)) (fun b21 => ?_)
  refine ew_icmpgt i173_22 (by omega) (fun c22 => ?_) (fun c22 => ?_)
  · refine ew_iconst i173_29 ?_
    exact ew_zreturn i173_30 r173 (by omega) hK
  · refine ew_iconst i173_25 ?_
    refine ev_goto i173_26 ?_
    exact ew_zreturn i173_30 r173 (by omega) hK
theorem x_manOf (hX : RX I f) {b : Int} (hb : -2147483648 ≤ b ∧ b ≤ 2147483647) (hK : K (some (.int (zI (if 0 < f_men f ∧ 0 ≤ b then b % f_men f else -2)))) (I, L, ts_P0 sw, ts_S0)) : ts_Cal X (d + 1) 25 [.ref 2, .int (zI (b))] (I, L, ts_P0 sw, ts_S0) K := by
  refine ev_enter (lv := [.ref 2, .int (zI (b))]) l25 rfl (Nat.le_of_ble_eq_true rfl) ?_
  refine ev_aloadn_0 i25_0 ?_
  refine ew_getI i25_1 g25_1 rfl (by first | exact hX.men | exact hX.told | exact hX.road | exact hX.tone _ (by omega) (by omega) | exact hX.corn _ (by omega) (by omega) | exact hX.stand _ (by omega) (by omega) | exact hX.reach _ (by omega) (by omega) | exact hX.arm _ (by omega) (by omega) | exact hX.late _ (by omega) (by omega) | exact hX.len _ (by omega) (by omega) | exact hX.say (by omega) (by omega) _ (by omega) (by omega)) (fun b1 => ?_)
  refine ew_ifle i25_4 (by omega) (fun c4 => ?_) (fun c4 => ?_)
  · refine ew_bipush i25_20 (by decide) ?_
    refine ev_ireturn i25_22 r25 ?_
    first | exact hK | exact zK hK (by omega)
  · refine ev_iloadn_1 i25_7 ?_
    refine ew_iflt i25_8 (by omega) (fun c8 => ?_) (fun c8 => ?_)
    · refine ew_bipush i25_20 (by decide) ?_
      refine ev_ireturn i25_22 r25 ?_
      first | exact hK | exact zK hK (by omega)
    · refine ev_iloadn_1 i25_11 ?_
      refine ev_aloadn_0 i25_12 ?_
      refine ew_getI i25_13 g25_13 rfl (by first | exact hX.men | exact hX.told | exact hX.road | exact hX.tone _ (by omega) (by omega) | exact hX.corn _ (by omega) (by omega) | exact hX.stand _ (by omega) (by omega) | exact hX.reach _ (by omega) (by omega) | exact hX.arm _ (by omega) (by omega) | exact hX.late _ (by omega) (by omega) | exact hX.len _ (by omega) (by omega) | exact hX.say (by omega) (by omega) _ (by omega) (by omega)) (fun b13 => ?_)
      refine ew_iremB i25_16 (by omega) (by omega) (fun r16 => ?_)
      refine ev_goto i25_17 ?_
      refine ev_ireturn i25_22 r25 ?_
      first | exact hK | exact zK hK (by omega)
theorem x_reachBits (hX : RX I f) {m : Int} (hm0 : 0 ≤ m) (hm : m < f_men f) (hK : K (some (.int (zI (zbits (f_can f m) 16)))) (I, L, ts_P0 sw, ts_S0)) : ts_Cal X (d + 3) 27 [.ref 2, .int (zI (m))] (I, L, ts_P0 sw, ts_S0) K := by
  have loop : ∀ j : Int, 0 ≤ j → j ≤ 16 → ts_Ev X (ts_Cal X (d + 2)) 27 ts_S0 K 4 [.ref 2, .int (zI (m)), .int (zI (zbits (f_can f m) j.toNat)), .int (zI (j))] [] (I, L, ts_P0 sw, ts_S0) := by
    refine ts_ind 16 (fun j ih h0 h1 => ?_)
    refine ev_iloadn_3 i27_4 ?_
    refine ew_bipush i27_5 (by decide) ?_
    refine ew_icmpge i27_7 (by omega) (fun c7 => ?_) (fun c7 => ?_)
    · refine ev_iloadn_2 i27_31 ?_
      refine ev_ireturn i27_32 r27 ?_
      obtain rfl : j = 16 := by omega
      exact hK
    · refine ev_aloadn_0 i27_10 ?_
      refine ev_iloadn_1 i27_11 ?_
      refine ev_iloadn_3 i27_12 ?_
      refine ev_virt2 i27_13 g27_13 rfl (by decide +kernel) (Nat.le_of_ble_eq_true rfl) (x_canStrike hX hm0 hm (by omega) (by omega) ?_)
      first
      | refine ew_ifeqB i27_16 (fun c16 => ?_) (fun c16 => ?_)
      | refine ew_ifeq i27_16 (by omega) (fun c16 => ?_) (fun c16 => ?_)
      · refine ew_iinc_3 i27_25 rfl ?_
        refine ev_goto i27_28 ?_
        have e := ih (by omega) (by omega) (by omega)
        rw [zbits_s h0] at e
        first
          | (rw [if_pos c16] at e; exact e)
          | (rw [if_neg c16] at e; exact e)
      · refine ev_iloadn_2 i27_19 ?_
        refine ew_iconst i27_20 ?_
        refine ev_iloadn_3 i27_21 ?_
        refine ew_ishl i27_22 ?_
        refine ew_ior i27_23 ?_
        refine ev_istoren_2 i27_24 rfl ?_
        refine ew_iinc_3 i27_25 rfl ?_
        refine ev_goto i27_28 ?_
        have e := ih (by omega) (by omega) (by omega)
        rw [zbits_s h0] at e
        first
          | (rw [if_pos c16] at e; exact e)
          | (rw [if_neg c16] at e; exact e)
  refine ev_enter (lv := [.ref 2, .int (zI (m)), .null, .null]) l27 rfl (Nat.le_of_ble_eq_true rfl) ?_
  refine ew_iconst i27_0 ?_
  refine ev_istoren_2 i27_1 rfl ?_
  refine ew_iconst i27_2 ?_
  refine ev_istoren_3 i27_3 rfl ?_
  exact loop 0 (by decide) (by decide)
/-- reach: what it answers -/
def g_reach (f : ts_Fl) (x : Int) : Int := if 0 ≤ x ∧ x < f_men f then zbits (f_can f x) 16 else -1
theorem x_reach (hX : RX I f) {x : Int} (hx : -2147483648 ≤ x ∧ x ≤ 2147483647) (hK : K (some (.int (zI (g_reach f x)))) (I, L, ts_P0 sw, ts_S0)) : ts_Cal X (d + 4) 100 [.ref 1, .int (zI (x))] (I, L, ts_P0 sw, ts_S0) K := by
  unfold g_reach at hK
  refine ev_enter (lv := [.ref 1, .int (zI (x))]) l100 rfl (Nat.le_of_ble_eq_true rfl) ?_
  refine ev_aloadn_0 i100_0 ?_
  refine ev_getA i100_1 g100_1 rfl rfl (by decide) ?_
  refine ev_iloadn_1 i100_4 ?_
  refine ev_virt1 i100_5 g100_5 rfl (by decide +kernel) (Nat.le_of_ble_eq_true rfl) (x_hasMan hX hx ?_)
  first
  | refine ew_ifeqB i100_8 (fun c8 => ?_) (fun c8 => ?_)
  | refine ew_ifeq i100_8 (by omega) (fun c8 => ?_) (fun c8 => ?_)
  · rw [if_neg c8] at hK
    refine ew_iconst i100_22 ?_
    refine ev_ireturn i100_23 r100 ?_
    first | exact hK | exact zK hK (by omega)
  · rw [if_pos c8] at hK
    refine ev_aloadn_0 i100_11 ?_
    refine ev_getA i100_12 g100_12 rfl rfl (by decide) ?_
    refine ev_iloadn_1 i100_15 ?_
    refine ev_virt1 i100_16 g100_16 rfl (by decide +kernel) (Nat.le_of_ble_eq_true rfl) (x_reachBits hX (by omega) (by omega) ?_)
    refine ev_goto i100_19 ?_
    refine ev_ireturn i100_23 r100 ?_
    first | exact hK | exact zK hK (by omega)
theorem m_reach (hM : RM I f) {x : Int} (hx : -2147483648 ≤ x ∧ x ≤ 2147483647) (hK : K (some (.int (zI (g_reach f x)))) (I, L, ts_P0 sw, ts_S0)) : ts_Cal X (d + 4) 174 [.ref 72, .int (zI (x))] (I, L, ts_P0 sw, ts_S0) K := by
  have hb := hM.men.2
  unfold g_reach at hK
  refine ev_enter (lv := [.ref 72, .int (zI (x)), .null, .null]) l174 rfl (Nat.le_of_ble_eq_true rfl) ?_
  refine ev_aloadn_0 i174_0 ?_
  refine ev_iloadn_1 i174_1 ?_
  refine ew_i2l i174_2 (by omega) ?_
  refine ev_virt1 i174_3 g174_3 rfl (by decide +kernel) (Nat.le_of_ble_eq_true rfl) (m_isMan hM (by omega) ?_)
  first
  | refine ew_ifneB i174_6 (fun c6 => ?_) (fun c6 => ?_)
  | refine ew_ifne i174_6 (by omega) (fun c6 => ?_) (fun c6 => ?_)
  · rw [if_pos c6] at hK
    have loop : ∀ j : Int, 0 ≤ j → j ≤ 16 → ts_Ev X (ts_Cal X (d + 3)) 174 ts_S0 K 15 [.ref 72, .int (zI (x)), .int (zI (zbits (f_can f x) j.toNat)), .int (zI (j))] [] (I, L, ts_P0 sw, ts_S0) := by
      refine ts_ind 16 (fun j ih h0 h1 => ?_)
      refine ev_iloadn_3 i174_15 ?_
      refine ew_bipush i174_16 (by decide) ?_
      refine ew_icmpge i174_18 (by omega) (fun c18 => ?_) (fun c18 => ?_)
      · refine ev_iloadn_2 i174_46 ?_
        refine ev_ireturn i174_47 r174 ?_
        obtain rfl : j = 16 := by omega
        exact hK
      · refine ev_iloadn_2 i174_21 ?_
        refine ev_aloadn_0 i174_22 ?_
        refine ev_iloadn_1 i174_23 ?_
        refine ev_iloadn_3 i174_24 ?_
        refine ev_virt2 i174_25 g174_25 rfl (by decide +kernel) (Nat.le_of_ble_eq_true rfl) (m_reaches hM (by omega) (by omega) (by omega) (by omega) ?_)
        first
        | refine ew_ifeqB i174_28 (fun c28 => ?_) (fun c28 => ?_)
        | refine ew_ifeq i174_28 (by omega) (fun c28 => ?_) (fun c28 => ?_)
        · refine ew_iconst i174_37 ?_
          refine ew_ior i174_38 ?_
          refine ev_istoren_2 i174_39 rfl ?_
          refine ew_iinc_3 i174_40 rfl ?_
          refine ev_goto i174_43 ?_
          have e := ih (by omega) (by omega) (by omega)
          rw [zbits_s h0] at e
          first
            | (rw [if_pos c28] at e; exact e)
            | (rw [if_neg c28] at e; rw [zor_0 (zbits_r _ _)]; exact e)
        · refine ew_iconst i174_31 ?_
          refine ev_iloadn_3 i174_32 ?_
          refine ew_ishl i174_33 ?_
          refine ev_goto i174_34 ?_
          refine ew_ior i174_38 ?_
          refine ev_istoren_2 i174_39 rfl ?_
          refine ew_iinc_3 i174_40 rfl ?_
          refine ev_goto i174_43 ?_
          have e := ih (by omega) (by omega) (by omega)
          rw [zbits_s h0] at e
          first
            | (rw [if_pos c28] at e; exact e)
            | (rw [if_neg c28] at e; rw [zor_0 (zbits_r _ _)]; exact e)
    refine ew_iconst i174_11 ?_
    refine ev_istoren_2 i174_12 rfl ?_
    refine ew_iconst i174_13 ?_
    refine ev_istoren_3 i174_14 rfl ?_
    exact loop 0 (by decide) (by decide)
  · rw [if_neg c6] at hK
    refine ew_iconst i174_9 ?_
    refine ev_ireturn i174_10 r174 ?_
    first | exact hK | exact zK hK (by omega)
end LEAF
