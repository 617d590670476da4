theorem i86_0 : ts_ins 86 0 = some (.iconst 0, 1, 0) := by decide +kernel
theorem i86_1 : ts_ins 86 1 = some (.istore_n 2, 2, 0) := by decide +kernel
theorem i86_2 : ts_ins 86 2 = some (.iconst 0, 3, 0) := by decide +kernel
theorem i86_3 : ts_ins 86 3 = some (.istore_n 3, 4, 0) := by decide +kernel
theorem i86_4 : ts_ins 86 4 = some (.iload_n 3, 5, 0) := by decide +kernel
theorem i86_5 : ts_ins 86 5 = some (.aload_n 0, 6, 0) := by decide +kernel
theorem i86_6 : ts_ins 86 6 = some (.getfield 22, 9, 0) := by decide +kernel
theorem g86_6 : ts_fm 86 22 = some (10, 0, 2) := by decide +kernel
theorem i86_9 : ts_ins 86 9 = some (.getfield 31, 12, 0) := by decide +kernel
theorem g86_9 : ts_fm 86 31 = some (3, 8, 0) := by decide +kernel
theorem i86_12 : ts_ins 86 12 = some (.if_icmp .ge 45, 15, 57) := by decide +kernel
theorem i86_15 : ts_ins 86 15 = some (.iload_n 1, 16, 0) := by decide +kernel
theorem i86_16 : ts_ins 86 16 = some (.iload_n 3, 17, 0) := by decide +kernel
theorem i86_17 : ts_ins 86 17 = some (.isub, 18, 0) := by decide +kernel
theorem i86_18 : ts_ins 86 18 = some (.aload_n 0, 19, 0) := by decide +kernel
theorem i86_19 : ts_ins 86 19 = some (.getfield 22, 22, 0) := by decide +kernel
theorem g86_19 : ts_fm 86 22 = some (10, 0, 2) := by decide +kernel
theorem i86_22 : ts_ins 86 22 = some (.getfield 26, 25, 0) := by decide +kernel
theorem g86_22 : ts_fm 86 26 = some (3, 5, 2) := by decide +kernel
theorem i86_25 : ts_ins 86 25 = some (.iload_n 3, 26, 0) := by decide +kernel
theorem i86_26 : ts_ins 86 26 = some (.iaload, 27, 0) := by decide +kernel
theorem i86_27 : ts_ins 86 27 = some (.isub, 28, 0) := by decide +kernel
theorem i86_28 : ts_ins 86 28 = some (.istore 4, 30, 0) := by decide +kernel
theorem i86_30 : ts_ins 86 30 = some (.iload 4, 32, 0) := by decide +kernel
theorem i86_32 : ts_ins 86 32 = some (.ifCond .lt 19, 35, 51) := by decide +kernel
theorem i86_35 : ts_ins 86 35 = some (.iload 4, 37, 0) := by decide +kernel
theorem i86_37 : ts_ins 86 37 = some (.aload_n 0, 38, 0) := by decide +kernel
theorem i86_38 : ts_ins 86 38 = some (.getfield 22, 41, 0) := by decide +kernel
theorem g86_38 : ts_fm 86 22 = some (10, 0, 2) := by decide +kernel
theorem i86_41 : ts_ins 86 41 = some (.getfield 31, 44, 0) := by decide +kernel
theorem g86_41 : ts_fm 86 31 = some (3, 8, 0) := by decide +kernel
theorem i86_44 : ts_ins 86 44 = some (.irem, 45, 0) := by decide +kernel
theorem i86_45 : ts_ins 86 45 = some (.ifCond .ne 6, 48, 51) := by decide +kernel
theorem i86_48 : ts_ins 86 48 = some (.iinc 2 1, 51, 0) := by decide +kernel
theorem i86_51 : ts_ins 86 51 = some (.iinc 3 1, 54, 0) := by decide +kernel
theorem i86_54 : ts_ins 86 54 = some (.goto (-50), 57, 4) := by decide +kernel
theorem i86_57 : ts_ins 86 57 = some (.iload_n 2, 58, 0) := by decide +kernel
theorem i86_58 : ts_ins 86 58 = some (.ireturn, 59, 0) := by decide +kernel
theorem r86 : ts_rt 86 = ((some .int), 0, 0) := by decide +kernel
theorem l86 : ts_ml 86 = 5 := by decide +kernel
theorem i204_0 : ts_ins 204 0 = some (.iload_n 2, 1, 0) := by decide +kernel
theorem i204_1 : ts_ins 204 1 = some (.iload_n 1, 2, 0) := by decide +kernel
theorem i204_2 : ts_ins 204 2 = some (.isub, 3, 0) := by decide +kernel
theorem i204_3 : ts_ins 204 3 = some (.aload_n 0, 4, 0) := by decide +kernel
theorem i204_4 : ts_ins 204 4 = some (.getfield 9, 7, 0) := by decide +kernel
theorem g204_4 : ts_fm 204 9 = some (12, 0, 2) := by decide +kernel
theorem i204_7 : ts_ins 204 7 = some (.bipush 44, 9, 0) := by decide +kernel
theorem i204_9 : ts_ins 204 9 = some (.iload_n 1, 10, 0) := by decide +kernel
theorem i204_10 : ts_ins 204 10 = some (.iadd, 11, 0) := by decide +kernel
theorem i204_11 : ts_ins 204 11 = some (.iaload, 12, 0) := by decide +kernel
theorem i204_12 : ts_ins 204 12 = some (.isub, 13, 0) := by decide +kernel
theorem i204_13 : ts_ins 204 13 = some (.istore_n 3, 14, 0) := by decide +kernel
theorem i204_14 : ts_ins 204 14 = some (.iload_n 3, 15, 0) := by decide +kernel
theorem i204_15 : ts_ins 204 15 = some (.ifCond .lt 16, 18, 31) := by decide +kernel
theorem i204_18 : ts_ins 204 18 = some (.iload_n 3, 19, 0) := by decide +kernel
theorem i204_19 : ts_ins 204 19 = some (.aload_n 0, 20, 0) := by decide +kernel
theorem i204_20 : ts_ins 204 20 = some (.getfield 99, 23, 0) := by decide +kernel
theorem g204_20 : ts_fm 204 99 = some (12, 6, 0) := by decide +kernel
theorem i204_23 : ts_ins 204 23 = some (.irem, 24, 0) := by decide +kernel
theorem i204_24 : ts_ins 204 24 = some (.ifCond .ne 7, 27, 31) := by decide +kernel
theorem i204_27 : ts_ins 204 27 = some (.iconst 1, 28, 0) := by decide +kernel
theorem i204_28 : ts_ins 204 28 = some (.goto 4, 31, 32) := by decide +kernel
theorem i204_31 : ts_ins 204 31 = some (.iconst 0, 32, 0) := by decide +kernel
theorem i204_32 : ts_ins 204 32 = some (.ireturn, 33, 0) := by decide +kernel
theorem r204 : ts_rt 204 = ((some .boolean), 0, 0) := by decide +kernel
theorem l204 : ts_ml 204 = 4 := by decide +kernel
theorem i206_0 : ts_ins 206 0 = some (.iconst 0, 1, 0) := by decide +kernel
theorem i206_1 : ts_ins 206 1 = some (.istore_n 2, 2, 0) := by decide +kernel
theorem i206_2 : ts_ins 206 2 = some (.iconst 0, 3, 0) := by decide +kernel
theorem i206_3 : ts_ins 206 3 = some (.istore_n 3, 4, 0) := by decide +kernel
theorem i206_4 : ts_ins 206 4 = some (.iload_n 3, 5, 0) := by decide +kernel
theorem i206_5 : ts_ins 206 5 = some (.aload_n 0, 6, 0) := by decide +kernel
theorem i206_6 : ts_ins 206 6 = some (.getfield 99, 9, 0) := by decide +kernel
theorem g206_6 : ts_fm 206 99 = some (12, 6, 0) := by decide +kernel
theorem i206_9 : ts_ins 206 9 = some (.if_icmp .ge 26, 12, 35) := by decide +kernel
theorem i206_12 : ts_ins 206 12 = some (.iload_n 2, 13, 0) := by decide +kernel
theorem i206_13 : ts_ins 206 13 = some (.aload_n 0, 14, 0) := by decide +kernel
theorem i206_14 : ts_ins 206 14 = some (.iload_n 3, 15, 0) := by decide +kernel
theorem i206_15 : ts_ins 206 15 = some (.iload_n 1, 16, 0) := by decide +kernel
theorem i206_16 : ts_ins 206 16 = some (.invokevirtual 274, 19, 0) := by decide +kernel
theorem g206_16 : ts_cal (ts_mc 206) 274 = some (0, 204, 2) := by decide +kernel
theorem i206_19 : ts_ins 206 19 = some (.ifCond .eq 7, 22, 26) := by decide +kernel
theorem i206_22 : ts_ins 206 22 = some (.iconst 1, 23, 0) := by decide +kernel
theorem i206_23 : ts_ins 206 23 = some (.goto 4, 26, 27) := by decide +kernel
theorem i206_26 : ts_ins 206 26 = some (.iconst 0, 27, 0) := by decide +kernel
theorem i206_27 : ts_ins 206 27 = some (.iadd, 28, 0) := by decide +kernel
theorem i206_28 : ts_ins 206 28 = some (.istore_n 2, 29, 0) := by decide +kernel
theorem i206_29 : ts_ins 206 29 = some (.iinc 3 1, 32, 0) := by decide +kernel
theorem i206_32 : ts_ins 206 32 = some (.goto (-28), 35, 4) := by decide +kernel
theorem i206_35 : ts_ins 206 35 = some (.iload_n 2, 36, 0) := by decide +kernel
theorem i206_36 : ts_ins 206 36 = some (.ireturn, 37, 0) := by decide +kernel
theorem r206 : ts_rt 206 = ((some .int), 0, 0) := by decide +kernel
theorem l206 : ts_ml 206 = 4 := by decide +kernel
theorem i116_0 : ts_ins 116 0 = some (.iload_n 1, 1, 0) := by decide +kernel
theorem i116_1 : ts_ins 116 1 = some (.ifCond .lt 8, 4, 9) := by decide +kernel
theorem i116_4 : ts_ins 116 4 = some (.iload_n 1, 5, 0) := by decide +kernel
theorem i116_5 : ts_ins 116 5 = some (.iconst 4, 6, 0) := by decide +kernel
theorem i116_6 : ts_ins 116 6 = some (.if_icmp .le 5, 9, 11) := by decide +kernel
theorem i116_9 : ts_ins 116 9 = some (.iconst (-1), 10, 0) := by decide +kernel
theorem i116_10 : ts_ins 116 10 = some (.ireturn, 11, 0) := by decide +kernel
theorem i116_11 : ts_ins 116 11 = some (.iconst 0, 12, 0) := by decide +kernel
theorem i116_12 : ts_ins 116 12 = some (.istore_n 2, 13, 0) := by decide +kernel
theorem i116_13 : ts_ins 116 13 = some (.iload_n 2, 14, 0) := by decide +kernel
theorem i116_14 : ts_ins 116 14 = some (.bipush 100, 16, 0) := by decide +kernel
theorem i116_16 : ts_ins 116 16 = some (.if_icmp .ge 23, 19, 39) := by decide +kernel
theorem i116_19 : ts_ins 116 19 = some (.aload_n 0, 20, 0) := by decide +kernel
theorem i116_20 : ts_ins 116 20 = some (.getfield 49, 23, 0) := by decide +kernel
theorem g116_20 : ts_fm 116 49 = some (11, 5, 2) := by decide +kernel
theorem i116_23 : ts_ins 116 23 = some (.iload_n 2, 24, 0) := by decide +kernel
theorem i116_24 : ts_ins 116 24 = some (.invokevirtual 270, 27, 0) := by decide +kernel
theorem g116_24 : ts_cal (ts_mc 116) 270 = some (0, 86, 1) := by decide +kernel
theorem i116_27 : ts_ins 116 27 = some (.iload_n 1, 28, 0) := by decide +kernel
theorem i116_28 : ts_ins 116 28 = some (.if_icmp .ne 5, 31, 33) := by decide +kernel
theorem i116_31 : ts_ins 116 31 = some (.iload_n 2, 32, 0) := by decide +kernel
theorem i116_32 : ts_ins 116 32 = some (.ireturn, 33, 0) := by decide +kernel
theorem i116_33 : ts_ins 116 33 = some (.iinc 2 1, 36, 0) := by decide +kernel
theorem i116_36 : ts_ins 116 36 = some (.goto (-23), 39, 13) := by decide +kernel
theorem i116_39 : ts_ins 116 39 = some (.bipush (-2), 41, 0) := by decide +kernel
theorem i116_41 : ts_ins 116 41 = some (.ireturn, 42, 0) := by decide +kernel
theorem r116 : ts_rt 116 = ((some .int), 0, 0) := by decide +kernel
theorem l116 : ts_ml 116 = 3 := by decide +kernel
theorem i207_0 : ts_ins 207 0 = some (.iload_n 1, 1, 0) := by decide +kernel
theorem i207_1 : ts_ins 207 1 = some (.i2l, 2, 0) := by decide +kernel
theorem i207_2 : ts_ins 207 2 = some (.lconst 0, 3, 0) := by decide +kernel
theorem i207_3 : ts_ins 207 3 = some (.ldc2_w 220, 6, 0) := by decide +kernel
theorem g207_3 : ts_lc (ts_mc 207) 220 = some (.long (4)) := by decide +kernel
theorem i207_6 : ts_ins 207 6 = some (.invokestatic 95, 9, 0) := by decide +kernel
theorem g207_6 : ts_cal (ts_mc 207) 95 = some (1, 143, 3) := by decide +kernel
theorem i207_9 : ts_ins 207 9 = some (.ifCond .ne 5, 12, 14) := by decide +kernel
theorem i207_12 : ts_ins 207 12 = some (.iconst (-1), 13, 0) := by decide +kernel
theorem i207_13 : ts_ins 207 13 = some (.ireturn, 14, 0) := by decide +kernel
theorem i207_14 : ts_ins 207 14 = some (.iconst 0, 15, 0) := by decide +kernel
theorem i207_15 : ts_ins 207 15 = some (.istore_n 2, 16, 0) := by decide +kernel
theorem i207_16 : ts_ins 207 16 = some (.iload_n 2, 17, 0) := by decide +kernel
theorem i207_17 : ts_ins 207 17 = some (.bipush 100, 19, 0) := by decide +kernel
theorem i207_19 : ts_ins 207 19 = some (.if_icmp .ge 20, 22, 39) := by decide +kernel
theorem i207_22 : ts_ins 207 22 = some (.aload_n 0, 23, 0) := by decide +kernel
theorem i207_23 : ts_ins 207 23 = some (.iload_n 2, 24, 0) := by decide +kernel
theorem i207_24 : ts_ins 207 24 = some (.invokevirtual 277, 27, 0) := by decide +kernel
theorem g207_24 : ts_cal (ts_mc 207) 277 = some (0, 206, 1) := by decide +kernel
theorem i207_27 : ts_ins 207 27 = some (.iload_n 1, 28, 0) := by decide +kernel
theorem i207_28 : ts_ins 207 28 = some (.if_icmp .ne 5, 31, 33) := by decide +kernel
theorem i207_31 : ts_ins 207 31 = some (.iload_n 2, 32, 0) := by decide +kernel
theorem i207_32 : ts_ins 207 32 = some (.ireturn, 33, 0) := by decide +kernel
theorem i207_33 : ts_ins 207 33 = some (.iinc 2 1, 36, 0) := by decide +kernel
theorem i207_36 : ts_ins 207 36 = some (.goto (-20), 39, 16) := by decide +kernel
theorem i207_39 : ts_ins 207 39 = some (.bipush (-2), 41, 0) := by decide +kernel
theorem i207_41 : ts_ins 207 41 = some (.ireturn, 42, 0) := by decide +kernel
theorem r207 : ts_rt 207 = ((some .int), 0, 0) := by decide +kernel
theorem l207 : ts_ml 207 = 3 := by decide +kernel
theorem i117_0 : ts_ins 117 0 = some (.iconst 0, 1, 0) := by decide +kernel
theorem i117_1 : ts_ins 117 1 = some (.istore_n 1, 2, 0) := by decide +kernel
theorem i117_2 : ts_ins 117 2 = some (.iconst 0, 3, 0) := by decide +kernel
theorem i117_3 : ts_ins 117 3 = some (.istore_n 2, 4, 0) := by decide +kernel
theorem i117_4 : ts_ins 117 4 = some (.iload_n 2, 5, 0) := by decide +kernel
theorem i117_5 : ts_ins 117 5 = some (.bipush 100, 7, 0) := by decide +kernel
theorem i117_7 : ts_ins 117 7 = some (.if_icmp .ge 23, 10, 30) := by decide +kernel
theorem i117_10 : ts_ins 117 10 = some (.aload_n 0, 11, 0) := by decide +kernel
theorem i117_11 : ts_ins 117 11 = some (.getfield 49, 14, 0) := by decide +kernel
theorem g117_11 : ts_fm 117 49 = some (11, 5, 2) := by decide +kernel
theorem i117_14 : ts_ins 117 14 = some (.iload_n 2, 15, 0) := by decide +kernel
theorem i117_15 : ts_ins 117 15 = some (.invokevirtual 270, 18, 0) := by decide +kernel
theorem g117_15 : ts_cal (ts_mc 117) 270 = some (0, 86, 1) := by decide +kernel
theorem i117_18 : ts_ins 117 18 = some (.ifCond .ne 6, 21, 24) := by decide +kernel
theorem i117_21 : ts_ins 117 21 = some (.iinc 1 1, 24, 0) := by decide +kernel
theorem i117_24 : ts_ins 117 24 = some (.iinc 2 1, 27, 0) := by decide +kernel
theorem i117_27 : ts_ins 117 27 = some (.goto (-23), 30, 4) := by decide +kernel
theorem i117_30 : ts_ins 117 30 = some (.iload_n 1, 31, 0) := by decide +kernel
theorem i117_31 : ts_ins 117 31 = some (.ireturn, 32, 0) := by decide +kernel
theorem r117 : ts_rt 117 = ((some .int), 0, 0) := by decide +kernel
theorem l117 : ts_ml 117 = 3 := by decide +kernel
theorem i208_0 : ts_ins 208 0 = some (.iconst 0, 1, 0) := by decide +kernel
theorem i208_1 : ts_ins 208 1 = some (.istore_n 1, 2, 0) := by decide +kernel
theorem i208_2 : ts_ins 208 2 = some (.iconst 0, 3, 0) := by decide +kernel
theorem i208_3 : ts_ins 208 3 = some (.istore_n 2, 4, 0) := by decide +kernel
theorem i208_4 : ts_ins 208 4 = some (.iload_n 2, 5, 0) := by decide +kernel
theorem i208_5 : ts_ins 208 5 = some (.bipush 100, 7, 0) := by decide +kernel
theorem i208_7 : ts_ins 208 7 = some (.if_icmp .ge 25, 10, 32) := by decide +kernel
theorem i208_10 : ts_ins 208 10 = some (.iload_n 1, 11, 0) := by decide +kernel
theorem i208_11 : ts_ins 208 11 = some (.aload_n 0, 12, 0) := by decide +kernel
theorem i208_12 : ts_ins 208 12 = some (.iload_n 2, 13, 0) := by decide +kernel
theorem i208_13 : ts_ins 208 13 = some (.invokevirtual 277, 16, 0) := by decide +kernel
theorem g208_13 : ts_cal (ts_mc 208) 277 = some (0, 206, 1) := by decide +kernel
theorem i208_16 : ts_ins 208 16 = some (.ifCond .ne 7, 19, 23) := by decide +kernel
theorem i208_19 : ts_ins 208 19 = some (.iconst 1, 20, 0) := by decide +kernel
theorem i208_20 : ts_ins 208 20 = some (.goto 4, 23, 24) := by decide +kernel
theorem i208_23 : ts_ins 208 23 = some (.iconst 0, 24, 0) := by decide +kernel
theorem i208_24 : ts_ins 208 24 = some (.iadd, 25, 0) := by decide +kernel
theorem i208_25 : ts_ins 208 25 = some (.istore_n 1, 26, 0) := by decide +kernel
theorem i208_26 : ts_ins 208 26 = some (.iinc 2 1, 29, 0) := by decide +kernel
theorem i208_29 : ts_ins 208 29 = some (.goto (-25), 32, 4) := by decide +kernel
theorem i208_32 : ts_ins 208 32 = some (.iload_n 1, 33, 0) := by decide +kernel
theorem i208_33 : ts_ins 208 33 = some (.ireturn, 34, 0) := by decide +kernel
theorem r208 : ts_rt 208 = ((some .int), 0, 0) := by decide +kernel
theorem l208 : ts_ml 208 = 3 := by decide +kernel
theorem i85_0 : ts_ins 85 0 = some (.iload_n 1, 1, 0) := by decide +kernel
theorem i85_1 : ts_ins 85 1 = some (.aload_n 0, 2, 0) := by decide +kernel
theorem i85_2 : ts_ins 85 2 = some (.getfield 22, 5, 0) := by decide +kernel
theorem g85_2 : ts_fm 85 22 = some (10, 0, 2) := by decide +kernel
theorem i85_5 : ts_ins 85 5 = some (.getfield 26, 8, 0) := by decide +kernel
theorem g85_5 : ts_fm 85 26 = some (3, 5, 2) := by decide +kernel
theorem i85_8 : ts_ins 85 8 = some (.iload_n 1, 9, 0) := by decide +kernel
theorem i85_9 : ts_ins 85 9 = some (.iaload, 10, 0) := by decide +kernel
theorem i85_10 : ts_ins 85 10 = some (.iadd, 11, 0) := by decide +kernel
theorem i85_11 : ts_ins 85 11 = some (.iload_n 2, 12, 0) := by decide +kernel
theorem i85_12 : ts_ins 85 12 = some (.isub, 13, 0) := by decide +kernel
theorem i85_13 : ts_ins 85 13 = some (.aload_n 0, 14, 0) := by decide +kernel
theorem i85_14 : ts_ins 85 14 = some (.getfield 22, 17, 0) := by decide +kernel
theorem g85_14 : ts_fm 85 22 = some (10, 0, 2) := by decide +kernel
theorem i85_17 : ts_ins 85 17 = some (.getfield 26, 20, 0) := by decide +kernel
theorem g85_17 : ts_fm 85 26 = some (3, 5, 2) := by decide +kernel
theorem i85_20 : ts_ins 85 20 = some (.iload_n 2, 21, 0) := by decide +kernel
theorem i85_21 : ts_ins 85 21 = some (.iaload, 22, 0) := by decide +kernel
theorem i85_22 : ts_ins 85 22 = some (.isub, 23, 0) := by decide +kernel
theorem i85_23 : ts_ins 85 23 = some (.istore_n 3, 24, 0) := by decide +kernel
theorem i85_24 : ts_ins 85 24 = some (.aload_n 0, 25, 0) := by decide +kernel
theorem i85_25 : ts_ins 85 25 = some (.getfield 22, 28, 0) := by decide +kernel
theorem g85_25 : ts_fm 85 22 = some (10, 0, 2) := by decide +kernel
theorem i85_28 : ts_ins 85 28 = some (.getfield 31, 31, 0) := by decide +kernel
theorem g85_28 : ts_fm 85 31 = some (3, 8, 0) := by decide +kernel
theorem i85_31 : ts_ins 85 31 = some (.ifCond .le 19, 34, 50) := by decide +kernel
theorem i85_34 : ts_ins 85 34 = some (.iload_n 3, 35, 0) := by decide +kernel
theorem i85_35 : ts_ins 85 35 = some (.aload_n 0, 36, 0) := by decide +kernel
theorem i85_36 : ts_ins 85 36 = some (.getfield 22, 39, 0) := by decide +kernel
theorem g85_36 : ts_fm 85 22 = some (10, 0, 2) := by decide +kernel
theorem i85_39 : ts_ins 85 39 = some (.getfield 31, 42, 0) := by decide +kernel
theorem g85_39 : ts_fm 85 31 = some (3, 8, 0) := by decide +kernel
theorem i85_42 : ts_ins 85 42 = some (.irem, 43, 0) := by decide +kernel
theorem i85_43 : ts_ins 85 43 = some (.ifCond .ne 7, 46, 50) := by decide +kernel
theorem i85_46 : ts_ins 85 46 = some (.iconst 1, 47, 0) := by decide +kernel
theorem i85_47 : ts_ins 85 47 = some (.goto 4, 50, 51) := by decide +kernel
theorem i85_50 : ts_ins 85 50 = some (.iconst 0, 51, 0) := by decide +kernel
theorem i85_51 : ts_ins 85 51 = some (.ireturn, 52, 0) := by decide +kernel
theorem r85 : ts_rt 85 = ((some .boolean), 0, 0) := by decide +kernel
theorem l85 : ts_ml 85 = 4 := by decide +kernel
theorem i115_0 : ts_ins 115 0 = some (.iload_n 1, 1, 0) := by decide +kernel
theorem i115_1 : ts_ins 115 1 = some (.invokestatic 217, 4, 0) := by decide +kernel
theorem g115_1 : ts_cal (ts_mc 115) 217 = some (1, 140, 1) := by decide +kernel
theorem i115_4 : ts_ins 115 4 = some (.ifCond .ne 5, 7, 9) := by decide +kernel
theorem i115_7 : ts_ins 115 7 = some (.iconst (-1), 8, 0) := by decide +kernel
theorem i115_8 : ts_ins 115 8 = some (.ireturn, 9, 0) := by decide +kernel
theorem i115_9 : ts_ins 115 9 = some (.bipush (-2), 11, 0) := by decide +kernel
theorem i115_11 : ts_ins 115 11 = some (.istore_n 2, 12, 0) := by decide +kernel
theorem i115_12 : ts_ins 115 12 = some (.iconst 0, 13, 0) := by decide +kernel
theorem i115_13 : ts_ins 115 13 = some (.istore_n 3, 14, 0) := by decide +kernel
theorem i115_14 : ts_ins 115 14 = some (.iconst 0, 15, 0) := by decide +kernel
theorem i115_15 : ts_ins 115 15 = some (.istore 4, 17, 0) := by decide +kernel
theorem i115_17 : ts_ins 115 17 = some (.iload 4, 19, 0) := by decide +kernel
theorem i115_19 : ts_ins 115 19 = some (.aload_n 0, 20, 0) := by decide +kernel
theorem i115_20 : ts_ins 115 20 = some (.getfield 10, 23, 0) := by decide +kernel
theorem g115_20 : ts_fm 115 10 = some (11, 0, 2) := by decide +kernel
theorem i115_23 : ts_ins 115 23 = some (.getfield 240, 26, 0) := by decide +kernel
theorem g115_23 : ts_fm 115 240 = some (3, 8, 0) := by decide +kernel
theorem i115_26 : ts_ins 115 26 = some (.if_icmp .ge 69, 29, 95) := by decide +kernel
theorem i115_29 : ts_ins 115 29 = some (.iload 4, 31, 0) := by decide +kernel
theorem i115_31 : ts_ins 115 31 = some (.iconst 1, 32, 0) := by decide +kernel
theorem i115_32 : ts_ins 115 32 = some (.iadd, 33, 0) := by decide +kernel
theorem i115_33 : ts_ins 115 33 = some (.istore 5, 35, 0) := by decide +kernel
theorem i115_35 : ts_ins 115 35 = some (.iload 5, 37, 0) := by decide +kernel
theorem i115_37 : ts_ins 115 37 = some (.aload_n 0, 38, 0) := by decide +kernel
theorem i115_38 : ts_ins 115 38 = some (.getfield 10, 41, 0) := by decide +kernel
theorem g115_38 : ts_fm 115 10 = some (11, 0, 2) := by decide +kernel
theorem i115_41 : ts_ins 115 41 = some (.getfield 240, 44, 0) := by decide +kernel
theorem g115_41 : ts_fm 115 240 = some (3, 8, 0) := by decide +kernel
theorem i115_44 : ts_ins 115 44 = some (.if_icmp .ge 45, 47, 89) := by decide +kernel
theorem i115_47 : ts_ins 115 47 = some (.aload_n 0, 48, 0) := by decide +kernel
theorem i115_48 : ts_ins 115 48 = some (.getfield 49, 51, 0) := by decide +kernel
theorem g115_48 : ts_fm 115 49 = some (11, 5, 2) := by decide +kernel
theorem i115_51 : ts_ins 115 51 = some (.iload 4, 53, 0) := by decide +kernel
theorem i115_53 : ts_ins 115 53 = some (.iload 5, 55, 0) := by decide +kernel
theorem i115_55 : ts_ins 115 55 = some (.invokevirtual 267, 58, 0) := by decide +kernel
theorem g115_55 : ts_cal (ts_mc 115) 267 = some (0, 85, 2) := by decide +kernel
theorem i115_58 : ts_ins 115 58 = some (.ifCond .eq 25, 61, 83) := by decide +kernel
theorem i115_61 : ts_ins 115 61 = some (.iload_n 2, 62, 0) := by decide +kernel
theorem i115_62 : ts_ins 115 62 = some (.bipush (-2), 64, 0) := by decide +kernel
theorem i115_64 : ts_ins 115 64 = some (.if_icmp .ne 14, 67, 78) := by decide +kernel
theorem i115_67 : ts_ins 115 67 = some (.bipush 10, 69, 0) := by decide +kernel
theorem i115_69 : ts_ins 115 69 = some (.iload 4, 71, 0) := by decide +kernel
theorem i115_71 : ts_ins 115 71 = some (.imul, 72, 0) := by decide +kernel
theorem i115_72 : ts_ins 115 72 = some (.iload 5, 74, 0) := by decide +kernel
theorem i115_74 : ts_ins 115 74 = some (.iadd, 75, 0) := by decide +kernel
theorem i115_75 : ts_ins 115 75 = some (.goto 4, 78, 79) := by decide +kernel
theorem i115_78 : ts_ins 115 78 = some (.iload_n 2, 79, 0) := by decide +kernel
theorem i115_79 : ts_ins 115 79 = some (.istore_n 2, 80, 0) := by decide +kernel
theorem i115_80 : ts_ins 115 80 = some (.iinc 3 1, 83, 0) := by decide +kernel
theorem i115_83 : ts_ins 115 83 = some (.iinc 5 1, 86, 0) := by decide +kernel
theorem i115_86 : ts_ins 115 86 = some (.goto (-51), 89, 35) := by decide +kernel
theorem i115_89 : ts_ins 115 89 = some (.iinc 4 1, 92, 0) := by decide +kernel
theorem i115_92 : ts_ins 115 92 = some (.goto (-75), 95, 17) := by decide +kernel
theorem i115_95 : ts_ins 115 95 = some (.iload_n 1, 96, 0) := by decide +kernel
theorem i115_96 : ts_ins 115 96 = some (.ifCond .ne 7, 99, 103) := by decide +kernel
theorem i115_99 : ts_ins 115 99 = some (.iload_n 2, 100, 0) := by decide +kernel
theorem i115_100 : ts_ins 115 100 = some (.goto 4, 103, 104) := by decide +kernel
theorem i115_103 : ts_ins 115 103 = some (.iload_n 3, 104, 0) := by decide +kernel
theorem i115_104 : ts_ins 115 104 = some (.ireturn, 105, 0) := by decide +kernel
theorem r115 : ts_rt 115 = ((some .int), 0, 0) := by decide +kernel
theorem l115 : ts_ml 115 = 6 := by decide +kernel
theorem i205_0 : ts_ins 205 0 = some (.iload_n 1, 1, 0) := by decide +kernel
theorem i205_1 : ts_ins 205 1 = some (.i2l, 2, 0) := by decide +kernel
theorem i205_2 : ts_ins 205 2 = some (.lconst 0, 3, 0) := by decide +kernel
theorem i205_3 : ts_ins 205 3 = some (.lconst 1, 4, 0) := by decide +kernel
theorem i205_4 : ts_ins 205 4 = some (.invokestatic 95, 7, 0) := by decide +kernel
theorem g205_4 : ts_cal (ts_mc 205) 95 = some (1, 143, 3) := by decide +kernel
theorem i205_7 : ts_ins 205 7 = some (.ifCond .ne 5, 10, 12) := by decide +kernel
theorem i205_10 : ts_ins 205 10 = some (.iconst (-1), 11, 0) := by decide +kernel
theorem i205_11 : ts_ins 205 11 = some (.ireturn, 12, 0) := by decide +kernel
theorem i205_12 : ts_ins 205 12 = some (.bipush (-2), 14, 0) := by decide +kernel
theorem i205_14 : ts_ins 205 14 = some (.istore_n 2, 15, 0) := by decide +kernel
theorem i205_15 : ts_ins 205 15 = some (.iconst 0, 16, 0) := by decide +kernel
theorem i205_16 : ts_ins 205 16 = some (.istore_n 3, 17, 0) := by decide +kernel
theorem i205_17 : ts_ins 205 17 = some (.iconst 0, 18, 0) := by decide +kernel
theorem i205_18 : ts_ins 205 18 = some (.istore 4, 20, 0) := by decide +kernel
theorem i205_20 : ts_ins 205 20 = some (.iload 4, 22, 0) := by decide +kernel
theorem i205_22 : ts_ins 205 22 = some (.aload_n 0, 23, 0) := by decide +kernel
theorem i205_23 : ts_ins 205 23 = some (.getfield 99, 26, 0) := by decide +kernel
theorem g205_23 : ts_fm 205 99 = some (12, 6, 0) := by decide +kernel
theorem i205_26 : ts_ins 205 26 = some (.if_icmp .ge 89, 29, 115) := by decide +kernel
theorem i205_29 : ts_ins 205 29 = some (.iload 4, 31, 0) := by decide +kernel
theorem i205_31 : ts_ins 205 31 = some (.iconst 1, 32, 0) := by decide +kernel
theorem i205_32 : ts_ins 205 32 = some (.iadd, 33, 0) := by decide +kernel
theorem i205_33 : ts_ins 205 33 = some (.istore 5, 35, 0) := by decide +kernel
theorem i205_35 : ts_ins 205 35 = some (.iload 5, 37, 0) := by decide +kernel
theorem i205_37 : ts_ins 205 37 = some (.aload_n 0, 38, 0) := by decide +kernel
theorem i205_38 : ts_ins 205 38 = some (.getfield 99, 41, 0) := by decide +kernel
theorem g205_38 : ts_fm 205 99 = some (12, 6, 0) := by decide +kernel
theorem i205_41 : ts_ins 205 41 = some (.if_icmp .ge 68, 44, 109) := by decide +kernel
theorem i205_44 : ts_ins 205 44 = some (.iload 4, 46, 0) := by decide +kernel
theorem i205_46 : ts_ins 205 46 = some (.aload_n 0, 47, 0) := by decide +kernel
theorem i205_47 : ts_ins 205 47 = some (.getfield 9, 50, 0) := by decide +kernel
theorem g205_47 : ts_fm 205 9 = some (12, 0, 2) := by decide +kernel
theorem i205_50 : ts_ins 205 50 = some (.bipush 44, 52, 0) := by decide +kernel
theorem i205_52 : ts_ins 205 52 = some (.iload 4, 54, 0) := by decide +kernel
theorem i205_54 : ts_ins 205 54 = some (.iadd, 55, 0) := by decide +kernel
theorem i205_55 : ts_ins 205 55 = some (.iaload, 56, 0) := by decide +kernel
theorem i205_56 : ts_ins 205 56 = some (.iadd, 57, 0) := by decide +kernel
theorem i205_57 : ts_ins 205 57 = some (.aload_n 0, 58, 0) := by decide +kernel
theorem i205_58 : ts_ins 205 58 = some (.getfield 99, 61, 0) := by decide +kernel
theorem g205_58 : ts_fm 205 99 = some (12, 6, 0) := by decide +kernel
theorem i205_61 : ts_ins 205 61 = some (.irem, 62, 0) := by decide +kernel
theorem i205_62 : ts_ins 205 62 = some (.iload 5, 64, 0) := by decide +kernel
theorem i205_64 : ts_ins 205 64 = some (.aload_n 0, 65, 0) := by decide +kernel
theorem i205_65 : ts_ins 205 65 = some (.getfield 9, 68, 0) := by decide +kernel
theorem g205_65 : ts_fm 205 9 = some (12, 0, 2) := by decide +kernel
theorem i205_68 : ts_ins 205 68 = some (.bipush 44, 70, 0) := by decide +kernel
theorem i205_70 : ts_ins 205 70 = some (.iload 5, 72, 0) := by decide +kernel
theorem i205_72 : ts_ins 205 72 = some (.iadd, 73, 0) := by decide +kernel
theorem i205_73 : ts_ins 205 73 = some (.iaload, 74, 0) := by decide +kernel
theorem i205_74 : ts_ins 205 74 = some (.iadd, 75, 0) := by decide +kernel
theorem i205_75 : ts_ins 205 75 = some (.aload_n 0, 76, 0) := by decide +kernel
theorem i205_76 : ts_ins 205 76 = some (.getfield 99, 79, 0) := by decide +kernel
theorem g205_76 : ts_fm 205 99 = some (12, 6, 0) := by decide +kernel
theorem i205_79 : ts_ins 205 79 = some (.irem, 80, 0) := by decide +kernel
theorem i205_80 : ts_ins 205 80 = some (.if_icmp .ne 23, 83, 103) := by decide +kernel
theorem i205_83 : ts_ins 205 83 = some (.iload_n 3, 84, 0) := by decide +kernel
theorem i205_84 : ts_ins 205 84 = some (.ifCond .ne 14, 87, 98) := by decide +kernel
theorem i205_87 : ts_ins 205 87 = some (.bipush 10, 89, 0) := by decide +kernel
theorem i205_89 : ts_ins 205 89 = some (.iload 4, 91, 0) := by decide +kernel
theorem i205_91 : ts_ins 205 91 = some (.imul, 92, 0) := by decide +kernel
theorem i205_92 : ts_ins 205 92 = some (.iload 5, 94, 0) := by decide +kernel
theorem i205_94 : ts_ins 205 94 = some (.iadd, 95, 0) := by decide +kernel
theorem i205_95 : ts_ins 205 95 = some (.goto 4, 98, 99) := by decide +kernel
theorem i205_98 : ts_ins 205 98 = some (.iload_n 2, 99, 0) := by decide +kernel
theorem i205_99 : ts_ins 205 99 = some (.istore_n 2, 100, 0) := by decide +kernel
theorem i205_100 : ts_ins 205 100 = some (.iinc 3 1, 103, 0) := by decide +kernel
theorem i205_103 : ts_ins 205 103 = some (.iinc 5 1, 106, 0) := by decide +kernel
theorem i205_106 : ts_ins 205 106 = some (.goto (-71), 109, 35) := by decide +kernel
theorem i205_109 : ts_ins 205 109 = some (.iinc 4 1, 112, 0) := by decide +kernel
theorem i205_112 : ts_ins 205 112 = some (.goto (-92), 115, 20) := by decide +kernel
theorem i205_115 : ts_ins 205 115 = some (.iload_n 1, 116, 0) := by decide +kernel
theorem i205_116 : ts_ins 205 116 = some (.ifCond .ne 7, 119, 123) := by decide +kernel
theorem i205_119 : ts_ins 205 119 = some (.iload_n 2, 120, 0) := by decide +kernel
theorem i205_120 : ts_ins 205 120 = some (.goto 4, 123, 124) := by decide +kernel
theorem i205_123 : ts_ins 205 123 = some (.iload_n 3, 124, 0) := by decide +kernel
theorem i205_124 : ts_ins 205 124 = some (.ireturn, 125, 0) := by decide +kernel
theorem r205 : ts_rt 205 = ((some .int), 0, 0) := by decide +kernel
theorem l205 : ts_ml 205 = 6 := by decide +kernel
/-! LOOPS as functions; who strikes when -/
def zwf {α : Type} (step : Int → α → α) : Nat → Int → α → α
  | 0, _, s => s
  | n + 1, i, s => zwf step n (i + 1) (step i s)
/-- step for i, i+1 .. below n -/
def zwh {α : Type} (n : Int) (step : Int → α → α) (i : Int) (s : α) : α := zwf step (n - i).toNat i s
theorem zwh_1 {α : Type} {n i : Int} {step : Int → α → α} {s : α} (h : i < n) : zwh n step i s = zwh n step (i + 1) (step i s) := by
  unfold zwh
  rw [show (n - i).toNat = (n - (i + 1)).toNat + 1 from by omega]
  rfl
theorem zwh_0 {α : Type} {n i : Int} {step : Int → α → α} {s : α} (h : ¬ i < n) : zwh n step i s = s := by
  unfold zwh
  rw [show (n - i).toNat = 0 from by omega]
  rfl
def zff (g : Int → Prop) [DecidablePred g] (e : Int) : Nat → Int → Int
  | 0, _ => e
  | n + 1, i => if g i then i else zff g e n (i + 1)
/-- the first of i, i+1 .. below n that is g, else e -/
def zfd (n : Int) (g : Int → Prop) [DecidablePred g] (e i : Int) : Int := zff g e (n - i).toNat i
theorem zfd_1 {n i e : Int} {g : Int → Prop} [DecidablePred g] (h : i < n) : zfd n g e i = if g i then i else zfd n g e (i + 1) := by
  unfold zfd
  rw [show (n - i).toNat = (n - (i + 1)).toNat + 1 from by omega]
  rfl
theorem zfd_0 {n i e : Int} {g : Int → Prop} [DecidablePred g] (h : ¬ i < n) : zfd n g e i = e := by
  unfold zfd
  rw [show (n - i).toNat = 0 from by omega]
  rfl
abbrev g_strikes (f : ts_Fl) (beat m : Int) : Prop := 0 ≤ beat - m - f_late f m ∧ (beat - m - f_late f m) % f_men f = 0
def g_strikers (f : ts_Fl) (beat : Int) : Int := zwh (f_men f) (fun m n => n + if g_strikes f beat m then 1 else 0) 0 0
def g_first (f : ts_Fl) (n : Int) : Int := if 0 ≤ n ∧ n ≤ 4 then zfd 100 (fun b => g_strikers f b = n) (-2) 0 else -1
def g_silent (f : ts_Fl) : Int := zwh 100 (fun b n => n + if g_strikers f b = 0 then 1 else 0) 0 0
abbrev g_tog (f : ts_Fl) (a b : Int) : Prop := (a + f_late f a) % f_men f = (b + f_late f b) % f_men f
def g_meetI (f : ts_Fl) (a b : Int) (s : Int × Int) : Int × Int := if g_tog f a b then (if s.2 = 0 then 10 * a + b else s.1, s.2 + 1) else s
def g_meetO (f : ts_Fl) (a : Int) (s : Int × Int) : Int × Int := zwh (f_men f) (g_meetI f a) (a + 1) s
def g_meet (f : ts_Fl) (w : Int) : Int := if 0 ≤ w ∧ w ≤ 1 then (if w = 0 then (zwh (f_men f) (g_meetO f) 0 (-2, 0)).1 else (zwh (f_men f) (g_meetO f) 0 (-2, 0)).2) else -1
section TU
variable {X : ts_X} {I : Nat → Nat → Int32} {L : Nat → Nat → Int64} {sw : Bool} {K : Option Value → ts_H → Prop} {d : Nat} {f : ts_Fl}
theorem zsnn {x : Int} {p : Prop} [Decidable p] (h : 0 ≤ x) : 0 ≤ x + if p then 1 else 0 := by split <;> omega
theorem x_strikersOn (hX : RX I f) {b : Int} (hb : 0 ≤ b ∧ b ≤ 100) (hK : 0 ≤ g_strikers f b → g_strikers f b ≤ 4 → K (some (.int (zI (g_strikers f b)))) (I, L, ts_P0 sw, ts_S0)) : ts_Cal X (d + 1) 86 [.ref 42, .int (zI (b))] (I, L, ts_P0 sw, ts_S0) K := by
  have b1 := hX.men.2
  have loop : ∀ m : Int, 0 ≤ m → m ≤ f_men f → ∀ n o, 0 ≤ n → n ≤ m → zwh (f_men f) (fun m n => n + if g_strikes f b m then 1 else 0) m n = g_strikers f b → ts_Ev X (ts_Cal X (d + 0)) 86 ts_S0 K 4 [.ref 42, .int (zI (b)), .int (zI (n)), .int (zI (m)), o] [] (I, L, ts_P0 sw, ts_S0) := by
    refine ts_ind (f_men f) (fun m ih h0 h1 n o h2 h3 h4 => ?_)
    refine ev_iloadn_3 i86_4 ?_
    refine ev_aloadn_0 i86_5 ?_
    refine ev_getA i86_6 g86_6 rfl rfl (by decide) ?_
    refine ew_getI i86_9 g86_9 rfl (by first | exact hX.men | exact hX.told | exact hX.road | exact hX.tone _ (by omega) (by omega) | exact hX.corn _ (by omega) (by omega) | exact hX.stand _ (by omega) (by omega) | exact hX.reach _ (by omega) (by omega) | exact hX.arm _ (by omega) (by omega) | exact hX.late _ (by omega) (by omega) | exact hX.len _ (by omega) (by omega) | exact hX.say (by omega) (by omega) _ (by omega) (by omega)) (fun b9 => ?_)
    refine ew_icmpge i86_12 (by omega) (fun c12 => ?_) (fun c12 => ?_)
    · refine ev_iloadn_2 i86_57 ?_
      refine ev_ireturn i86_58 r86 ?_
      rw [zwh_0 (by omega)] at h4
      subst h4
      exact hK (by omega) (by omega)
    · refine ev_iloadn_1 i86_15 ?_
      refine ev_iloadn_3 i86_16 ?_
      refine ew_isub i86_17 ?_
      refine ev_aloadn_0 i86_18 ?_
      refine ev_getA i86_19 g86_19 rfl rfl (by decide) ?_
      refine ev_getA i86_22 g86_22 rfl rfl (by decide) ?_
      refine ev_iloadn_3 i86_25 ?_
      refine ew_iaload i86_26 rfl (by omega) (by omega) (by omega) (by first | exact hX.men | exact hX.told | exact hX.road | exact hX.tone _ (by omega) (by omega) | exact hX.corn _ (by omega) (by omega) | exact hX.stand _ (by omega) (by omega) | exact hX.reach _ (by omega) (by omega) | exact hX.arm _ (by omega) (by omega) | exact hX.late _ (by omega) (by omega) | exact hX.len _ (by omega) (by omega) | exact hX.say (by omega) (by omega) _ (by omega) (by omega)) (fun b26 => ?_)
      refine ew_isub i86_27 ?_
      refine ev_istore_4 i86_28 rfl ?_
      refine ev_iload_4 i86_30 ?_
      refine ew_iflt i86_32 (by omega) (fun c32 => ?_) (fun c32 => ?_)
      · refine ew_iinc_3 i86_51 rfl ?_
        refine ev_goto i86_54 ?_
        rw [zwh_1 (by omega)] at h4
        first
          | (rw [if_pos ⟨by omega, by omega⟩] at h4
             exact ih (by omega) (by omega) (by omega) _ _ (by omega) (by omega) h4)
          | (rw [if_neg (fun r => by have r1 := r.1; have r2 := r.2; omega)] at h4
             exact ih (by omega) (by omega) (by omega) _ _ (by omega) (by omega) (by rw [Int.add_zero] at h4; exact h4))
      · refine ev_iload_4 i86_35 ?_
        refine ev_aloadn_0 i86_37 ?_
        refine ev_getA i86_38 g86_38 rfl rfl (by decide) ?_
        refine ew_getI i86_41 g86_41 rfl (by first | exact hX.men | exact hX.told | exact hX.road | exact hX.tone _ (by omega) (by omega) | exact hX.corn _ (by omega) (by omega) | exact hX.stand _ (by omega) (by omega) | exact hX.reach _ (by omega) (by omega) | exact hX.arm _ (by omega) (by omega) | exact hX.late _ (by omega) (by omega) | exact hX.len _ (by omega) (by omega) | exact hX.say (by omega) (by omega) _ (by omega) (by omega)) (fun b41 => ?_)
        refine ew_iremB i86_44 (by omega) (by omega) (fun r44 => ?_)
        first
        | refine ew_ifneB i86_45 (fun c45 => ?_) (fun c45 => ?_)
        | refine ew_ifne i86_45 (by omega) (fun c45 => ?_) (fun c45 => ?_)
        · refine ew_iinc_3 i86_51 rfl ?_
          refine ev_goto i86_54 ?_
          rw [zwh_1 (by omega)] at h4
          first
            | (rw [if_pos ⟨by omega, by omega⟩] at h4
               exact ih (by omega) (by omega) (by omega) _ _ (by omega) (by omega) h4)
            | (rw [if_neg (fun r => by have r1 := r.1; have r2 := r.2; omega)] at h4
               exact ih (by omega) (by omega) (by omega) _ _ (by omega) (by omega) (by rw [Int.add_zero] at h4; exact h4))
        · refine ew_iinc_2 i86_48 rfl ?_
          refine ew_iinc_3 i86_51 rfl ?_
          refine ev_goto i86_54 ?_
          rw [zwh_1 (by omega)] at h4
          first
            | (rw [if_pos ⟨by omega, by omega⟩] at h4
               exact ih (by omega) (by omega) (by omega) _ _ (by omega) (by omega) h4)
            | (rw [if_neg (fun r => by have r1 := r.1; have r2 := r.2; omega)] at h4
               exact ih (by omega) (by omega) (by omega) _ _ (by omega) (by omega) (by rw [Int.add_zero] at h4; exact h4))
  refine ev_enter (lv := [.ref 42, .int (zI (b)), .null, .null, .null]) l86 rfl (Nat.le_of_ble_eq_true rfl) ?_
  refine ew_iconst i86_0 ?_
  refine ev_istoren_2 i86_1 rfl ?_
  refine ew_iconst i86_2 ?_
  refine ev_istoren_3 i86_3 rfl ?_
  exact loop 0 (by decide) (by omega) 0 _ (by decide) (by decide) rfl
theorem m_strikesOn (hM : RM I f) {m b : Int} (hm : 0 ≤ m ∧ m < f_men f) (hb : 0 ≤ b ∧ b ≤ 100) (hK : K (some (.int (zI (if g_strikes f b m then 1 else 0)))) (I, L, ts_P0 sw, ts_S0)) : ts_Cal X (d + 1) 204 [.ref 72, .int (zI (m)), .int (zI (b))] (I, L, ts_P0 sw, ts_S0) K := by
  have b1 := hM.men.2
  refine ev_enter (lv := [.ref 72, .int (zI (m)), .int (zI (b)), .null]) l204 rfl (Nat.le_of_ble_eq_true rfl) ?_
  refine ev_iloadn_2 i204_0 ?_
  refine ev_iloadn_1 i204_1 ?_
  refine ew_isub i204_2 ?_
  refine ev_aloadn_0 i204_3 ?_
  refine ev_getA i204_4 g204_4 rfl rfl (by decide) ?_
  refine ew_bipush i204_7 (by decide) ?_
  refine ev_iloadn_1 i204_9 ?_
  refine ew_iadd i204_10 ?_
  refine ew_iaload i204_11 rfl (by omega) (by omega) (by omega) (by first | exact hM.men | exact hM.told | exact hM.road | exact hM.stand _ (by omega) (by omega) | exact hM.reach _ (by omega) (by omega) | exact hM.arm _ (by omega) (by omega) | exact hM.late _ (by omega) (by omega) | exact hM.len _ (by omega) (by omega) | exact hM.corn _ (by omega) (by omega) | exact hM.say (by omega) (by omega) _ (by omega) (by omega) | exact hM.tone _ (by omega) (by omega)) (fun b11 => ?_)
  refine ew_isub i204_12 ?_
  refine ev_istoren_3 i204_13 rfl ?_
  refine ev_iloadn_3 i204_14 ?_
  refine ew_iflt i204_15 (by omega) (fun c15 => ?_) (fun c15 => ?_)
  · refine ew_iconst i204_31 ?_
    exact ew_zreturn i204_32 r204 (by omega) hK
  · refine ev_iloadn_3 i204_18 ?_
    refine ev_aloadn_0 i204_19 ?_
    refine ew_getI i204_20 g204_20 rfl (by first | exact hM.men | exact hM.told | exact hM.road | exact hM.stand _ (by omega) (by omega) | exact hM.reach _ (by omega) (by omega) | exact hM.arm _ (by omega) (by omega) | exact hM.late _ (by omega) (by omega) | exact hM.len _ (by omega) (by omega) | exact hM.corn _ (by omega) (by omega) | exact hM.say (by omega) (by omega) _ (by omega) (by omega) | exact hM.tone _ (by omega) (by omega)) (fun b20 => ?_)
    refine ew_iremB i204_23 (by omega) (by omega) (fun r23 => ?_)
    first
    | refine ew_ifneB i204_24 (fun c24 => ?_) (fun c24 => ?_)
    | refine ew_ifne i204_24 (by omega) (fun c24 => ?_) (fun c24 => ?_)
    · refine ew_iconst i204_31 ?_
      exact ew_zreturn i204_32 r204 (by omega) hK
    · refine ew_iconst i204_27 ?_
      refine ev_goto i204_28 ?_
      exact ew_zreturn i204_32 r204 (by omega) hK
theorem m_strikersOn (hM : RM I f) {b : Int} (hb : 0 ≤ b ∧ b ≤ 100) (hK : 0 ≤ g_strikers f b → g_strikers f b ≤ 4 → K (some (.int (zI (g_strikers f b)))) (I, L, ts_P0 sw, ts_S0)) : ts_Cal X (d + 2) 206 [.ref 72, .int (zI (b))] (I, L, ts_P0 sw, ts_S0) K := by
  have b1 := hM.men.2
  have loop : ∀ m : Int, 0 ≤ m → m ≤ f_men f → ∀ n, 0 ≤ n → n ≤ m → zwh (f_men f) (fun m n => n + if g_strikes f b m then 1 else 0) m n = g_strikers f b → ts_Ev X (ts_Cal X (d + 1)) 206 ts_S0 K 4 [.ref 72, .int (zI (b)), .int (zI (n)), .int (zI (m))] [] (I, L, ts_P0 sw, ts_S0) := by
    refine ts_ind (f_men f) (fun m ih h0 h1 n h2 h3 h4 => ?_)
    refine ev_iloadn_3 i206_4 ?_
    refine ev_aloadn_0 i206_5 ?_
    refine ew_getI i206_6 g206_6 rfl (by first | exact hM.men | exact hM.told | exact hM.road | exact hM.stand _ (by omega) (by omega) | exact hM.reach _ (by omega) (by omega) | exact hM.arm _ (by omega) (by omega) | exact hM.late _ (by omega) (by omega) | exact hM.len _ (by omega) (by omega) | exact hM.corn _ (by omega) (by omega) | exact hM.say (by omega) (by omega) _ (by omega) (by omega) | exact hM.tone _ (by omega) (by omega)) (fun b6 => ?_)
    refine ew_icmpge i206_9 (by omega) (fun c9 => ?_) (fun c9 => ?_)
    · refine ev_iloadn_2 i206_35 ?_
      refine ev_ireturn i206_36 r206 ?_
      rw [zwh_0 (by omega)] at h4
      subst h4
      exact hK (by omega) (by omega)
    · refine ev_iloadn_2 i206_12 ?_
      refine ev_aloadn_0 i206_13 ?_
      refine ev_iloadn_3 i206_14 ?_
      refine ev_iloadn_1 i206_15 ?_
      refine ev_virt2 i206_16 g206_16 rfl (by decide +kernel) (Nat.le_of_ble_eq_true rfl) (m_strikesOn hM (by omega) hb ?_)
      first
      | refine ew_ifeqB i206_19 (fun c19 => ?_) (fun c19 => ?_)
      | refine ew_ifeq i206_19 (by omega) (fun c19 => ?_) (fun c19 => ?_)
      · refine ew_iconst i206_26 ?_
        refine ew_iadd i206_27 ?_
        refine ev_istoren_2 i206_28 rfl ?_
        refine ew_iinc_3 i206_29 rfl ?_
        refine ev_goto i206_32 ?_
        rw [zwh_1 (by omega)] at h4
        first
          | (rw [if_pos c19] at h4
             exact ih (by omega) (by omega) (by omega) _ (by omega) (by omega) h4)
          | (rw [if_neg c19] at h4
             exact ih (by omega) (by omega) (by omega) _ (by omega) (by omega) h4)
      · refine ew_iconst i206_22 ?_
        refine ev_goto i206_23 ?_
        refine ew_iadd i206_27 ?_
        refine ev_istoren_2 i206_28 rfl ?_
        refine ew_iinc_3 i206_29 rfl ?_
        refine ev_goto i206_32 ?_
        rw [zwh_1 (by omega)] at h4
        first
          | (rw [if_pos c19] at h4
             exact ih (by omega) (by omega) (by omega) _ (by omega) (by omega) h4)
          | (rw [if_neg c19] at h4
             exact ih (by omega) (by omega) (by omega) _ (by omega) (by omega) h4)
  refine ev_enter (lv := [.ref 72, .int (zI (b)), .null, .null]) l206 rfl (Nat.le_of_ble_eq_true rfl) ?_
  refine ew_iconst i206_0 ?_
  refine ev_istoren_2 i206_1 rfl ?_
  refine ew_iconst i206_2 ?_
  refine ev_istoren_3 i206_3 rfl ?_
  exact loop 0 (by decide) (by omega) 0 (by decide) (by decide) rfl
theorem x_first (hX : RX I f) {n : Int} (hn : -2147483648 ≤ n ∧ n ≤ 2147483647) (hK : K (some (.int (zI (g_first f n)))) (I, L, ts_P0 sw, ts_S0)) : ts_Cal X (d + 2) 116 [.ref 1, .int (zI (n))] (I, L, ts_P0 sw, ts_S0) K := by
  unfold g_first at hK
  have loop : (0 ≤ n ∧ n ≤ 4) → ∀ b : Int, 0 ≤ b → b ≤ 100 → K (some (.int (zI (zfd 100 (fun b => g_strikers f b = n) (-2) b)))) (I, L, ts_P0 sw, ts_S0) → ts_Ev X (ts_Cal X (d + 1)) 116 ts_S0 K 13 [.ref 1, .int (zI (n)), .int (zI (b))] [] (I, L, ts_P0 sw, ts_S0) := by
    intro hn2
    refine ts_ind 100 (fun b ih h0 h1 h2 => ?_)
    refine ev_iloadn_2 i116_13 ?_
    refine ew_bipush i116_14 (by decide) ?_
    refine ew_icmpge i116_16 (by omega) (fun c16 => ?_) (fun c16 => ?_)
    · refine ew_bipush i116_39 (by decide) ?_
      refine ev_ireturn i116_41 r116 ?_
      rw [zfd_0 (by omega)] at h2
      exact h2
    · refine ev_aloadn_0 i116_19 ?_
      refine ev_getA i116_20 g116_20 rfl rfl (by decide) ?_
      refine ev_iloadn_2 i116_23 ?_
      refine ev_virt1 i116_24 g116_24 rfl (by decide +kernel) (Nat.le_of_ble_eq_true rfl) (x_strikersOn hX (by omega) (fun q0 q1 => ?_))
      refine ev_iloadn_1 i116_27 ?_
      refine ew_icmpne i116_28 (by omega) (fun c28 => ?_) (fun c28 => ?_)
      · refine ew_iinc_2 i116_33 rfl ?_
        refine ev_goto i116_36 ?_
        rw [zfd_1 (by omega), if_neg c28] at h2
        exact ih (by omega) (by omega) (by omega) h2
      · refine ev_iloadn_2 i116_31 ?_
        refine ev_ireturn i116_32 r116 ?_
        rw [zfd_1 (by omega), if_pos c28] at h2
        exact h2
  refine ev_enter (lv := [.ref 1, .int (zI (n)), .null]) l116 rfl (Nat.le_of_ble_eq_true rfl) ?_
  refine ev_iloadn_1 i116_0 ?_
  refine ew_iflt i116_1 (by omega) (fun c1 => ?_) (fun c1 => ?_)
  · refine ew_iconst i116_9 ?_
    refine ev_ireturn i116_10 r116 ?_
    first | exact hK | exact zK hK (by omega)
  · refine ev_iloadn_1 i116_4 ?_
    refine ew_iconst i116_5 ?_
    refine ew_icmple i116_6 (by omega) (fun c6 => ?_) (fun c6 => ?_)
    · refine ew_iconst i116_11 ?_
      refine ev_istoren_2 i116_12 rfl ?_
      rw [if_pos (by omega)] at hK
      exact loop (by omega) 0 (by decide) (by decide) hK
    · refine ew_iconst i116_9 ?_
      refine ev_ireturn i116_10 r116 ?_
      first | exact hK | exact zK hK (by omega)
theorem m_first (hM : RM I f) {n : Int} (hn : -2147483648 ≤ n ∧ n ≤ 2147483647) (hK : K (some (.int (zI (g_first f n)))) (I, L, ts_P0 sw, ts_S0)) : ts_Cal X (d + 3) 207 [.ref 72, .int (zI (n))] (I, L, ts_P0 sw, ts_S0) K := by
  unfold g_first at hK
  have loop : (0 ≤ n ∧ n ≤ 4) → ∀ b : Int, 0 ≤ b → b ≤ 100 → K (some (.int (zI (zfd 100 (fun b => g_strikers f b = n) (-2) b)))) (I, L, ts_P0 sw, ts_S0) → ts_Ev X (ts_Cal X (d + 2)) 207 ts_S0 K 16 [.ref 72, .int (zI (n)), .int (zI (b))] [] (I, L, ts_P0 sw, ts_S0) := by
    intro hn2
    refine ts_ind 100 (fun b ih h0 h1 h2 => ?_)
    refine ev_iloadn_2 i207_16 ?_
    refine ew_bipush i207_17 (by decide) ?_
    refine ew_icmpge i207_19 (by omega) (fun c19 => ?_) (fun c19 => ?_)
    · refine ew_bipush i207_39 (by decide) ?_
      refine ev_ireturn i207_41 r207 ?_
      rw [zfd_0 (by omega)] at h2
      exact h2
    · refine ev_aloadn_0 i207_22 ?_
      refine ev_iloadn_2 i207_23 ?_
      refine ev_virt1 i207_24 g207_24 rfl (by decide +kernel) (Nat.le_of_ble_eq_true rfl) (m_strikersOn hM (by omega) (fun q0 q1 => ?_))
      refine ev_iloadn_1 i207_27 ?_
      refine ew_icmpne i207_28 (by omega) (fun c28 => ?_) (fun c28 => ?_)
      · refine ew_iinc_2 i207_33 rfl ?_
        refine ev_goto i207_36 ?_
        rw [zfd_1 (by omega), if_neg c28] at h2
        exact ih (by omega) (by omega) (by omega) h2
      · refine ev_iloadn_2 i207_31 ?_
        refine ev_ireturn i207_32 r207 ?_
        rw [zfd_1 (by omega), if_pos c28] at h2
        exact h2
  refine ev_enter (lv := [.ref 72, .int (zI (n)), .null]) l207 rfl (Nat.le_of_ble_eq_true rfl) ?_
  refine ev_iloadn_1 i207_0 ?_
  refine ew_i2l i207_1 (by omega) ?_
  refine ew_lconst (z := 0) i207_2 (by decide) ?_
  refine ew_ldc2_w (z := (4)) i207_3 g207_3 (by decide) ?_
  refine ev_stat3 i207_6 g207_6 (by decide +kernel) (Nat.le_of_ble_eq_true rfl) (m_within (by omega) (by omega) (by omega) ?_)
  first
  | refine ew_ifneB i207_9 (fun c9 => ?_) (fun c9 => ?_)
  | refine ew_ifne i207_9 (by omega) (fun c9 => ?_) (fun c9 => ?_)
  · refine ew_iconst i207_14 ?_
    refine ev_istoren_2 i207_15 rfl ?_
    rw [if_pos (by omega)] at hK
    exact loop (by omega) 0 (by decide) (by decide) hK
  · refine ew_iconst i207_12 ?_
    refine ev_ireturn i207_13 r207 ?_
    first | exact hK | exact zK hK (by omega)
theorem x_silent (hX : RX I f) (hK : K (some (.int (zI (g_silent f)))) (I, L, ts_P0 sw, ts_S0)) : ts_Cal X (d + 2) 117 [.ref 1] (I, L, ts_P0 sw, ts_S0) K := by
  have loop : ∀ b : Int, 0 ≤ b → b ≤ 100 → ∀ n, zwh 100 (fun b n => n + if g_strikers f b = 0 then 1 else 0) b n = g_silent f → ts_Ev X (ts_Cal X (d + 1)) 117 ts_S0 K 4 [.ref 1, .int (zI (n)), .int (zI (b))] [] (I, L, ts_P0 sw, ts_S0) := by
    refine ts_ind 100 (fun b ih h0 h1 n h2 => ?_)
    refine ev_iloadn_2 i117_4 ?_
    refine ew_bipush i117_5 (by decide) ?_
    refine ew_icmpge i117_7 (by omega) (fun c7 => ?_) (fun c7 => ?_)
    · refine ev_iloadn_1 i117_30 ?_
      refine ev_ireturn i117_31 r117 ?_
      rw [zwh_0 (by omega)] at h2
      rw [← h2] at hK
      exact hK
    · refine ev_aloadn_0 i117_10 ?_
      refine ev_getA i117_11 g117_11 rfl rfl (by decide) ?_
      refine ev_iloadn_2 i117_14 ?_
      refine ev_virt1 i117_15 g117_15 rfl (by decide +kernel) (Nat.le_of_ble_eq_true rfl) (x_strikersOn hX (by omega) (fun q0 q1 => ?_))
      first
      | refine ew_ifneB i117_18 (fun c18 => ?_) (fun c18 => ?_)
      | refine ew_ifne i117_18 (by omega) (fun c18 => ?_) (fun c18 => ?_)
      · refine ew_iinc_2 i117_24 rfl ?_
        refine ev_goto i117_27 ?_
        rw [zwh_1 (by omega)] at h2
        first
          | (rw [if_pos c18] at h2
             exact ih (by omega) (by omega) (by omega) _ h2)
          | (rw [if_neg c18, Int.add_zero] at h2
             exact ih (by omega) (by omega) (by omega) _ h2)
      · refine ew_iinc_1 i117_21 rfl ?_
        refine ew_iinc_2 i117_24 rfl ?_
        refine ev_goto i117_27 ?_
        rw [zwh_1 (by omega)] at h2
        first
          | (rw [if_pos c18] at h2
             exact ih (by omega) (by omega) (by omega) _ h2)
          | (rw [if_neg c18, Int.add_zero] at h2
             exact ih (by omega) (by omega) (by omega) _ h2)
  refine ev_enter (lv := [.ref 1, .null, .null]) l117 rfl (Nat.le_of_ble_eq_true rfl) ?_
  refine ew_iconst i117_0 ?_
  refine ev_istoren_1 i117_1 rfl ?_
  refine ew_iconst i117_2 ?_
  refine ev_istoren_2 i117_3 rfl ?_
  exact loop 0 (by decide) (by decide) 0 rfl
theorem m_silent (hM : RM I f) (hK : K (some (.int (zI (g_silent f)))) (I, L, ts_P0 sw, ts_S0)) : ts_Cal X (d + 3) 208 [.ref 72] (I, L, ts_P0 sw, ts_S0) K := by
  have loop : ∀ b : Int, 0 ≤ b → b ≤ 100 → ∀ n, zwh 100 (fun b n => n + if g_strikers f b = 0 then 1 else 0) b n = g_silent f → ts_Ev X (ts_Cal X (d + 2)) 208 ts_S0 K 4 [.ref 72, .int (zI (n)), .int (zI (b))] [] (I, L, ts_P0 sw, ts_S0) := by
    refine ts_ind 100 (fun b ih h0 h1 n h2 => ?_)
    refine ev_iloadn_2 i208_4 ?_
    refine ew_bipush i208_5 (by decide) ?_
    refine ew_icmpge i208_7 (by omega) (fun c7 => ?_) (fun c7 => ?_)
    · refine ev_iloadn_1 i208_32 ?_
      refine ev_ireturn i208_33 r208 ?_
      rw [zwh_0 (by omega)] at h2
      rw [← h2] at hK
      exact hK
    · refine ev_iloadn_1 i208_10 ?_
      refine ev_aloadn_0 i208_11 ?_
      refine ev_iloadn_2 i208_12 ?_
      refine ev_virt1 i208_13 g208_13 rfl (by decide +kernel) (Nat.le_of_ble_eq_true rfl) (m_strikersOn hM (by omega) (fun q0 q1 => ?_))
      first
      | refine ew_ifneB i208_16 (fun c16 => ?_) (fun c16 => ?_)
      | refine ew_ifne i208_16 (by omega) (fun c16 => ?_) (fun c16 => ?_)
      · refine ew_iconst i208_23 ?_
        refine ew_iadd i208_24 ?_
        refine ev_istoren_1 i208_25 rfl ?_
        refine ew_iinc_2 i208_26 rfl ?_
        refine ev_goto i208_29 ?_
        rw [zwh_1 (by omega)] at h2
        first
          | (rw [if_pos c16] at h2
             exact ih (by omega) (by omega) (by omega) _ h2)
          | (rw [if_neg c16] at h2
             exact ih (by omega) (by omega) (by omega) _ h2)
      · refine ew_iconst i208_19 ?_
        refine ev_goto i208_20 ?_
        refine ew_iadd i208_24 ?_
        refine ev_istoren_1 i208_25 rfl ?_
        refine ew_iinc_2 i208_26 rfl ?_
        refine ev_goto i208_29 ?_
        rw [zwh_1 (by omega)] at h2
        first
          | (rw [if_pos c16] at h2
             exact ih (by omega) (by omega) (by omega) _ h2)
          | (rw [if_neg c16] at h2
             exact ih (by omega) (by omega) (by omega) _ h2)
  refine ev_enter (lv := [.ref 72, .null, .null]) l208 rfl (Nat.le_of_ble_eq_true rfl) ?_
  refine ew_iconst i208_0 ?_
  refine ev_istoren_1 i208_1 rfl ?_
  refine ew_iconst i208_2 ?_
  refine ev_istoren_2 i208_3 rfl ?_
  exact loop 0 (by decide) (by decide) 0 rfl
theorem x_strikeAtOnce (hX : RX I f) {a b : Int} (ha : 0 ≤ a ∧ a < f_men f) (hb : 0 ≤ b ∧ b < f_men f) (hK : K (some (.int (zI (if g_tog f a b then 1 else 0)))) (I, L, ts_P0 sw, ts_S0)) : ts_Cal X (d + 1) 85 [.ref 42, .int (zI (a)), .int (zI (b))] (I, L, ts_P0 sw, ts_S0) K := by
  have b1 := hX.men.2
  have e : (a + f_late f a - b - f_late f b).tmod (f_men f) = 0 ↔ g_tog f a b := by
    unfold g_tog
    rw [Int.emod_eq_emod_iff_emod_sub_eq_zero, ← Int.dvd_iff_tmod_eq_zero, Int.dvd_iff_emod_eq_zero, show a + f_late f a - (b + f_late f b) = a + f_late f a - b - f_late f b from by omega]
  have e2 : -10 ≤ (a + f_late f a - b - f_late f b).tmod (f_men f) ∧ (a + f_late f a - b - f_late f b).tmod (f_men f) ≤ 10 := by
    have q1 := Int.tmod_lt_of_pos (a + f_late f a - b - f_late f b) (show 0 < f_men f by omega)
    have q2 := Int.lt_tmod_of_pos (a + f_late f a - b - f_late f b) (show 0 < f_men f by omega)
    omega
  refine ev_enter (lv := [.ref 42, .int (zI (a)), .int (zI (b)), .null]) l85 rfl (Nat.le_of_ble_eq_true rfl) ?_
  refine ev_iloadn_1 i85_0 ?_
  refine ev_aloadn_0 i85_1 ?_
  refine ev_getA i85_2 g85_2 rfl rfl (by decide) ?_
  refine ev_getA i85_5 g85_5 rfl rfl (by decide) ?_
  refine ev_iloadn_1 i85_8 ?_
  refine ew_iaload i85_9 rfl (by omega) (by omega) (by omega) (by first | exact hX.men | exact hX.told | exact hX.road | exact hX.tone _ (by omega) (by omega) | exact hX.corn _ (by omega) (by omega) | exact hX.stand _ (by omega) (by omega) | exact hX.reach _ (by omega) (by omega) | exact hX.arm _ (by omega) (by omega) | exact hX.late _ (by omega) (by omega) | exact hX.len _ (by omega) (by omega) | exact hX.say (by omega) (by omega) _ (by omega) (by omega)) (fun b9 => ?_)
  refine ew_iadd i85_10 ?_
  refine ev_iloadn_2 i85_11 ?_
  refine ew_isub i85_12 ?_
  refine ev_aloadn_0 i85_13 ?_
  refine ev_getA i85_14 g85_14 rfl rfl (by decide) ?_
  refine ev_getA i85_17 g85_17 rfl rfl (by decide) ?_
  refine ev_iloadn_2 i85_20 ?_
  refine ew_iaload i85_21 rfl (by omega) (by omega) (by omega) (by first | exact hX.men | exact hX.told | exact hX.road | exact hX.tone _ (by omega) (by omega) | exact hX.corn _ (by omega) (by omega) | exact hX.stand _ (by omega) (by omega) | exact hX.reach _ (by omega) (by omega) | exact hX.arm _ (by omega) (by omega) | exact hX.late _ (by omega) (by omega) | exact hX.len _ (by omega) (by omega) | exact hX.say (by omega) (by omega) _ (by omega) (by omega)) (fun b21 => ?_)
  refine ew_isub i85_22 ?_
  refine ev_istoren_3 i85_23 rfl ?_
  refine ev_aloadn_0 i85_24 ?_
  refine ev_getA i85_25 g85_25 rfl rfl (by decide) ?_
  refine ew_getI i85_28 g85_28 rfl (by first | exact hX.men | exact hX.told | exact hX.road | exact hX.tone _ (by omega) (by omega) | exact hX.corn _ (by omega) (by omega) | exact hX.stand _ (by omega) (by omega) | exact hX.reach _ (by omega) (by omega) | exact hX.arm _ (by omega) (by omega) | exact hX.late _ (by omega) (by omega) | exact hX.len _ (by omega) (by omega) | exact hX.say (by omega) (by omega) _ (by omega) (by omega)) (fun b28 => ?_)
  refine ew_ifle i85_31 (by omega) (fun c31 => ?_) (fun c31 => ?_)
  · refine ew_iconst i85_50 ?_
    first | exact ew_zreturn i85_51 r85 (Or.inl ⟨rfl, e.mp c43⟩) hK | exact ew_zreturn i85_51 r85 (Or.inr ⟨rfl, fun r => c43 (e.mpr r)⟩) hK | (exfalso; omega)
  · refine ev_iloadn_3 i85_34 ?_
    refine ev_aloadn_0 i85_35 ?_
    refine ev_getA i85_36 g85_36 rfl rfl (by decide) ?_
    refine ew_getI i85_39 g85_39 rfl (by first | exact hX.men | exact hX.told | exact hX.road | exact hX.tone _ (by omega) (by omega) | exact hX.corn _ (by omega) (by omega) | exact hX.stand _ (by omega) (by omega) | exact hX.reach _ (by omega) (by omega) | exact hX.arm _ (by omega) (by omega) | exact hX.late _ (by omega) (by omega) | exact hX.len _ (by omega) (by omega) | exact hX.say (by omega) (by omega) _ (by omega) (by omega)) (fun b39 => ?_)
    refine ew_iremS i85_42 (by omega) (by omega) ?_
    first
    | refine ew_ifneB i85_43 (fun c43 => ?_) (fun c43 => ?_)
    | refine ew_ifne i85_43 (by omega) (fun c43 => ?_) (fun c43 => ?_)
    · refine ew_iconst i85_50 ?_
      first | exact ew_zreturn i85_51 r85 (Or.inl ⟨rfl, e.mp c43⟩) hK | exact ew_zreturn i85_51 r85 (Or.inr ⟨rfl, fun r => c43 (e.mpr r)⟩) hK | (exfalso; omega)
    · refine ew_iconst i85_46 ?_
      refine ev_goto i85_47 ?_
      first | exact ew_zreturn i85_51 r85 (Or.inl ⟨rfl, e.mp c43⟩) hK | exact ew_zreturn i85_51 r85 (Or.inr ⟨rfl, fun r => c43 (e.mpr r)⟩) hK | (exfalso; omega)
theorem x_meet (hX : RX I f) {w : Int} (hw : -2147483648 ≤ w ∧ w ≤ 2147483647) (hK : K (some (.int (zI (g_meet f w)))) (I, L, ts_P0 sw, ts_S0)) : ts_Cal X (d + 2) 115 [.ref 1, .int (zI (w))] (I, L, ts_P0 sw, ts_S0) K := by
  have b1 := hX.men.2
  unfold g_meet at hK
  have outer : (0 ≤ w ∧ w ≤ 1) → ∀ a : Int, 0 ≤ a → a ≤ f_men f → ∀ l n o, 0 ≤ n → n ≤ 4 * a → (l = -2 ↔ n = 0) → -2 ≤ l → l ≤ 100 → zwh (f_men f) (g_meetO f) a (l, n) = zwh (f_men f) (g_meetO f) 0 (-2, 0) → ts_Ev X (ts_Cal X (d + 1)) 115 ts_S0 K 17 [.ref 1, .int (zI (w)), .int (zI (l)), .int (zI (n)), .int (zI (a)), o] [] (I, L, ts_P0 sw, ts_S0) := by
    intro hw2
    refine ts_ind (f_men f) (fun a ih h0 h00 l n o h1 h2 h3 h4 h5 h6 => ?_)
    have inner : ∀ b : Int, a + 1 ≤ b → b ≤ f_men f → ∀ l' n', 0 ≤ n' → n' ≤ 4 * a + b → (l' = -2 ↔ n' = 0) → -2 ≤ l' → l' ≤ 100 → zwh (f_men f) (g_meetI f a) b (l', n') = g_meetO f a (l, n) → ts_Ev X (ts_Cal X (d + 1)) 115 ts_S0 K 35 [.ref 1, .int (zI (w)), .int (zI (l')), .int (zI (n')), .int (zI (a)), .int (zI (b))] [] (I, L, ts_P0 sw, ts_S0) := by
      refine ts_ind (f_men f) (fun b ihb k0 k1 l' n' k2 k3 k4 k5 k6 k7 => ?_)
      refine ev_iload_5 i115_35 ?_
      refine ev_aloadn_0 i115_37 ?_
      refine ev_getA i115_38 g115_38 rfl rfl (by decide) ?_
      refine ew_getI i115_41 g115_41 rfl (by first | exact hX.men | exact hX.told | exact hX.road | exact hX.tone _ (by omega) (by omega) | exact hX.corn _ (by omega) (by omega) | exact hX.stand _ (by omega) (by omega) | exact hX.reach _ (by omega) (by omega) | exact hX.arm _ (by omega) (by omega) | exact hX.late _ (by omega) (by omega) | exact hX.len _ (by omega) (by omega) | exact hX.say (by omega) (by omega) _ (by omega) (by omega)) (fun b41 => ?_)
      refine ew_icmpge i115_44 (by omega) (fun c44 => ?_) (fun c44 => ?_)
      · refine ew_iinc_4 i115_89 rfl ?_
        refine ev_goto i115_92 ?_
        rw [zwh_0 (by omega)] at k7
        rw [zwh_1 (by omega), ← k7] at h6
        exact ih (by omega) (by omega) (by omega) _ _ _ (by omega) (by omega) k4 k5 k6 h6
      · refine ev_aloadn_0 i115_47 ?_
        refine ev_getA i115_48 g115_48 rfl rfl (by decide) ?_
        refine ev_iload_4 i115_51 ?_
        refine ev_iload_5 i115_53 ?_
        refine ev_virt2 i115_55 g115_55 rfl (by decide +kernel) (Nat.le_of_ble_eq_true rfl) (x_strikeAtOnce hX (by omega) (by omega) ?_)
        first
        | refine ew_ifeqB i115_58 (fun c58 => ?_) (fun c58 => ?_)
        | refine ew_ifeq i115_58 (by omega) (fun c58 => ?_) (fun c58 => ?_)
        · refine ew_iinc_5 i115_83 rfl ?_
          refine ev_goto i115_86 ?_
          rw [zwh_1 (by omega)] at k7
          unfold g_meetI at k7
          first
            | (rw [if_pos c58, if_pos (by omega)] at k7
               exact ihb (by omega) (by omega) (by omega) _ _ (by omega) (by omega) (by omega) (by omega) (by omega) k7)
            | (rw [if_pos c58, if_neg (by omega)] at k7
               exact ihb (by omega) (by omega) (by omega) _ _ (by omega) (by omega) (by omega) (by omega) (by omega) k7)
            | (rw [if_neg c58] at k7
               exact ihb (by omega) (by omega) (by omega) _ _ (by omega) (by omega) (by omega) (by omega) (by omega) k7)
        · refine ev_iloadn_2 i115_61 ?_
          refine ew_bipush i115_62 (by decide) ?_
          refine ew_icmpne i115_64 (by omega) (fun c64 => ?_) (fun c64 => ?_)
          · refine ev_iloadn_2 i115_78 ?_
            refine ev_istoren_2 i115_79 rfl ?_
            refine ew_iinc_3 i115_80 rfl ?_
            refine ew_iinc_5 i115_83 rfl ?_
            refine ev_goto i115_86 ?_
            rw [zwh_1 (by omega)] at k7
            unfold g_meetI at k7
            first
              | (rw [if_pos c58, if_pos (by omega)] at k7
                 exact ihb (by omega) (by omega) (by omega) _ _ (by omega) (by omega) (by omega) (by omega) (by omega) k7)
              | (rw [if_pos c58, if_neg (by omega)] at k7
                 exact ihb (by omega) (by omega) (by omega) _ _ (by omega) (by omega) (by omega) (by omega) (by omega) k7)
              | (rw [if_neg c58] at k7
                 exact ihb (by omega) (by omega) (by omega) _ _ (by omega) (by omega) (by omega) (by omega) (by omega) k7)
          · refine ew_bipush i115_67 (by decide) ?_
            refine ev_iload_4 i115_69 ?_
            refine ew_imul i115_71 ?_
            refine ev_iload_5 i115_72 ?_
            refine ew_iadd i115_74 ?_
            refine ev_goto i115_75 ?_
            refine ev_istoren_2 i115_79 rfl ?_
            refine ew_iinc_3 i115_80 rfl ?_
            refine ew_iinc_5 i115_83 rfl ?_
            refine ev_goto i115_86 ?_
            rw [zwh_1 (by omega)] at k7
            unfold g_meetI at k7
            first
              | (rw [if_pos c58, if_pos (by omega)] at k7
                 exact ihb (by omega) (by omega) (by omega) _ _ (by omega) (by omega) (by omega) (by omega) (by omega) k7)
              | (rw [if_pos c58, if_neg (by omega)] at k7
                 exact ihb (by omega) (by omega) (by omega) _ _ (by omega) (by omega) (by omega) (by omega) (by omega) k7)
              | (rw [if_neg c58] at k7
                 exact ihb (by omega) (by omega) (by omega) _ _ (by omega) (by omega) (by omega) (by omega) (by omega) k7)
    refine ev_iload_4 i115_17 ?_
    refine ev_aloadn_0 i115_19 ?_
    refine ev_getA i115_20 g115_20 rfl rfl (by decide) ?_
    refine ew_getI i115_23 g115_23 rfl (by first | exact hX.men | exact hX.told | exact hX.road | exact hX.tone _ (by omega) (by omega) | exact hX.corn _ (by omega) (by omega) | exact hX.stand _ (by omega) (by omega) | exact hX.reach _ (by omega) (by omega) | exact hX.arm _ (by omega) (by omega) | exact hX.late _ (by omega) (by omega) | exact hX.len _ (by omega) (by omega) | exact hX.say (by omega) (by omega) _ (by omega) (by omega)) (fun b23 => ?_)
    refine ew_icmpge i115_26 (by omega) (fun c26 => ?_) (fun c26 => ?_)
    · refine ev_iloadn_1 i115_95 ?_
      first
      | refine ew_ifneB i115_96 (fun c96 => ?_) (fun c96 => ?_)
      | refine ew_ifne i115_96 (by omega) (fun c96 => ?_) (fun c96 => ?_)
      · refine ev_iloadn_3 i115_103 ?_
        refine ev_ireturn i115_104 r115 ?_
        rw [zwh_0 (by omega)] at h6
        rw [← h6, if_pos hw2] at hK
        first | (rw [if_pos c96] at hK; exact hK) | (rw [if_neg c96] at hK; exact hK)
      · refine ev_iloadn_2 i115_99 ?_
        refine ev_goto i115_100 ?_
        refine ev_ireturn i115_104 r115 ?_
        rw [zwh_0 (by omega)] at h6
        rw [← h6, if_pos hw2] at hK
        first | (rw [if_pos c96] at hK; exact hK) | (rw [if_neg c96] at hK; exact hK)
    · refine ev_iload_4 i115_29 ?_
      refine ew_iconst i115_31 ?_
      refine ew_iadd i115_32 ?_
      refine ev_istore_5 i115_33 rfl ?_
      by_cases c : a + 1 ≤ f_men f
      · exact inner (a + 1) (by omega) c l n h1 (by omega) h3 h4 h5 rfl
      · exfalso; omega
  refine ev_enter (lv := [.ref 1, .int (zI (w)), .null, .null, .null, .null]) l115 rfl (Nat.le_of_ble_eq_true rfl) ?_
  refine ev_iloadn_1 i115_0 ?_
  refine ev_stat1 i115_1 g115_1 (by decide +kernel) (Nat.le_of_ble_eq_true rfl) (x_isPart hw ?_)
  first
  | refine ew_ifneB i115_4 (fun c4 => ?_) (fun c4 => ?_)
  | refine ew_ifne i115_4 (by omega) (fun c4 => ?_) (fun c4 => ?_)
  · refine ew_bipush i115_9 (by decide) ?_
    refine ev_istoren_2 i115_11 rfl ?_
    refine ew_iconst i115_12 ?_
    refine ev_istoren_3 i115_13 rfl ?_
    refine ew_iconst i115_14 ?_
    refine ev_istore_4 i115_15 rfl ?_
    exact outer (by omega) 0 (by decide) (by omega) _ _ _ (by decide) (by decide) (by decide) (by decide) (by decide) rfl
  · refine ew_iconst i115_7 ?_
    refine ev_ireturn i115_8 r115 ?_
    first | exact hK | exact zK hK (by omega)
theorem m_meet (hM : RM I f) {w : Int} (hw : -2147483648 ≤ w ∧ w ≤ 2147483647) (hK : K (some (.int (zI (g_meet f w)))) (I, L, ts_P0 sw, ts_S0)) : ts_Cal X (d + 2) 205 [.ref 72, .int (zI (w))] (I, L, ts_P0 sw, ts_S0) K := by
  have b1 := hM.men.2
  unfold g_meet at hK
  have outer : (0 ≤ w ∧ w ≤ 1) → ∀ a : Int, 0 ≤ a → a ≤ f_men f → ∀ l n o, 0 ≤ n → n ≤ 4 * a → zwh (f_men f) (g_meetO f) a (l, n) = zwh (f_men f) (g_meetO f) 0 (-2, 0) → ts_Ev X (ts_Cal X (d + 1)) 205 ts_S0 K 20 [.ref 72, .int (zI (w)), .int (zI (l)), .int (zI (n)), .int (zI (a)), o] [] (I, L, ts_P0 sw, ts_S0) := by
    intro hw2
    refine ts_ind (f_men f) (fun a ih h0 h00 l n o h1 h2 h6 => ?_)
    have inner : ∀ b : Int, a + 1 ≤ b → b ≤ f_men f → ∀ l' n', 0 ≤ n' → n' ≤ 4 * a + b → zwh (f_men f) (g_meetI f a) b (l', n') = g_meetO f a (l, n) → ts_Ev X (ts_Cal X (d + 1)) 205 ts_S0 K 35 [.ref 72, .int (zI (w)), .int (zI (l')), .int (zI (n')), .int (zI (a)), .int (zI (b))] [] (I, L, ts_P0 sw, ts_S0) := by
      refine ts_ind (f_men f) (fun b ihb k0 k1 l' n' k2 k3 k7 => ?_)
      refine ev_iload_5 i205_35 ?_
      refine ev_aloadn_0 i205_37 ?_
      refine ew_getI i205_38 g205_38 rfl (by first | exact hM.men | exact hM.told | exact hM.road | exact hM.stand _ (by omega) (by omega) | exact hM.reach _ (by omega) (by omega) | exact hM.arm _ (by omega) (by omega) | exact hM.late _ (by omega) (by omega) | exact hM.len _ (by omega) (by omega) | exact hM.corn _ (by omega) (by omega) | exact hM.say (by omega) (by omega) _ (by omega) (by omega) | exact hM.tone _ (by omega) (by omega)) (fun b38 => ?_)
      refine ew_icmpge i205_41 (by omega) (fun c41 => ?_) (fun c41 => ?_)
      · refine ew_iinc_4 i205_109 rfl ?_
        refine ev_goto i205_112 ?_
        rw [zwh_0 (by omega)] at k7
        rw [zwh_1 (by omega), ← k7] at h6
        exact ih (by omega) (by omega) (by omega) _ _ _ (by omega) (by omega) h6
      · refine ev_iload_4 i205_44 ?_
        refine ev_aloadn_0 i205_46 ?_
        refine ev_getA i205_47 g205_47 rfl rfl (by decide) ?_
        refine ew_bipush i205_50 (by decide) ?_
        refine ev_iload_4 i205_52 ?_
        refine ew_iadd i205_54 ?_
        refine ew_iaload i205_55 rfl (by omega) (by omega) (by omega) (by first | exact hM.men | exact hM.told | exact hM.road | exact hM.stand _ (by omega) (by omega) | exact hM.reach _ (by omega) (by omega) | exact hM.arm _ (by omega) (by omega) | exact hM.late _ (by omega) (by omega) | exact hM.len _ (by omega) (by omega) | exact hM.corn _ (by omega) (by omega) | exact hM.say (by omega) (by omega) _ (by omega) (by omega) | exact hM.tone _ (by omega) (by omega)) (fun b55 => ?_)
        refine ew_iadd i205_56 ?_
        refine ev_aloadn_0 i205_57 ?_
        refine ew_getI i205_58 g205_58 rfl (by first | exact hM.men | exact hM.told | exact hM.road | exact hM.stand _ (by omega) (by omega) | exact hM.reach _ (by omega) (by omega) | exact hM.arm _ (by omega) (by omega) | exact hM.late _ (by omega) (by omega) | exact hM.len _ (by omega) (by omega) | exact hM.corn _ (by omega) (by omega) | exact hM.say (by omega) (by omega) _ (by omega) (by omega) | exact hM.tone _ (by omega) (by omega)) (fun b58 => ?_)
        refine ew_iremB i205_61 (by omega) (by omega) (fun r61 => ?_)
        refine ev_iload_5 i205_62 ?_
        refine ev_aloadn_0 i205_64 ?_
        refine ev_getA i205_65 g205_65 rfl rfl (by decide) ?_
        refine ew_bipush i205_68 (by decide) ?_
        refine ev_iload_5 i205_70 ?_
        refine ew_iadd i205_72 ?_
        refine ew_iaload i205_73 rfl (by omega) (by omega) (by omega) (by first | exact hM.men | exact hM.told | exact hM.road | exact hM.stand _ (by omega) (by omega) | exact hM.reach _ (by omega) (by omega) | exact hM.arm _ (by omega) (by omega) | exact hM.late _ (by omega) (by omega) | exact hM.len _ (by omega) (by omega) | exact hM.corn _ (by omega) (by omega) | exact hM.say (by omega) (by omega) _ (by omega) (by omega) | exact hM.tone _ (by omega) (by omega)) (fun b73 => ?_)
        refine ew_iadd i205_74 ?_
        refine ev_aloadn_0 i205_75 ?_
        refine ew_getI i205_76 g205_76 rfl (by first | exact hM.men | exact hM.told | exact hM.road | exact hM.stand _ (by omega) (by omega) | exact hM.reach _ (by omega) (by omega) | exact hM.arm _ (by omega) (by omega) | exact hM.late _ (by omega) (by omega) | exact hM.len _ (by omega) (by omega) | exact hM.corn _ (by omega) (by omega) | exact hM.say (by omega) (by omega) _ (by omega) (by omega) | exact hM.tone _ (by omega) (by omega)) (fun b76 => ?_)
        refine ew_iremB i205_79 (by omega) (by omega) (fun r79 => ?_)
        refine ew_icmpne i205_80 (by omega) (fun c80 => ?_) (fun c80 => ?_)
        · refine ew_iinc_5 i205_103 rfl ?_
          refine ev_goto i205_106 ?_
          rw [zwh_1 (by omega)] at k7
          unfold g_meetI at k7
          first
            | (rw [if_pos c80, if_pos c84] at k7
               exact ihb (by omega) (by omega) (by omega) _ _ (by omega) (by omega) k7)
            | (rw [if_pos c80, if_neg c84] at k7
               exact ihb (by omega) (by omega) (by omega) _ _ (by omega) (by omega) k7)
            | (rw [if_neg c80] at k7
               exact ihb (by omega) (by omega) (by omega) _ _ (by omega) (by omega) k7)
        · refine ev_iloadn_3 i205_83 ?_
          first
          | refine ew_ifneB i205_84 (fun c84 => ?_) (fun c84 => ?_)
          | refine ew_ifne i205_84 (by omega) (fun c84 => ?_) (fun c84 => ?_)
          · refine ev_iloadn_2 i205_98 ?_
            refine ev_istoren_2 i205_99 rfl ?_
            refine ew_iinc_3 i205_100 rfl ?_
            refine ew_iinc_5 i205_103 rfl ?_
            refine ev_goto i205_106 ?_
            rw [zwh_1 (by omega)] at k7
            unfold g_meetI at k7
            first
              | (rw [if_pos c80, if_pos c84] at k7
                 exact ihb (by omega) (by omega) (by omega) _ _ (by omega) (by omega) k7)
              | (rw [if_pos c80, if_neg c84] at k7
                 exact ihb (by omega) (by omega) (by omega) _ _ (by omega) (by omega) k7)
              | (rw [if_neg c80] at k7
                 exact ihb (by omega) (by omega) (by omega) _ _ (by omega) (by omega) k7)
          · refine ew_bipush i205_87 (by decide) ?_
            refine ev_iload_4 i205_89 ?_
            refine ew_imul i205_91 ?_
            refine ev_iload_5 i205_92 ?_
            refine ew_iadd i205_94 ?_
            refine ev_goto i205_95 ?_
            refine ev_istoren_2 i205_99 rfl ?_
            refine ew_iinc_3 i205_100 rfl ?_
            refine ew_iinc_5 i205_103 rfl ?_
            refine ev_goto i205_106 ?_
            rw [zwh_1 (by omega)] at k7
            unfold g_meetI at k7
            first
              | (rw [if_pos c80, if_pos c84] at k7
                 exact ihb (by omega) (by omega) (by omega) _ _ (by omega) (by omega) k7)
              | (rw [if_pos c80, if_neg c84] at k7
                 exact ihb (by omega) (by omega) (by omega) _ _ (by omega) (by omega) k7)
              | (rw [if_neg c80] at k7
                 exact ihb (by omega) (by omega) (by omega) _ _ (by omega) (by omega) k7)
    refine ev_iload_4 i205_20 ?_
    refine ev_aloadn_0 i205_22 ?_
    refine ew_getI i205_23 g205_23 rfl (by first | exact hM.men | exact hM.told | exact hM.road | exact hM.stand _ (by omega) (by omega) | exact hM.reach _ (by omega) (by omega) | exact hM.arm _ (by omega) (by omega) | exact hM.late _ (by omega) (by omega) | exact hM.len _ (by omega) (by omega) | exact hM.corn _ (by omega) (by omega) | exact hM.say (by omega) (by omega) _ (by omega) (by omega) | exact hM.tone _ (by omega) (by omega)) (fun b23 => ?_)
    refine ew_icmpge i205_26 (by omega) (fun c26 => ?_) (fun c26 => ?_)
    · refine ev_iloadn_1 i205_115 ?_
      first
      | refine ew_ifneB i205_116 (fun c116 => ?_) (fun c116 => ?_)
      | refine ew_ifne i205_116 (by omega) (fun c116 => ?_) (fun c116 => ?_)
      · refine ev_iloadn_3 i205_123 ?_
        refine ev_ireturn i205_124 r205 ?_
        rw [zwh_0 (by omega)] at h6
        rw [← h6, if_pos hw2] at hK
        first | (rw [if_pos c116] at hK; exact hK) | (rw [if_neg c116] at hK; exact hK)
      · refine ev_iloadn_2 i205_119 ?_
        refine ev_goto i205_120 ?_
        refine ev_ireturn i205_124 r205 ?_
        rw [zwh_0 (by omega)] at h6
        rw [← h6, if_pos hw2] at hK
        first | (rw [if_pos c116] at hK; exact hK) | (rw [if_neg c116] at hK; exact hK)
    · refine ev_iload_4 i205_29 ?_
      refine ew_iconst i205_31 ?_
      refine ew_iadd i205_32 ?_
      refine ev_istore_5 i205_33 rfl ?_
      exact inner (a + 1) (by omega) (by omega) l n h1 (by omega) rfl
  refine ev_enter (lv := [.ref 72, .int (zI (w)), .null, .null, .null, .null]) l205 rfl (Nat.le_of_ble_eq_true rfl) ?_
  refine ev_iloadn_1 i205_0 ?_
  refine ew_i2l i205_1 (by omega) ?_
  refine ew_lconst (z := 0) i205_2 (by decide) ?_
  refine ew_lconst (z := 1) i205_3 (by decide) ?_
  refine ev_stat3 i205_4 g205_4 (by decide +kernel) (Nat.le_of_ble_eq_true rfl) (m_within (by omega) (by omega) (by omega) ?_)
  first
  | refine ew_ifneB i205_7 (fun c7 => ?_) (fun c7 => ?_)
  | refine ew_ifne i205_7 (by omega) (fun c7 => ?_) (fun c7 => ?_)
  · refine ew_bipush i205_12 (by decide) ?_
    refine ev_istoren_2 i205_14 rfl ?_
    refine ew_iconst i205_15 ?_
    refine ev_istoren_3 i205_16 rfl ?_
    refine ew_iconst i205_17 ?_
    refine ev_istore_4 i205_18 rfl ?_
    exact outer (by omega) 0 (by decide) (by omega) _ _ _ (by decide) (by decide) rfl
  · refine ew_iconst i205_10 ?_
    refine ev_ireturn i205_11 r205 ?_
    first | exact hK | exact zK hK (by omega)
end TU
