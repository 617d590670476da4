theorem i55_0 : ts_ins 55 0 = some (.iconst 0, 1, 0) := by decide +kernel
theorem i55_1 : ts_ins 55 1 = some (.istore_n 3, 2, 0) := by decide +kernel
theorem i55_2 : ts_ins 55 2 = some (.iload_n 3, 3, 0) := by decide +kernel
theorem i55_3 : ts_ins 55 3 = some (.aload_n 0, 4, 0) := by decide +kernel
theorem i55_4 : ts_ins 55 4 = some (.getfield 31, 7, 0) := by decide +kernel
theorem g55_4 : ts_fm 55 31 = some (6, 0, 2) := by decide +kernel
theorem i55_7 : ts_ins 55 7 = some (.getfield 88, 10, 0) := by decide +kernel
theorem g55_7 : ts_fm 55 88 = some (3, 7, 2) := by decide +kernel
theorem i55_10 : ts_ins 55 10 = some (.iload_n 2, 11, 0) := by decide +kernel
theorem i55_11 : ts_ins 55 11 = some (.iaload, 12, 0) := by decide +kernel
theorem i55_12 : ts_ins 55 12 = some (.if_icmp .ge 33, 15, 45) := by decide +kernel
theorem i55_15 : ts_ins 55 15 = some (.aload_n 0, 16, 0) := by decide +kernel
theorem i55_16 : ts_ins 55 16 = some (.getfield 15, 19, 0) := by decide +kernel
theorem g55_16 : ts_fm 55 15 = some (6, 2, 2) := by decide +kernel
theorem i55_19 : ts_ins 55 19 = some (.iload_n 1, 20, 0) := by decide +kernel
theorem i55_20 : ts_ins 55 20 = some (.iload_n 3, 21, 0) := by decide +kernel
theorem i55_21 : ts_ins 55 21 = some (.iadd, 22, 0) := by decide +kernel
theorem i55_22 : ts_ins 55 22 = some (.iaload, 23, 0) := by decide +kernel
theorem i55_23 : ts_ins 55 23 = some (.aload_n 0, 24, 0) := by decide +kernel
theorem i55_24 : ts_ins 55 24 = some (.getfield 31, 27, 0) := by decide +kernel
theorem g55_24 : ts_fm 55 31 = some (6, 0, 2) := by decide +kernel
theorem i55_27 : ts_ins 55 27 = some (.getfield 94, 30, 0) := by decide +kernel
theorem g55_27 : ts_fm 55 94 = some (3, 6, 2) := by decide +kernel
theorem i55_30 : ts_ins 55 30 = some (.iload_n 2, 31, 0) := by decide +kernel
theorem i55_31 : ts_ins 55 31 = some (.aaload, 32, 0) := by decide +kernel
theorem i55_32 : ts_ins 55 32 = some (.iload_n 3, 33, 0) := by decide +kernel
theorem i55_33 : ts_ins 55 33 = some (.iaload, 34, 0) := by decide +kernel
theorem i55_34 : ts_ins 55 34 = some (.if_icmp .eq 5, 37, 39) := by decide +kernel
theorem i55_37 : ts_ins 55 37 = some (.iconst 0, 38, 0) := by decide +kernel
theorem i55_38 : ts_ins 55 38 = some (.ireturn, 39, 0) := by decide +kernel
theorem i55_39 : ts_ins 55 39 = some (.iinc 3 1, 42, 0) := by decide +kernel
theorem i55_42 : ts_ins 55 42 = some (.goto (-40), 45, 2) := by decide +kernel
theorem i55_45 : ts_ins 55 45 = some (.iconst 1, 46, 0) := by decide +kernel
theorem i55_46 : ts_ins 55 46 = some (.ireturn, 47, 0) := by decide +kernel
theorem r55 : ts_rt 55 = ((some .boolean), 0, 0) := by decide +kernel
theorem l55 : ts_ml 55 = 4 := by decide +kernel
theorem i54_0 : ts_ins 54 0 = some (.aload_n 0, 1, 0) := by decide +kernel
theorem i54_1 : ts_ins 54 1 = some (.getfield 31, 4, 0) := by decide +kernel
theorem g54_1 : ts_fm 54 31 = some (6, 0, 2) := by decide +kernel
theorem i54_4 : ts_ins 54 4 = some (.getfield 88, 7, 0) := by decide +kernel
theorem g54_4 : ts_fm 54 88 = some (3, 7, 2) := by decide +kernel
theorem i54_7 : ts_ins 54 7 = some (.iload_n 1, 8, 0) := by decide +kernel
theorem i54_8 : ts_ins 54 8 = some (.iaload, 9, 0) := by decide +kernel
theorem i54_9 : ts_ins 54 9 = some (.istore_n 2, 10, 0) := by decide +kernel
theorem i54_10 : ts_ins 54 10 = some (.iconst 0, 11, 0) := by decide +kernel
theorem i54_11 : ts_ins 54 11 = some (.istore_n 3, 12, 0) := by decide +kernel
theorem i54_12 : ts_ins 54 12 = some (.iload_n 3, 13, 0) := by decide +kernel
theorem i54_13 : ts_ins 54 13 = some (.iload_n 2, 14, 0) := by decide +kernel
theorem i54_14 : ts_ins 54 14 = some (.iadd, 15, 0) := by decide +kernel
theorem i54_15 : ts_ins 54 15 = some (.aload_n 0, 16, 0) := by decide +kernel
theorem i54_16 : ts_ins 54 16 = some (.getfield 18, 19, 0) := by decide +kernel
theorem g54_16 : ts_fm 54 18 = some (6, 3, 0) := by decide +kernel
theorem i54_19 : ts_ins 54 19 = some (.if_icmp .gt 24, 22, 43) := by decide +kernel
theorem i54_22 : ts_ins 54 22 = some (.aload_n 0, 23, 0) := by decide +kernel
theorem i54_23 : ts_ins 54 23 = some (.iload_n 3, 24, 0) := by decide +kernel
theorem i54_24 : ts_ins 54 24 = some (.iload_n 1, 25, 0) := by decide +kernel
theorem i54_25 : ts_ins 54 25 = some (.invokevirtual 91, 28, 0) := by decide +kernel
theorem g54_25 : ts_cal (ts_mc 54) 91 = some (0, 55, 2) := by decide +kernel
theorem i54_28 : ts_ins 54 28 = some (.ifCond .eq 9, 31, 37) := by decide +kernel
theorem i54_31 : ts_ins 54 31 = some (.iload_n 3, 32, 0) := by decide +kernel
theorem i54_32 : ts_ins 54 32 = some (.iload_n 2, 33, 0) := by decide +kernel
theorem i54_33 : ts_ins 54 33 = some (.iadd, 34, 0) := by decide +kernel
theorem i54_34 : ts_ins 54 34 = some (.iconst 1, 35, 0) := by decide +kernel
theorem i54_35 : ts_ins 54 35 = some (.isub, 36, 0) := by decide +kernel
theorem i54_36 : ts_ins 54 36 = some (.ireturn, 37, 0) := by decide +kernel
theorem i54_37 : ts_ins 54 37 = some (.iinc 3 1, 40, 0) := by decide +kernel
theorem i54_40 : ts_ins 54 40 = some (.goto (-28), 43, 12) := by decide +kernel
theorem i54_43 : ts_ins 54 43 = some (.bipush (-2), 45, 0) := by decide +kernel
theorem i54_45 : ts_ins 54 45 = some (.ireturn, 46, 0) := by decide +kernel
theorem r54 : ts_rt 54 = ((some .int), 0, 0) := by decide +kernel
theorem l54 : ts_ml 54 = 4 := by decide +kernel
theorem i53_0 : ts_ins 53 0 = some (.iconst 0, 1, 0) := by decide +kernel
theorem i53_1 : ts_ins 53 1 = some (.istore_n 1, 2, 0) := by decide +kernel
theorem i53_2 : ts_ins 53 2 = some (.iconst 0, 3, 0) := by decide +kernel
theorem i53_3 : ts_ins 53 3 = some (.istore_n 2, 4, 0) := by decide +kernel
theorem i53_4 : ts_ins 53 4 = some (.iload_n 2, 5, 0) := by decide +kernel
theorem i53_5 : ts_ins 53 5 = some (.aload_n 0, 6, 0) := by decide +kernel
theorem i53_6 : ts_ins 53 6 = some (.getfield 31, 9, 0) := by decide +kernel
theorem g53_6 : ts_fm 53 31 = some (6, 0, 2) := by decide +kernel
theorem i53_9 : ts_ins 53 9 = some (.getfield 82, 12, 0) := by decide +kernel
theorem g53_9 : ts_fm 53 82 = some (3, 9, 0) := by decide +kernel
theorem i53_12 : ts_ins 53 12 = some (.if_icmp .ge 25, 15, 37) := by decide +kernel
theorem i53_15 : ts_ins 53 15 = some (.aload_n 0, 16, 0) := by decide +kernel
theorem i53_16 : ts_ins 53 16 = some (.iload_n 2, 17, 0) := by decide +kernel
theorem i53_17 : ts_ins 53 17 = some (.invokevirtual 85, 20, 0) := by decide +kernel
theorem g53_17 : ts_cal (ts_mc 53) 85 = some (0, 54, 1) := by decide +kernel
theorem i53_20 : ts_ins 53 20 = some (.bipush (-2), 22, 0) := by decide +kernel
theorem i53_22 : ts_ins 53 22 = some (.if_icmp .eq 9, 25, 31) := by decide +kernel
theorem i53_25 : ts_ins 53 25 = some (.iload_n 1, 26, 0) := by decide +kernel
theorem i53_26 : ts_ins 53 26 = some (.iconst 1, 27, 0) := by decide +kernel
theorem i53_27 : ts_ins 53 27 = some (.iload_n 2, 28, 0) := by decide +kernel
theorem i53_28 : ts_ins 53 28 = some (.ishl, 29, 0) := by decide +kernel
theorem i53_29 : ts_ins 53 29 = some (.ior, 30, 0) := by decide +kernel
theorem i53_30 : ts_ins 53 30 = some (.istore_n 1, 31, 0) := by decide +kernel
theorem i53_31 : ts_ins 53 31 = some (.iinc 2 1, 34, 0) := by decide +kernel
theorem i53_34 : ts_ins 53 34 = some (.goto (-30), 37, 4) := by decide +kernel
theorem i53_37 : ts_ins 53 37 = some (.iload_n 1, 38, 0) := by decide +kernel
theorem i53_38 : ts_ins 53 38 = some (.ireturn, 39, 0) := by decide +kernel
theorem r53 : ts_rt 53 = ((some .int), 0, 0) := by decide +kernel
theorem l53 : ts_ml 53 = 3 := by decide +kernel
theorem i101_0 : ts_ins 101 0 = some (.iload_n 2, 1, 0) := by decide +kernel
theorem i101_1 : ts_ins 101 1 = some (.ifCond .lt 8, 4, 9) := by decide +kernel
theorem i101_4 : ts_ins 101 4 = some (.iload_n 2, 5, 0) := by decide +kernel
theorem i101_5 : ts_ins 101 5 = some (.iconst 4, 6, 0) := by decide +kernel
theorem i101_6 : ts_ins 101 6 = some (.if_icmp .le 5, 9, 11) := by decide +kernel
theorem i101_9 : ts_ins 101 9 = some (.iconst (-1), 10, 0) := by decide +kernel
theorem i101_10 : ts_ins 101 10 = some (.ireturn, 11, 0) := by decide +kernel
theorem i101_11 : ts_ins 101 11 = some (.aload_n 0, 12, 0) := by decide +kernel
theorem i101_12 : ts_ins 101 12 = some (.iload_n 1, 13, 0) := by decide +kernel
theorem i101_13 : ts_ins 101 13 = some (.invokevirtual 100, 16, 0) := by decide +kernel
theorem g101_13 : ts_cal (ts_mc 101) 100 = some (0, 141, 1) := by decide +kernel
theorem i101_16 : ts_ins 101 16 = some (.istore_n 3, 17, 0) := by decide +kernel
theorem i101_17 : ts_ins 101 17 = some (.iload_n 3, 18, 0) := by decide +kernel
theorem i101_18 : ts_ins 101 18 = some (.ifCond .eq 5, 21, 23) := by decide +kernel
theorem i101_21 : ts_ins 101 21 = some (.iload_n 3, 22, 0) := by decide +kernel
theorem i101_22 : ts_ins 101 22 = some (.ireturn, 23, 0) := by decide +kernel
theorem i101_23 : ts_ins 101 23 = some (.aload_n 0, 24, 0) := by decide +kernel
theorem i101_24 : ts_ins 101 24 = some (.getfield 35, 27, 0) := by decide +kernel
theorem g101_24 : ts_fm 101 35 = some (11, 3, 2) := by decide +kernel
theorem i101_27 : ts_ins 101 27 = some (.aload_n 0, 28, 0) := by decide +kernel
theorem i101_28 : ts_ins 101 28 = some (.getfield 87, 31, 0) := by decide +kernel
theorem g101_28 : ts_fm 101 87 = some (11, 12, 2) := by decide +kernel
theorem i101_31 : ts_ins 101 31 = some (.iload_n 1, 32, 0) := by decide +kernel
theorem i101_32 : ts_ins 101 32 = some (.aaload, 33, 0) := by decide +kernel
theorem i101_33 : ts_ins 101 33 = some (.invokevirtual 163, 36, 0) := by decide +kernel
theorem g101_33 : ts_cal (ts_mc 101) 163 = some (0, 51, 1) := by decide +kernel
theorem i101_36 : ts_ins 101 36 = some (.iload_n 2, 37, 0) := by decide +kernel
theorem i101_37 : ts_ins 101 37 = some (.tableswitch 63 0 3 #[31, 39, 47, 55], 68, 0) := by decide +kernel
theorem i101_68 : ts_ins 101 68 = some (.aload_n 0, 69, 0) := by decide +kernel
theorem i101_69 : ts_ins 101 69 = some (.getfield 35, 72, 0) := by decide +kernel
theorem g101_69 : ts_fm 101 35 = some (11, 3, 2) := by decide +kernel
theorem i101_72 : ts_ins 101 72 = some (.getfield 167, 75, 0) := by decide +kernel
theorem g101_72 : ts_fm 101 167 = some (6, 3, 0) := by decide +kernel
theorem i101_75 : ts_ins 101 75 = some (.ireturn, 76, 0) := by decide +kernel
theorem i101_76 : ts_ins 101 76 = some (.aload_n 0, 77, 0) := by decide +kernel
theorem i101_77 : ts_ins 101 77 = some (.getfield 35, 80, 0) := by decide +kernel
theorem g101_77 : ts_fm 101 35 = some (11, 3, 2) := by decide +kernel
theorem i101_80 : ts_ins 101 80 = some (.getfield 170, 83, 0) := by decide +kernel
theorem g101_80 : ts_fm 101 170 = some (6, 4, 0) := by decide +kernel
theorem i101_83 : ts_ins 101 83 = some (.ireturn, 84, 0) := by decide +kernel
theorem i101_84 : ts_ins 101 84 = some (.aload_n 0, 85, 0) := by decide +kernel
theorem i101_85 : ts_ins 101 85 = some (.getfield 35, 88, 0) := by decide +kernel
theorem g101_85 : ts_fm 101 35 = some (11, 3, 2) := by decide +kernel
theorem i101_88 : ts_ins 101 88 = some (.getfield 173, 91, 0) := by decide +kernel
theorem g101_88 : ts_fm 101 173 = some (6, 5, 0) := by decide +kernel
theorem i101_91 : ts_ins 101 91 = some (.ireturn, 92, 0) := by decide +kernel
theorem i101_92 : ts_ins 101 92 = some (.aload_n 0, 93, 0) := by decide +kernel
theorem i101_93 : ts_ins 101 93 = some (.getfield 35, 96, 0) := by decide +kernel
theorem g101_93 : ts_fm 101 35 = some (11, 3, 2) := by decide +kernel
theorem i101_96 : ts_ins 101 96 = some (.getfield 176, 99, 0) := by decide +kernel
theorem g101_96 : ts_fm 101 176 = some (6, 6, 0) := by decide +kernel
theorem i101_99 : ts_ins 101 99 = some (.ireturn, 100, 0) := by decide +kernel
theorem i101_100 : ts_ins 101 100 = some (.aload_n 0, 101, 0) := by decide +kernel
theorem i101_101 : ts_ins 101 101 = some (.getfield 35, 104, 0) := by decide +kernel
theorem g101_101 : ts_fm 101 35 = some (11, 3, 2) := by decide +kernel
theorem i101_104 : ts_ins 101 104 = some (.invokevirtual 179, 107, 0) := by decide +kernel
theorem g101_104 : ts_cal (ts_mc 101) 179 = some (0, 53, 0) := by decide +kernel
theorem i101_107 : ts_ins 101 107 = some (.ireturn, 108, 0) := by decide +kernel
theorem r101 : ts_rt 101 = ((some .int), 0, 0) := by decide +kernel
theorem l101 : ts_ml 101 = 4 := by decide +kernel
theorem i102_0 : ts_ins 102 0 = some (.iload_n 2, 1, 0) := by decide +kernel
theorem i102_1 : ts_ins 102 1 = some (.ifCond .ge 5, 4, 6) := by decide +kernel
theorem i102_4 : ts_ins 102 4 = some (.iconst (-1), 5, 0) := by decide +kernel
theorem i102_5 : ts_ins 102 5 = some (.ireturn, 6, 0) := by decide +kernel
theorem i102_6 : ts_ins 102 6 = some (.aload_n 0, 7, 0) := by decide +kernel
theorem i102_7 : ts_ins 102 7 = some (.iload_n 1, 8, 0) := by decide +kernel
theorem i102_8 : ts_ins 102 8 = some (.invokevirtual 100, 11, 0) := by decide +kernel
theorem g102_8 : ts_cal (ts_mc 102) 100 = some (0, 141, 1) := by decide +kernel
theorem i102_11 : ts_ins 102 11 = some (.istore_n 3, 12, 0) := by decide +kernel
theorem i102_12 : ts_ins 102 12 = some (.iload_n 3, 13, 0) := by decide +kernel
theorem i102_13 : ts_ins 102 13 = some (.ifCond .eq 5, 16, 18) := by decide +kernel
theorem i102_16 : ts_ins 102 16 = some (.iload_n 3, 17, 0) := by decide +kernel
theorem i102_17 : ts_ins 102 17 = some (.ireturn, 18, 0) := by decide +kernel
theorem i102_18 : ts_ins 102 18 = some (.aload_n 0, 19, 0) := by decide +kernel
theorem i102_19 : ts_ins 102 19 = some (.getfield 35, 22, 0) := by decide +kernel
theorem g102_19 : ts_fm 102 35 = some (11, 3, 2) := by decide +kernel
theorem i102_22 : ts_ins 102 22 = some (.aload_n 0, 23, 0) := by decide +kernel
theorem i102_23 : ts_ins 102 23 = some (.getfield 87, 26, 0) := by decide +kernel
theorem g102_23 : ts_fm 102 87 = some (11, 12, 2) := by decide +kernel
theorem i102_26 : ts_ins 102 26 = some (.iload_n 1, 27, 0) := by decide +kernel
theorem i102_27 : ts_ins 102 27 = some (.aaload, 28, 0) := by decide +kernel
theorem i102_28 : ts_ins 102 28 = some (.invokevirtual 163, 31, 0) := by decide +kernel
theorem g102_28 : ts_cal (ts_mc 102) 163 = some (0, 51, 1) := by decide +kernel
theorem i102_31 : ts_ins 102 31 = some (.iload_n 2, 32, 0) := by decide +kernel
theorem i102_32 : ts_ins 102 32 = some (.aload_n 0, 33, 0) := by decide +kernel
theorem i102_33 : ts_ins 102 33 = some (.getfield 35, 36, 0) := by decide +kernel
theorem g102_33 : ts_fm 102 35 = some (11, 3, 2) := by decide +kernel
theorem i102_36 : ts_ins 102 36 = some (.getfield 167, 39, 0) := by decide +kernel
theorem g102_36 : ts_fm 102 167 = some (6, 3, 0) := by decide +kernel
theorem i102_39 : ts_ins 102 39 = some (.if_icmp .ge 15, 42, 54) := by decide +kernel
theorem i102_42 : ts_ins 102 42 = some (.aload_n 0, 43, 0) := by decide +kernel
theorem i102_43 : ts_ins 102 43 = some (.getfield 35, 46, 0) := by decide +kernel
theorem g102_43 : ts_fm 102 35 = some (11, 3, 2) := by decide +kernel
theorem i102_46 : ts_ins 102 46 = some (.getfield 183, 49, 0) := by decide +kernel
theorem g102_46 : ts_fm 102 183 = some (6, 2, 2) := by decide +kernel
theorem i102_49 : ts_ins 102 49 = some (.iload_n 2, 50, 0) := by decide +kernel
theorem i102_50 : ts_ins 102 50 = some (.iaload, 51, 0) := by decide +kernel
theorem i102_51 : ts_ins 102 51 = some (.goto 5, 54, 56) := by decide +kernel
theorem i102_54 : ts_ins 102 54 = some (.bipush (-2), 56, 0) := by decide +kernel
theorem i102_56 : ts_ins 102 56 = some (.ireturn, 57, 0) := by decide +kernel
theorem r102 : ts_rt 102 = ((some .int), 0, 0) := by decide +kernel
theorem l102 : ts_ml 102 = 4 := by decide +kernel
theorem i103_0 : ts_ins 103 0 = some (.iload_n 3, 1, 0) := by decide +kernel
theorem i103_1 : ts_ins 103 1 = some (.ifCond .ne 10, 4, 11) := by decide +kernel
theorem i103_4 : ts_ins 103 4 = some (.iload_n 2, 5, 0) := by decide +kernel
theorem i103_5 : ts_ins 103 5 = some (.invokestatic 92, 8, 0) := by decide +kernel
theorem g103_5 : ts_cal (ts_mc 103) 92 = some (1, 137, 1) := by decide +kernel
theorem i103_8 : ts_ins 103 8 = some (.goto 24, 11, 32) := by decide +kernel
theorem i103_11 : ts_ins 103 11 = some (.iload_n 3, 12, 0) := by decide +kernel
theorem i103_12 : ts_ins 103 12 = some (.iconst 1, 13, 0) := by decide +kernel
theorem i103_13 : ts_ins 103 13 = some (.if_icmp .ne 18, 16, 31) := by decide +kernel
theorem i103_16 : ts_ins 103 16 = some (.aload_n 0, 17, 0) := by decide +kernel
theorem i103_17 : ts_ins 103 17 = some (.getfield 10, 20, 0) := by decide +kernel
theorem g103_17 : ts_fm 103 10 = some (11, 0, 2) := by decide +kernel
theorem i103_20 : ts_ins 103 20 = some (.iload_n 2, 21, 0) := by decide +kernel
theorem i103_21 : ts_ins 103 21 = some (.invokevirtual 129, 24, 0) := by decide +kernel
theorem g103_21 : ts_cal (ts_mc 103) 129 = some (0, 20, 1) := by decide +kernel
theorem i103_24 : ts_ins 103 24 = some (.ifCond .eq 7, 27, 31) := by decide +kernel
theorem i103_27 : ts_ins 103 27 = some (.iconst 1, 28, 0) := by decide +kernel
theorem i103_28 : ts_ins 103 28 = some (.goto 4, 31, 32) := by decide +kernel
theorem i103_31 : ts_ins 103 31 = some (.iconst 0, 32, 0) := by decide +kernel
theorem i103_32 : ts_ins 103 32 = some (.istore 4, 34, 0) := by decide +kernel
theorem i103_34 : ts_ins 103 34 = some (.iload 4, 36, 0) := by decide +kernel
theorem i103_36 : ts_ins 103 36 = some (.ifCond .ne 5, 39, 41) := by decide +kernel
theorem i103_39 : ts_ins 103 39 = some (.iconst (-1), 40, 0) := by decide +kernel
theorem i103_40 : ts_ins 103 40 = some (.ireturn, 41, 0) := by decide +kernel
theorem i103_41 : ts_ins 103 41 = some (.aload_n 0, 42, 0) := by decide +kernel
theorem i103_42 : ts_ins 103 42 = some (.iload_n 1, 43, 0) := by decide +kernel
theorem i103_43 : ts_ins 103 43 = some (.invokevirtual 100, 46, 0) := by decide +kernel
theorem g103_43 : ts_cal (ts_mc 103) 100 = some (0, 141, 1) := by decide +kernel
theorem i103_46 : ts_ins 103 46 = some (.istore 5, 48, 0) := by decide +kernel
theorem i103_48 : ts_ins 103 48 = some (.iload 5, 50, 0) := by decide +kernel
theorem i103_50 : ts_ins 103 50 = some (.ifCond .eq 6, 53, 56) := by decide +kernel
theorem i103_53 : ts_ins 103 53 = some (.iload 5, 55, 0) := by decide +kernel
theorem i103_55 : ts_ins 103 55 = some (.ireturn, 56, 0) := by decide +kernel
theorem i103_56 : ts_ins 103 56 = some (.aload_n 0, 57, 0) := by decide +kernel
theorem i103_57 : ts_ins 103 57 = some (.getfield 35, 60, 0) := by decide +kernel
theorem g103_57 : ts_fm 103 35 = some (11, 3, 2) := by decide +kernel
theorem i103_60 : ts_ins 103 60 = some (.aload_n 0, 61, 0) := by decide +kernel
theorem i103_61 : ts_ins 103 61 = some (.getfield 87, 64, 0) := by decide +kernel
theorem g103_61 : ts_fm 103 87 = some (11, 12, 2) := by decide +kernel
theorem i103_64 : ts_ins 103 64 = some (.iload_n 1, 65, 0) := by decide +kernel
theorem i103_65 : ts_ins 103 65 = some (.aaload, 66, 0) := by decide +kernel
theorem i103_66 : ts_ins 103 66 = some (.invokevirtual 163, 69, 0) := by decide +kernel
theorem g103_66 : ts_cal (ts_mc 103) 163 = some (0, 51, 1) := by decide +kernel
theorem i103_69 : ts_ins 103 69 = some (.iload_n 3, 70, 0) := by decide +kernel
theorem i103_70 : ts_ins 103 70 = some (.ifCond .ne 15, 73, 85) := by decide +kernel
theorem i103_73 : ts_ins 103 73 = some (.aload_n 0, 74, 0) := by decide +kernel
theorem i103_74 : ts_ins 103 74 = some (.getfield 35, 77, 0) := by decide +kernel
theorem g103_74 : ts_fm 103 35 = some (11, 3, 2) := by decide +kernel
theorem i103_77 : ts_ins 103 77 = some (.getfield 186, 80, 0) := by decide +kernel
theorem g103_77 : ts_fm 103 186 = some (6, 1, 2) := by decide +kernel
theorem i103_80 : ts_ins 103 80 = some (.iload_n 2, 81, 0) := by decide +kernel
theorem i103_81 : ts_ins 103 81 = some (.iaload, 82, 0) := by decide +kernel
theorem i103_82 : ts_ins 103 82 = some (.goto 11, 85, 93) := by decide +kernel
theorem i103_85 : ts_ins 103 85 = some (.aload_n 0, 86, 0) := by decide +kernel
theorem i103_86 : ts_ins 103 86 = some (.getfield 35, 89, 0) := by decide +kernel
theorem g103_86 : ts_fm 103 35 = some (11, 3, 2) := by decide +kernel
theorem i103_89 : ts_ins 103 89 = some (.iload_n 2, 90, 0) := by decide +kernel
theorem i103_90 : ts_ins 103 90 = some (.invokevirtual 189, 93, 0) := by decide +kernel
theorem g103_90 : ts_cal (ts_mc 103) 189 = some (0, 54, 1) := by decide +kernel
theorem i103_93 : ts_ins 103 93 = some (.ireturn, 94, 0) := by decide +kernel
theorem r103 : ts_rt 103 = ((some .int), 0, 0) := by decide +kernel
theorem l103 : ts_ml 103 = 6 := by decide +kernel
/-! plan, tone, behind: the class -/
def g_planV (s : ts_Sh) (f : ts_Fl) (w : ts_Lw) (x v : Int) : Int := if v = 0 then g_pb s f x else if v = 1 then g_ph f w (s.2.2 x) (g_pb s f x) else if v = 2 then g_pc f (s.2.2 x) (g_pb s f x) else if v = 3 then g_pt f (s.2.2 x) (g_pb s f x) else zbits (fun t => ¬ g_wh f w (s.2.2 x) (g_pb s f x) t = -2) (f_told f).toNat
def g_planA (s : ts_Sh) (f : ts_Fl) (w : ts_Lw) (x v : Int) : Int := if ¬ (0 ≤ v ∧ v ≤ 4) then -1 else if ¬ g_bytes s x = 0 then g_bytes s x else g_planV s f w x v
def g_toneA (s : ts_Sh) (f : ts_Fl) (w : ts_Lw) (x b : Int) : Int := if b < 0 then -1 else if ¬ g_bytes s x = 0 then g_bytes s x else if b < g_pb s f x then g_hd f w (s.2.2 x) b else -2
def g_behA (s : ts_Sh) (f : ts_Fl) (w : ts_Lw) (x n v : Int) : Int := if ¬ ((v = 0 ∧ 0 ≤ n ∧ n < 16) ∨ (v = 1 ∧ 0 ≤ n ∧ n < f_told f)) then -1 else if ¬ g_bytes s x = 0 then g_bytes s x else if v = 0 then pcn f (s.2.2 x) (g_pb s f x).toNat n else g_wh f w (s.2.2 x) (g_pb s f x) n
section PX
variable {X : ts_X} {I J : Nat → Nat → Int32} {L : Nat → Nat → Int64} {sw : Bool} {K : Option Value → ts_H → Prop} {d : Nat} {f : ts_Fl} {w : ts_Lw} {s : ts_Sh} {it c : Int → Int} {n : Int} {q : Nat}
theorem g_wh_r (hRO : RO f) {t : Int} (ht : 0 ≤ t ∧ t < f_told f) : g_wh f w it n t = -2 ∨ (0 ≤ g_wh f w it n t ∧ g_wh f w it n t < n) := by
  have h1 := hRO.2 t ht.1 ht.2
  rcases zfd_is (n := n) (e := -2) (g := g_swh f w it t) (f_len f t - 1) with q | q
  · exact Or.inl q
  · exact Or.inr ⟨by have := q.1; unfold g_wh; omega, q.2.1⟩
theorem x_isSaidFrom (hX : RX I f) (hR : RXp I f w it n) {t b : Int} (ht : 0 ≤ t ∧ t < f_told f) (hb : 0 ≤ b ∧ b + f_len f t ≤ n) (hK : K (some (.int (zI (if zall (fun k => g_hd f w it (b + k) = f_say f t k) (f_len f t).toNat = true then 1 else 0)))) (I, L, ts_P0 sw, ts_S0)) : ts_Cal X (d + 1) 55 [.ref 37, .int (zI (b)), .int (zI (t))] (I, L, ts_P0 sw, ts_S0) K := by
  have b1 := hX.told.2
  have b2 := (hX.len t (by omega) (by omega)).2
  have b3 := hR.1.2
  have loop : ∀ k : Int, 0 ≤ k → k ≤ f_len f t → zall (fun k => g_hd f w it (b + k) = f_say f t k) k.toNat = true → ts_Ev X (ts_Cal X (d + 0)) 55 ts_S0 K 2 [.ref 37, .int (zI (b)), .int (zI (t)), .int (zI (k))] [] (I, L, ts_P0 sw, ts_S0) := by
    refine ts_ind (f_len f t) (fun k ih h0 h1 h2 => ?_)
    refine ev_iloadn_3 i55_2 ?_
    refine ev_aloadn_0 i55_3 ?_
    refine ev_getA i55_4 g55_4 rfl rfl (by decide) ?_
    refine ev_getA i55_7 g55_7 rfl rfl (by decide) ?_
    refine ev_iloadn_2 i55_10 ?_
    refine ew_iaload i55_11 rfl (by omega) (by omega) (by omega) (by first | exact hX.men | exact hX.told | exact hX.road | exact hX.tone _ (by omega) (by omega) | exact hX.corn _ (by omega) (by omega) | exact hX.stand _ (by omega) (by omega) | exact hX.reach _ (by omega) (by omega) | exact hX.arm _ (by omega) (by omega) | exact hX.late _ (by omega) (by omega) | exact hX.len _ (by omega) (by omega) | exact hX.say (by omega) (by omega) _ (by omega) (by omega)) (fun b11 => ?_)
    refine ew_icmpge i55_12 (by omega) (fun c12 => ?_) (fun c12 => ?_)
    · refine ew_iconst i55_45 ?_
      obtain rfl : k = f_len f t := by omega
      exact ew_zreturn i55_46 r55 (Or.inl ⟨rfl, h2⟩) hK
    · refine ev_aloadn_0 i55_15 ?_
      refine ev_getA i55_16 g55_16 rfl rfl (by decide) ?_
      refine ev_iloadn_1 i55_19 ?_
      refine ev_iloadn_3 i55_20 ?_
      refine ew_iadd i55_21 ?_
      refine ew_iaload i55_22 rfl (by omega) (by omega) (by omega) ((hR.2.2.2.2.2 _ (by omega) (by omega))) (fun b22 => ?_)
      refine ev_aloadn_0 i55_23 ?_
      refine ev_getA i55_24 g55_24 rfl rfl (by decide) ?_
      refine ev_getA i55_27 g55_27 rfl rfl (by decide) ?_
      refine ev_iloadn_2 i55_30 ?_
      refine ew_aaloadG i55_31 rfl (by omega) (by omega) (by omega) (floor_P (by omega) (by omega)) (by omega) ?_
      refine ev_iloadn_3 i55_32 ?_
      refine ew_iaload i55_33 (floor_A (by omega) (by omega)) (by omega) (by omega) (by omega) ((hX.say (by omega) (by omega) _ (by omega) (by omega))) (fun b33 => ?_)
      refine ew_icmpeq i55_34 (by omega) (fun c34 => ?_) (fun c34 => ?_)
      · refine ew_iinc_3 i55_39 rfl ?_
        refine ev_goto i55_42 ?_
        exact ih (by omega) (by omega) (by omega) ((zall_s h0).mpr ⟨h2, c34⟩)
      · refine ew_iconst i55_37 ?_
        exact ew_zreturn i55_38 r55 (Or.inr ⟨rfl, fun r => c34 (zall_t.mp r k h0 (by omega))⟩) hK
  refine ev_enter (lv := [.ref 37, .int (zI (b)), .int (zI (t)), .null]) l55 rfl (Nat.le_of_ble_eq_true rfl) ?_
  refine ew_iconst i55_0 ?_
  refine ev_istoren_3 i55_1 rfl ?_
  exact loop 0 (by decide) (by omega) rfl
theorem x_wholeAt (hX : RX I f) (hRO : RO f) (hR : RXp I f w it n) {t : Int} (ht : 0 ≤ t ∧ t < f_told f) (hK : K (some (.int (zI (g_wh f w it n t)))) (I, L, ts_P0 sw, ts_S0)) : ts_Cal X (d + 2) 54 [.ref 37, .int (zI (t))] (I, L, ts_P0 sw, ts_S0) K := by
  have b1 := hX.told.2
  have b2 := (hX.len t (by omega) (by omega)).2
  have b3 := hR.1.2
  have b4 := hRO.2 t ht.1 ht.2
  have loop : ∀ b : Int, 0 ≤ b → b ≤ 50 → zfd n (g_swh f w it t) (-2) (b + f_len f t - 1) = g_wh f w it n t → ts_Ev X (ts_Cal X (d + 1)) 54 ts_S0 K 12 [.ref 37, .int (zI (t)), .int (zI (f_len f t)), .int (zI (b))] [] (I, L, ts_P0 sw, ts_S0) := by
    refine ts_ind 45 (fun b ih h0 h1 h2 => ?_)
    refine ev_iloadn_3 i54_12 ?_
    refine ev_iloadn_2 i54_13 ?_
    refine ew_iadd i54_14 ?_
    refine ev_aloadn_0 i54_15 ?_
    refine ew_getI i54_16 g54_16 rfl (by first | exact hR.1 | exact hX.men | exact hX.told | exact hX.road | exact hX.tone _ (by omega) (by omega) | exact hX.corn _ (by omega) (by omega) | exact hX.stand _ (by omega) (by omega) | exact hX.reach _ (by omega) (by omega) | exact hX.arm _ (by omega) (by omega) | exact hX.late _ (by omega) (by omega) | exact hX.len _ (by omega) (by omega) | exact hX.say (by omega) (by omega) _ (by omega) (by omega)) (fun b16 => ?_)
    refine ew_icmpgt i54_19 (by omega) (fun c19 => ?_) (fun c19 => ?_)
    · refine ew_bipush i54_43 (by decide) ?_
      refine ev_ireturn i54_45 r54 ?_
      rw [zfd_0 (by omega)] at h2
      rw [← h2] at hK
      exact hK
    · refine ev_aloadn_0 i54_22 ?_
      refine ev_iloadn_3 i54_23 ?_
      refine ev_iloadn_1 i54_24 ?_
      refine ev_virt2 i54_25 g54_25 rfl (by decide +kernel) (Nat.le_of_ble_eq_true rfl) (x_isSaidFrom hX hR ht (by omega) ?_)
      have e0 : (zall (fun k => g_hd f w it (b + k) = f_say f t k) (f_len f t).toNat = true) ↔ g_swh f w it t (b + f_len f t - 1) := by
        unfold g_swh
        rw [zall_t, zall_t]
        exact ⟨fun r k k0 k1 => by rw [show b + f_len f t - 1 - f_len f t + 1 + k = b + k from by omega]; exact r k k0 k1, fun r k k0 k1 => by have r1 := r k k0 k1; rw [show b + f_len f t - 1 - f_len f t + 1 + k = b + k from by omega] at r1; exact r1⟩
      first
      | refine ew_ifeqB i54_28 (fun c28 => ?_) (fun c28 => ?_)
      | refine ew_ifeq i54_28 (by omega) (fun c28 => ?_) (fun c28 => ?_)
      · refine ew_iinc_3 i54_37 rfl ?_
        refine ev_goto i54_40 ?_
        rw [zfd_1 (by omega), if_neg (fun r => c28 (e0.mpr r)), show b + f_len f t - 1 + 1 = b + 1 + f_len f t - 1 from by omega] at h2
        exact ih (by omega) (by omega) (by omega) h2
      · refine ev_iloadn_3 i54_31 ?_
        refine ev_iloadn_2 i54_32 ?_
        refine ew_iadd i54_33 ?_
        refine ew_iconst i54_34 ?_
        refine ew_isub i54_35 ?_
        refine ev_ireturn i54_36 r54 ?_
        rw [zfd_1 (by omega), if_pos (e0.mp c28)] at h2
        rw [← h2] at hK
        exact hK
  refine ev_enter (lv := [.ref 37, .int (zI (t)), .null, .null]) l54 rfl (Nat.le_of_ble_eq_true rfl) ?_
  refine ev_aloadn_0 i54_0 ?_
  refine ev_getA i54_1 g54_1 rfl rfl (by decide) ?_
  refine ev_getA i54_4 g54_4 rfl rfl (by decide) ?_
  refine ev_iloadn_1 i54_7 ?_
  refine ew_iaload i54_8 rfl (by omega) (by omega) (by omega) (by first | exact hX.men | exact hX.told | exact hX.road | exact hX.tone _ (by omega) (by omega) | exact hX.corn _ (by omega) (by omega) | exact hX.stand _ (by omega) (by omega) | exact hX.reach _ (by omega) (by omega) | exact hX.arm _ (by omega) (by omega) | exact hX.late _ (by omega) (by omega) | exact hX.len _ (by omega) (by omega) | exact hX.say (by omega) (by omega) _ (by omega) (by omega)) (fun b8 => ?_)
  refine ev_istoren_2 i54_9 rfl ?_
  refine ew_iconst i54_10 ?_
  refine ev_istoren_3 i54_11 rfl ?_
  refine loop 0 (by decide) (by decide) ?_
  rw [Int.zero_add]
  rfl
theorem x_saidBits (hX : RX I f) (hRO : RO f) (hR : RXp I f w it n) (hK : K (some (.int (zI (zbits (fun t => ¬ g_wh f w it n t = -2) (f_told f).toNat)))) (I, L, ts_P0 sw, ts_S0)) : ts_Cal X (d + 3) 53 [.ref 37] (I, L, ts_P0 sw, ts_S0) K := by
  have b1 := hX.told.2
  have b3 := hR.1.2
  have loop : ∀ t : Int, 0 ≤ t → t ≤ f_told f → ts_Ev X (ts_Cal X (d + 2)) 53 ts_S0 K 4 [.ref 37, .int (zI (zbits (fun t => ¬ g_wh f w it n t = -2) t.toNat)), .int (zI (t))] [] (I, L, ts_P0 sw, ts_S0) := by
    refine ts_ind (f_told f) (fun t ih h0 h1 => ?_)
    by_cases ht : t < f_told f
    · have wr := g_wh_r (w := w) (it := it) (n := n) hRO ⟨h0, ht⟩
      refine ev_iloadn_2 i53_4 ?_
      refine ev_aloadn_0 i53_5 ?_
      refine ev_getA i53_6 g53_6 rfl rfl (by decide) ?_
      refine ew_getI i53_9 g53_9 rfl (by first | exact hX.men | exact hX.told | exact hX.road | exact hX.tone _ (by omega) (by omega) | exact hX.corn _ (by omega) (by omega) | exact hX.stand _ (by omega) (by omega) | exact hX.reach _ (by omega) (by omega) | exact hX.arm _ (by omega) (by omega) | exact hX.late _ (by omega) (by omega) | exact hX.len _ (by omega) (by omega) | exact hX.say (by omega) (by omega) _ (by omega) (by omega)) (fun b9 => ?_)
      refine ew_icmpge i53_12 (by omega) (fun c12 => ?_) (fun c12 => ?_)
      · refine ev_iloadn_1 i53_37 ?_
        refine ev_ireturn i53_38 r53 ?_
        exfalso; omega
      · refine ev_aloadn_0 i53_15 ?_
        refine ev_iloadn_2 i53_16 ?_
        refine ev_virt1 i53_17 g53_17 rfl (by decide +kernel) (Nat.le_of_ble_eq_true rfl) (x_wholeAt hX hRO hR (by omega) ?_)
        refine ew_bipush i53_20 (by decide) ?_
        refine ew_icmpeq i53_22 (by omega) (fun c22 => ?_) (fun c22 => ?_)
        · refine ew_iinc_2 i53_31 rfl ?_
          refine ev_goto i53_34 ?_
          have e := ih (by omega) (by omega) (by omega)
          rw [zbits_s h0] at e
          first
            | (rw [if_neg (fun r => r c22)] at e; exact e)
            | (rw [if_pos c22] at e; exact e)
        · refine ev_iloadn_1 i53_25 ?_
          refine ew_iconst i53_26 ?_
          refine ev_iloadn_2 i53_27 ?_
          refine ew_ishl i53_28 ?_
          refine ew_ior i53_29 ?_
          refine ev_istoren_1 i53_30 rfl ?_
          refine ew_iinc_2 i53_31 rfl ?_
          refine ev_goto i53_34 ?_
          have e := ih (by omega) (by omega) (by omega)
          rw [zbits_s h0] at e
          first
            | (rw [if_neg (fun r => r c22)] at e; exact e)
            | (rw [if_pos c22] at e; exact e)
    · obtain rfl : t = f_told f := by omega
      refine ev_iloadn_2 i53_4 ?_
      refine ev_aloadn_0 i53_5 ?_
      refine ev_getA i53_6 g53_6 rfl rfl (by decide) ?_
      refine ew_getI i53_9 g53_9 rfl (by first | exact hX.men | exact hX.told | exact hX.road | exact hX.tone _ (by omega) (by omega) | exact hX.corn _ (by omega) (by omega) | exact hX.stand _ (by omega) (by omega) | exact hX.reach _ (by omega) (by omega) | exact hX.arm _ (by omega) (by omega) | exact hX.late _ (by omega) (by omega) | exact hX.len _ (by omega) (by omega) | exact hX.say (by omega) (by omega) _ (by omega) (by omega)) (fun b9 => ?_)
      refine ew_icmpge i53_12 (by omega) (fun c12 => ?_) (fun c12 => ?_)
      · refine ev_iloadn_1 i53_37 ?_
        refine ev_ireturn i53_38 r53 ?_
        exact hK
      · exfalso; omega
  refine ev_enter (lv := [.ref 37, .null, .null]) l53 rfl (Nat.le_of_ble_eq_true rfl) ?_
  refine ew_iconst i53_0 ?_
  refine ev_istoren_1 i53_1 rfl ?_
  refine ew_iconst i53_2 ?_
  refine ev_istoren_2 i53_3 rfl ?_
  exact loop 0 (by decide) (by omega)
theorem x_plan (hX : RX I f) (hRO : RO f) (hW : RXw I sw w) (hO : ROw w) (hS : RXs I L s) (hQ : ROs s) {x v : Int} (hx : -2147483648 ≤ x ∧ x ≤ 2147483647) (hv : -2147483648 ≤ v ∧ v ≤ 2147483647) (hK : ∀ J, fr fpx I J → K (some (.int (zI (g_planA s f w x v)))) (J, L, ts_P0 sw, ts_S0)) : ts_Cal X (d + 6) 101 [.ref 1, .int (zI (x)), .int (zI (v))] (I, L, ts_P0 sw, ts_S0) K := by
  have gr := g_bytes_r s x
  unfold g_planA g_planV at hK
  refine ev_enter (lv := [.ref 1, .int (zI (x)), .int (zI (v)), .null]) l101 rfl (Nat.le_of_ble_eq_true rfl) ?_
  refine ev_iloadn_2 i101_0 ?_
  refine ew_iflt i101_1 (by omega) (fun c1 => ?_) (fun c1 => ?_)
  · refine ew_iconst i101_9 ?_
    refine ev_ireturn i101_10 r101 ?_
    rw [if_pos (by omega)] at hK
    exact hK I (fr_rfl _ _)
  · refine ev_iloadn_2 i101_4 ?_
    refine ew_iconst i101_5 ?_
    refine ew_icmple i101_6 (by omega) (fun c6 => ?_) (fun c6 => ?_)
    · rw [if_neg (by omega)] at hK
      refine ev_aloadn_0 i101_11 ?_
      refine ev_iloadn_1 i101_12 ?_
      refine ev_virt1 i101_13 g101_13 rfl (by decide +kernel) (Nat.le_of_ble_eq_true rfl) (x_bytesOn hS hx ?_)
      refine ev_istoren_3 i101_16 rfl ?_
      refine ev_iloadn_3 i101_17 ?_
      first
      | refine ew_ifeqB i101_18 (fun c18 => ?_) (fun c18 => ?_)
      | refine ew_ifeq i101_18 (by omega) (fun c18 => ?_) (fun c18 => ?_)
      · rw [if_neg (fun r => r c18)] at hK
        have h0 := g_bytes_0 c18
        obtain ⟨q, rfl⟩ : ∃ q : Nat, x = q := ⟨x.toNat, by omega⟩
        have hq : q < 6 := by omega
        refine ev_aloadn_0 i101_23 ?_
        refine ev_getA i101_24 g101_24 rfl rfl (by decide) ?_
        refine ev_aloadn_0 i101_27 ?_
        refine ev_getA i101_28 g101_28 rfl rfl (by decide) ?_
        refine ev_iloadn_1 i101_31 ?_
        refine ew_aaload i101_32 rfl (by omega) (by omega) (by omega) (she_Sq hq) (by omega) ?_
        refine ev_virt1 i101_33 g101_33 rfl (by decide +kernel) (Nat.le_of_ble_eq_true rfl) (x_walk hX hW hO hS hQ hq h0.2.2 (fun J h1 h2 => ?_))
        refine ev_iloadn_2 i101_36 ?_
        rcases (show v = 0 ∨ v = 1 ∨ v = 2 ∨ v = 3 ∨ (v < 0 ∨ 3 < v) by omega) with c37 | c37 | c37 | c37 | c37
        · refine ew_sw (v := 0) i101_37 c37 (t := 68) (by decide) rfl ?_
          refine ev_aloadn_0 i101_68 ?_
          refine ev_getA i101_69 g101_69 rfl rfl (by decide) ?_
          refine ew_getI i101_72 g101_72 rfl (h2.1) (fun b72 => ?_)
          refine ev_ireturn i101_75 r101 ?_
          subst c37
          exact hK J h1
        · refine ew_sw (v := 1) i101_37 c37 (t := 76) (by decide) rfl ?_
          refine ev_aloadn_0 i101_76 ?_
          refine ev_getA i101_77 g101_77 rfl rfl (by decide) ?_
          refine ew_getI i101_80 g101_80 rfl (h2.2.1) (fun b80 => ?_)
          refine ev_ireturn i101_83 r101 ?_
          subst c37
          exact hK J h1
        · refine ew_sw (v := 2) i101_37 c37 (t := 84) (by decide) rfl ?_
          refine ev_aloadn_0 i101_84 ?_
          refine ev_getA i101_85 g101_85 rfl rfl (by decide) ?_
          refine ew_getI i101_88 g101_88 rfl (h2.2.2.1) (fun b88 => ?_)
          refine ev_ireturn i101_91 r101 ?_
          subst c37
          exact hK J h1
        · refine ew_sw (v := 3) i101_37 c37 (t := 92) (by decide) rfl ?_
          refine ev_aloadn_0 i101_92 ?_
          refine ev_getA i101_93 g101_93 rfl rfl (by decide) ?_
          refine ew_getI i101_96 g101_96 rfl (h2.2.2.2.1) (fun b96 => ?_)
          refine ev_ireturn i101_99 r101 ?_
          subst c37
          exact hK J h1
        · refine ew_tswD (t := 100) i101_37 (by omega) c37 (by decide) ?_
          refine ev_aloadn_0 i101_100 ?_
          refine ev_getA i101_101 g101_101 rfl rfl (by decide) ?_
          refine ev_virt0 i101_104 g101_104 rfl (by decide +kernel) (Nat.le_of_ble_eq_true rfl) (x_saidBits (hX.fpx h1) hRO h2 ?_)
          refine ev_ireturn i101_107 r101 ?_
          have e := hK J h1
          rw [if_neg (by omega), if_neg (by omega), if_neg (by omega), if_neg (by omega)] at e
          exact e
      · refine ev_iloadn_3 i101_21 ?_
        refine ev_ireturn i101_22 r101 ?_
        rw [if_pos c18] at hK
        exact hK I (fr_rfl _ _)
    · refine ew_iconst i101_9 ?_
      refine ev_ireturn i101_10 r101 ?_
      rw [if_pos (by omega)] at hK
      exact hK I (fr_rfl _ _)
theorem x_tone (hX : RX I f) (hW : RXw I sw w) (hO : ROw w) (hS : RXs I L s) (hQ : ROs s) {x b : Int} (hx : -2147483648 ≤ x ∧ x ≤ 2147483647) (hb : -2147483648 ≤ b ∧ b ≤ 2147483647) (hK : ∀ J, fr fpx I J → K (some (.int (zI (g_toneA s f w x b)))) (J, L, ts_P0 sw, ts_S0)) : ts_Cal X (d + 6) 102 [.ref 1, .int (zI (x)), .int (zI (b))] (I, L, ts_P0 sw, ts_S0) K := by
  have gr := g_bytes_r s x
  unfold g_toneA at hK
  refine ev_enter (lv := [.ref 1, .int (zI (x)), .int (zI (b)), .null]) l102 rfl (Nat.le_of_ble_eq_true rfl) ?_
  refine ev_iloadn_2 i102_0 ?_
  refine ew_ifge i102_1 (by omega) (fun c1 => ?_) (fun c1 => ?_)
  · rw [if_neg (by omega)] at hK
    refine ev_aloadn_0 i102_6 ?_
    refine ev_iloadn_1 i102_7 ?_
    refine ev_virt1 i102_8 g102_8 rfl (by decide +kernel) (Nat.le_of_ble_eq_true rfl) (x_bytesOn hS hx ?_)
    refine ev_istoren_3 i102_11 rfl ?_
    refine ev_iloadn_3 i102_12 ?_
    first
    | refine ew_ifeqB i102_13 (fun c13 => ?_) (fun c13 => ?_)
    | refine ew_ifeq i102_13 (by omega) (fun c13 => ?_) (fun c13 => ?_)
    · rw [if_neg (fun r => r c13)] at hK
      have h0 := g_bytes_0 c13
      obtain ⟨q, rfl⟩ : ∃ q : Nat, x = q := ⟨x.toNat, by omega⟩
      have hq : q < 6 := by omega
      refine ev_aloadn_0 i102_18 ?_
      refine ev_getA i102_19 g102_19 rfl rfl (by decide) ?_
      refine ev_aloadn_0 i102_22 ?_
      refine ev_getA i102_23 g102_23 rfl rfl (by decide) ?_
      refine ev_iloadn_1 i102_26 ?_
      refine ew_aaload i102_27 rfl (by omega) (by omega) (by omega) (she_Sq hq) (by omega) ?_
      refine ev_virt1 i102_28 g102_28 rfl (by decide +kernel) (Nat.le_of_ble_eq_true rfl) (x_walk hX hW hO hS hQ hq h0.2.2 (fun J h1 h2 => ?_))
      refine ev_iloadn_2 i102_31 ?_
      refine ev_aloadn_0 i102_32 ?_
      refine ev_getA i102_33 g102_33 rfl rfl (by decide) ?_
      refine ew_getI i102_36 g102_36 rfl (h2.1) (fun b36 => ?_)
      refine ew_icmpge i102_39 (by omega) (fun c39 => ?_) (fun c39 => ?_)
      · refine ew_bipush i102_54 (by decide) ?_
        refine ev_ireturn i102_56 r102 ?_
        have e := hK J h1
        first
        | (rw [if_neg (by omega)] at e; exact e)
        | (rw [if_pos (by omega)] at e; exact e)
      · refine ev_aloadn_0 i102_42 ?_
        refine ev_getA i102_43 g102_43 rfl rfl (by decide) ?_
        refine ev_getA i102_46 g102_46 rfl rfl (by decide) ?_
        refine ev_iloadn_2 i102_49 ?_
        refine ew_iaload i102_50 rfl (by omega) (by omega) (by omega) ((h2.2.2.2.2.2 b (by omega) (by omega))) (fun b50 => ?_)
        refine ev_goto i102_51 ?_
        refine ev_ireturn i102_56 r102 ?_
        have e := hK J h1
        first
        | (rw [if_neg (by omega)] at e; exact e)
        | (rw [if_pos (by omega)] at e; exact e)
    · refine ev_iloadn_3 i102_16 ?_
      refine ev_ireturn i102_17 r102 ?_
      rw [if_pos c13] at hK
      exact hK I (fr_rfl _ _)
  · refine ew_iconst i102_4 ?_
    refine ev_ireturn i102_5 r102 ?_
    rw [if_pos (by omega)] at hK
    exact hK I (fr_rfl _ _)
theorem x_behind (hX : RX I f) (hRO : RO f) (hW : RXw I sw w) (hO : ROw w) (hS : RXs I L s) (hQ : ROs s) {x n v : Int} (hx : -2147483648 ≤ x ∧ x ≤ 2147483647) (hn : -2147483648 ≤ n ∧ n ≤ 2147483647) (hv : -2147483648 ≤ v ∧ v ≤ 2147483647) (hK : ∀ J, fr fpx I J → K (some (.int (zI (g_behA s f w x n v)))) (J, L, ts_P0 sw, ts_S0)) : ts_Cal X (d + 6) 103 [.ref 1, .int (zI (x)), .int (zI (n)), .int (zI (v))] (I, L, ts_P0 sw, ts_S0) K := by
  have gr := g_bytes_r s x
  unfold g_behA at hK
  refine ev_enter (lv := [.ref 1, .int (zI (x)), .int (zI (n)), .int (zI (v)), .null, .null]) l103 rfl (Nat.le_of_ble_eq_true rfl) ?_
  refine ev_iloadn_3 i103_0 ?_
  first
  | refine ew_ifneB i103_1 (fun c1 => ?_) (fun c1 => ?_)
  | refine ew_ifne i103_1 (by omega) (fun c1 => ?_) (fun c1 => ?_)
  · refine ev_iloadn_3 i103_11 ?_
    refine ew_iconst i103_12 ?_
    refine ew_icmpne i103_13 (by omega) (fun c13 => ?_) (fun c13 => ?_)
    · refine ew_iconst i103_31 ?_
      refine ev_istore_4 i103_32 rfl ?_
      refine ev_iload_4 i103_34 ?_
      first
      | refine ew_ifneB i103_36 (fun c36 => ?_) (fun c36 => ?_)
      | refine ew_ifne i103_36 (by omega) (fun c36 => ?_) (fun c36 => ?_)
      · first
        | (exfalso; omega)
        | (rw [if_neg (by omega)] at hK
           refine ev_aloadn_0 i103_41 ?_
           refine ev_iloadn_1 i103_42 ?_
           refine ev_virt1 i103_43 g103_43 rfl (by decide +kernel) (Nat.le_of_ble_eq_true rfl) (x_bytesOn hS hx ?_)
           refine ev_istore_5 i103_46 rfl ?_
           refine ev_iload_5 i103_48 ?_
           first
           | refine ew_ifeqB i103_50 (fun c50 => ?_) (fun c50 => ?_)
           | refine ew_ifeq i103_50 (by omega) (fun c50 => ?_) (fun c50 => ?_)
           · rw [if_neg (fun r => r c50)] at hK
             have h0 := g_bytes_0 c50
             obtain ⟨q, rfl⟩ : ∃ q : Nat, x = q := ⟨x.toNat, by omega⟩
             have hq : q < 6 := by omega
             refine ev_aloadn_0 i103_56 ?_
             refine ev_getA i103_57 g103_57 rfl rfl (by decide) ?_
             refine ev_aloadn_0 i103_60 ?_
             refine ev_getA i103_61 g103_61 rfl rfl (by decide) ?_
             refine ev_iloadn_1 i103_64 ?_
             refine ew_aaload i103_65 rfl (by omega) (by omega) (by omega) (she_Sq hq) (by omega) ?_
             refine ev_virt1 i103_66 g103_66 rfl (by decide +kernel) (Nat.le_of_ble_eq_true rfl) (x_walk hX hW hO hS hQ hq h0.2.2 (fun J h1 h2 => ?_))
             refine ev_iloadn_3 i103_69 ?_
             first
             | refine ew_ifneB i103_70 (fun c70 => ?_) (fun c70 => ?_)
             | refine ew_ifne i103_70 (by omega) (fun c70 => ?_) (fun c70 => ?_)
             · refine ev_aloadn_0 i103_85 ?_
               refine ev_getA i103_86 g103_86 rfl rfl (by decide) ?_
               refine ev_iloadn_2 i103_89 ?_
               refine ev_virt1 i103_90 g103_90 rfl (by decide +kernel) (Nat.le_of_ble_eq_true rfl) (x_wholeAt (hX.fpx h1) hRO h2 (by omega) ?_)
               refine ev_ireturn i103_93 r103 ?_
               have e := hK J h1
               first
               | (rw [if_pos (by omega)] at e; exact e)
               | (rw [if_neg (by omega)] at e; exact e)
             · refine ev_aloadn_0 i103_73 ?_
               refine ev_getA i103_74 g103_74 rfl rfl (by decide) ?_
               refine ev_getA i103_77 g103_77 rfl rfl (by decide) ?_
               refine ev_iloadn_2 i103_80 ?_
               refine ew_iaload i103_81 rfl (by omega) (by omega) (by omega) ((h2.2.2.2.2.1 n (by omega) (by omega))) (fun b81 => ?_)
               refine ev_goto i103_82 ?_
               refine ev_ireturn i103_93 r103 ?_
               have e := hK J h1
               first
               | (rw [if_pos (by omega)] at e; exact e)
               | (rw [if_neg (by omega)] at e; exact e)
           · refine ev_iload_5 i103_53 ?_
             refine ev_ireturn i103_55 r103 ?_
             rw [if_pos c50] at hK
             exact hK I (fr_rfl _ _)
           )
      · refine ew_iconst i103_39 ?_
        refine ev_ireturn i103_40 r103 ?_
        rw [if_pos (by omega)] at hK
        exact hK I (fr_rfl _ _)
    · refine ev_aloadn_0 i103_16 ?_
      refine ev_getA i103_17 g103_17 rfl rfl (by decide) ?_
      refine ev_iloadn_2 i103_20 ?_
      refine ev_virt1 i103_21 g103_21 rfl (by decide +kernel) (Nat.le_of_ble_eq_true rfl) (x_hasSaying hX hn ?_)
      first
      | refine ew_ifeqB i103_24 (fun c24 => ?_) (fun c24 => ?_)
      | refine ew_ifeq i103_24 (by omega) (fun c24 => ?_) (fun c24 => ?_)
      · refine ew_iconst i103_31 ?_
        refine ev_istore_4 i103_32 rfl ?_
        refine ev_iload_4 i103_34 ?_
        first
        | refine ew_ifneB i103_36 (fun c36 => ?_) (fun c36 => ?_)
        | refine ew_ifne i103_36 (by omega) (fun c36 => ?_) (fun c36 => ?_)
        · first
          | (exfalso; omega)
          | (rw [if_neg (by omega)] at hK
             refine ev_aloadn_0 i103_41 ?_
             refine ev_iloadn_1 i103_42 ?_
             refine ev_virt1 i103_43 g103_43 rfl (by decide +kernel) (Nat.le_of_ble_eq_true rfl) (x_bytesOn hS hx ?_)
             refine ev_istore_5 i103_46 rfl ?_
             refine ev_iload_5 i103_48 ?_
             first
             | refine ew_ifeqB i103_50 (fun c50 => ?_) (fun c50 => ?_)
             | refine ew_ifeq i103_50 (by omega) (fun c50 => ?_) (fun c50 => ?_)
             · rw [if_neg (fun r => r c50)] at hK
               have h0 := g_bytes_0 c50
               obtain ⟨q, rfl⟩ : ∃ q : Nat, x = q := ⟨x.toNat, by omega⟩
               have hq : q < 6 := by omega
               refine ev_aloadn_0 i103_56 ?_
               refine ev_getA i103_57 g103_57 rfl rfl (by decide) ?_
               refine ev_aloadn_0 i103_60 ?_
               refine ev_getA i103_61 g103_61 rfl rfl (by decide) ?_
               refine ev_iloadn_1 i103_64 ?_
               refine ew_aaload i103_65 rfl (by omega) (by omega) (by omega) (she_Sq hq) (by omega) ?_
               refine ev_virt1 i103_66 g103_66 rfl (by decide +kernel) (Nat.le_of_ble_eq_true rfl) (x_walk hX hW hO hS hQ hq h0.2.2 (fun J h1 h2 => ?_))
               refine ev_iloadn_3 i103_69 ?_
               first
               | refine ew_ifneB i103_70 (fun c70 => ?_) (fun c70 => ?_)
               | refine ew_ifne i103_70 (by omega) (fun c70 => ?_) (fun c70 => ?_)
               · refine ev_aloadn_0 i103_85 ?_
                 refine ev_getA i103_86 g103_86 rfl rfl (by decide) ?_
                 refine ev_iloadn_2 i103_89 ?_
                 refine ev_virt1 i103_90 g103_90 rfl (by decide +kernel) (Nat.le_of_ble_eq_true rfl) (x_wholeAt (hX.fpx h1) hRO h2 (by omega) ?_)
                 refine ev_ireturn i103_93 r103 ?_
                 have e := hK J h1
                 first
                 | (rw [if_pos (by omega)] at e; exact e)
                 | (rw [if_neg (by omega)] at e; exact e)
               · refine ev_aloadn_0 i103_73 ?_
                 refine ev_getA i103_74 g103_74 rfl rfl (by decide) ?_
                 refine ev_getA i103_77 g103_77 rfl rfl (by decide) ?_
                 refine ev_iloadn_2 i103_80 ?_
                 refine ew_iaload i103_81 rfl (by omega) (by omega) (by omega) ((h2.2.2.2.2.1 n (by omega) (by omega))) (fun b81 => ?_)
                 refine ev_goto i103_82 ?_
                 refine ev_ireturn i103_93 r103 ?_
                 have e := hK J h1
                 first
                 | (rw [if_pos (by omega)] at e; exact e)
                 | (rw [if_neg (by omega)] at e; exact e)
             · refine ev_iload_5 i103_53 ?_
               refine ev_ireturn i103_55 r103 ?_
               rw [if_pos c50] at hK
               exact hK I (fr_rfl _ _)
             )
        · refine ew_iconst i103_39 ?_
          refine ev_ireturn i103_40 r103 ?_
          rw [if_pos (by omega)] at hK
          exact hK I (fr_rfl _ _)
      · refine ew_iconst i103_27 ?_
        refine ev_goto i103_28 ?_
        refine ev_istore_4 i103_32 rfl ?_
        refine ev_iload_4 i103_34 ?_
        first
        | refine ew_ifneB i103_36 (fun c36 => ?_) (fun c36 => ?_)
        | refine ew_ifne i103_36 (by omega) (fun c36 => ?_) (fun c36 => ?_)
        · first
          | (exfalso; omega)
          | (rw [if_neg (by omega)] at hK
             refine ev_aloadn_0 i103_41 ?_
             refine ev_iloadn_1 i103_42 ?_
             refine ev_virt1 i103_43 g103_43 rfl (by decide +kernel) (Nat.le_of_ble_eq_true rfl) (x_bytesOn hS hx ?_)
             refine ev_istore_5 i103_46 rfl ?_
             refine ev_iload_5 i103_48 ?_
             first
             | refine ew_ifeqB i103_50 (fun c50 => ?_) (fun c50 => ?_)
             | refine ew_ifeq i103_50 (by omega) (fun c50 => ?_) (fun c50 => ?_)
             · rw [if_neg (fun r => r c50)] at hK
               have h0 := g_bytes_0 c50
               obtain ⟨q, rfl⟩ : ∃ q : Nat, x = q := ⟨x.toNat, by omega⟩
               have hq : q < 6 := by omega
               refine ev_aloadn_0 i103_56 ?_
               refine ev_getA i103_57 g103_57 rfl rfl (by decide) ?_
               refine ev_aloadn_0 i103_60 ?_
               refine ev_getA i103_61 g103_61 rfl rfl (by decide) ?_
               refine ev_iloadn_1 i103_64 ?_
               refine ew_aaload i103_65 rfl (by omega) (by omega) (by omega) (she_Sq hq) (by omega) ?_
               refine ev_virt1 i103_66 g103_66 rfl (by decide +kernel) (Nat.le_of_ble_eq_true rfl) (x_walk hX hW hO hS hQ hq h0.2.2 (fun J h1 h2 => ?_))
               refine ev_iloadn_3 i103_69 ?_
               first
               | refine ew_ifneB i103_70 (fun c70 => ?_) (fun c70 => ?_)
               | refine ew_ifne i103_70 (by omega) (fun c70 => ?_) (fun c70 => ?_)
               · refine ev_aloadn_0 i103_85 ?_
                 refine ev_getA i103_86 g103_86 rfl rfl (by decide) ?_
                 refine ev_iloadn_2 i103_89 ?_
                 refine ev_virt1 i103_90 g103_90 rfl (by decide +kernel) (Nat.le_of_ble_eq_true rfl) (x_wholeAt (hX.fpx h1) hRO h2 (by omega) ?_)
                 refine ev_ireturn i103_93 r103 ?_
                 have e := hK J h1
                 first
                 | (rw [if_pos (by omega)] at e; exact e)
                 | (rw [if_neg (by omega)] at e; exact e)
               · refine ev_aloadn_0 i103_73 ?_
                 refine ev_getA i103_74 g103_74 rfl rfl (by decide) ?_
                 refine ev_getA i103_77 g103_77 rfl rfl (by decide) ?_
                 refine ev_iloadn_2 i103_80 ?_
                 refine ew_iaload i103_81 rfl (by omega) (by omega) (by omega) ((h2.2.2.2.2.1 n (by omega) (by omega))) (fun b81 => ?_)
                 refine ev_goto i103_82 ?_
                 refine ev_ireturn i103_93 r103 ?_
                 have e := hK J h1
                 first
                 | (rw [if_pos (by omega)] at e; exact e)
                 | (rw [if_neg (by omega)] at e; exact e)
             · refine ev_iload_5 i103_53 ?_
               refine ev_ireturn i103_55 r103 ?_
               rw [if_pos c50] at hK
               exact hK I (fr_rfl _ _)
             )
        · refine ew_iconst i103_39 ?_
          refine ev_ireturn i103_40 r103 ?_
          rw [if_pos (by omega)] at hK
          exact hK I (fr_rfl _ _)
  · refine ev_iloadn_2 i103_4 ?_
    refine ev_stat1 i103_5 g103_5 (by decide +kernel) (Nat.le_of_ble_eq_true rfl) (x_isPlank hn ?_)
    refine ev_goto i103_8 ?_
    refine ev_istore_4 i103_32 rfl ?_
    refine ev_iload_4 i103_34 ?_
    first
    | refine ew_ifneB i103_36 (fun c36 => ?_) (fun c36 => ?_)
    | refine ew_ifne i103_36 (by omega) (fun c36 => ?_) (fun c36 => ?_)
    · first
      | (exfalso; omega)
      | (rw [if_neg (by omega)] at hK
         refine ev_aloadn_0 i103_41 ?_
         refine ev_iloadn_1 i103_42 ?_
         refine ev_virt1 i103_43 g103_43 rfl (by decide +kernel) (Nat.le_of_ble_eq_true rfl) (x_bytesOn hS hx ?_)
         refine ev_istore_5 i103_46 rfl ?_
         refine ev_iload_5 i103_48 ?_
         first
         | refine ew_ifeqB i103_50 (fun c50 => ?_) (fun c50 => ?_)
         | refine ew_ifeq i103_50 (by omega) (fun c50 => ?_) (fun c50 => ?_)
         · rw [if_neg (fun r => r c50)] at hK
           have h0 := g_bytes_0 c50
           obtain ⟨q, rfl⟩ : ∃ q : Nat, x = q := ⟨x.toNat, by omega⟩
           have hq : q < 6 := by omega
           refine ev_aloadn_0 i103_56 ?_
           refine ev_getA i103_57 g103_57 rfl rfl (by decide) ?_
           refine ev_aloadn_0 i103_60 ?_
           refine ev_getA i103_61 g103_61 rfl rfl (by decide) ?_
           refine ev_iloadn_1 i103_64 ?_
           refine ew_aaload i103_65 rfl (by omega) (by omega) (by omega) (she_Sq hq) (by omega) ?_
           refine ev_virt1 i103_66 g103_66 rfl (by decide +kernel) (Nat.le_of_ble_eq_true rfl) (x_walk hX hW hO hS hQ hq h0.2.2 (fun J h1 h2 => ?_))
           refine ev_iloadn_3 i103_69 ?_
           first
           | refine ew_ifneB i103_70 (fun c70 => ?_) (fun c70 => ?_)
           | refine ew_ifne i103_70 (by omega) (fun c70 => ?_) (fun c70 => ?_)
           · refine ev_aloadn_0 i103_85 ?_
             refine ev_getA i103_86 g103_86 rfl rfl (by decide) ?_
             refine ev_iloadn_2 i103_89 ?_
             refine ev_virt1 i103_90 g103_90 rfl (by decide +kernel) (Nat.le_of_ble_eq_true rfl) (x_wholeAt (hX.fpx h1) hRO h2 (by omega) ?_)
             refine ev_ireturn i103_93 r103 ?_
             have e := hK J h1
             first
             | (rw [if_pos (by omega)] at e; exact e)
             | (rw [if_neg (by omega)] at e; exact e)
           · refine ev_aloadn_0 i103_73 ?_
             refine ev_getA i103_74 g103_74 rfl rfl (by decide) ?_
             refine ev_getA i103_77 g103_77 rfl rfl (by decide) ?_
             refine ev_iloadn_2 i103_80 ?_
             refine ew_iaload i103_81 rfl (by omega) (by omega) (by omega) ((h2.2.2.2.2.1 n (by omega) (by omega))) (fun b81 => ?_)
             refine ev_goto i103_82 ?_
             refine ev_ireturn i103_93 r103 ?_
             have e := hK J h1
             first
             | (rw [if_pos (by omega)] at e; exact e)
             | (rw [if_neg (by omega)] at e; exact e)
         · refine ev_iload_5 i103_53 ?_
           refine ev_ireturn i103_55 r103 ?_
           rw [if_pos c50] at hK
           exact hK I (fr_rfl _ _)
         )
    · refine ew_iconst i103_39 ?_
      refine ev_ireturn i103_40 r103 ?_
      rw [if_pos (by omega)] at hK
      exact hK I (fr_rfl _ _)
end PX
