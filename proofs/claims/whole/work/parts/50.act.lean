theorem i15_0 : ts_ins 15 0 = some (.aload_n 0, 1, 0) := by decide +kernel
theorem i15_1 : ts_ins 15 1 = some (.getfield 22, 4, 0) := by decide +kernel
theorem g15_1 : ts_fm 15 22 = some (2, 3, 0) := by decide +kernel
theorem i15_4 : ts_ins 15 4 = some (.bipush 24, 6, 0) := by decide +kernel
theorem i15_6 : ts_ins 15 6 = some (.if_icmp .ge 13, 9, 19) := by decide +kernel
theorem i15_9 : ts_ins 15 9 = some (.aload_n 0, 10, 0) := by decide +kernel
theorem i15_10 : ts_ins 15 10 = some (.getfield 15, 13, 0) := by decide +kernel
theorem g15_10 : ts_fm 15 15 = some (2, 1, 2) := by decide +kernel
theorem i15_13 : ts_ins 15 13 = some (.aload_n 0, 14, 0) := by decide +kernel
theorem i15_14 : ts_ins 15 14 = some (.getfield 22, 17, 0) := by decide +kernel
theorem g15_14 : ts_fm 15 22 = some (2, 3, 0) := by decide +kernel
theorem i15_17 : ts_ins 15 17 = some (.iload_n 1, 18, 0) := by decide +kernel
theorem i15_18 : ts_ins 15 18 = some (.iastore, 19, 0) := by decide +kernel
theorem i15_19 : ts_ins 15 19 = some (.aload_n 0, 20, 0) := by decide +kernel
theorem i15_20 : ts_ins 15 20 = some (.dup, 21, 0) := by decide +kernel
theorem i15_21 : ts_ins 15 21 = some (.getfield 22, 24, 0) := by decide +kernel
theorem g15_21 : ts_fm 15 22 = some (2, 3, 0) := by decide +kernel
theorem i15_24 : ts_ins 15 24 = some (.iconst 1, 25, 0) := by decide +kernel
theorem i15_25 : ts_ins 15 25 = some (.iadd, 26, 0) := by decide +kernel
theorem i15_26 : ts_ins 15 26 = some (.putfield 22, 29, 0) := by decide +kernel
theorem g15_26 : ts_fmm 15 22 = some (2, 3, 0, false) := by decide +kernel
theorem i15_29 : ts_ins 15 29 = some (.return_, 30, 0) := by decide +kernel
theorem r15 : ts_rt 15 = (none, 0, 0) := by decide +kernel
theorem l15 : ts_ml 15 = 2 := by decide +kernel
theorem i221_0 : ts_ins 221 0 = some (.aload_n 0, 1, 0) := by decide +kernel
theorem i221_1 : ts_ins 221 1 = some (.getfield 297, 4, 0) := by decide +kernel
theorem g221_1 : ts_fm 221 297 = some (12, 35, 0) := by decide +kernel
theorem i221_4 : ts_ins 221 4 = some (.bipush 24, 6, 0) := by decide +kernel
theorem i221_6 : ts_ins 221 6 = some (.if_icmp .ge 13, 9, 19) := by decide +kernel
theorem i221_9 : ts_ins 221 9 = some (.aload_n 0, 10, 0) := by decide +kernel
theorem i221_10 : ts_ins 221 10 = some (.getfield 67, 13, 0) := by decide +kernel
theorem g221_10 : ts_fm 221 67 = some (12, 34, 2) := by decide +kernel
theorem i221_13 : ts_ins 221 13 = some (.aload_n 0, 14, 0) := by decide +kernel
theorem i221_14 : ts_ins 221 14 = some (.getfield 297, 17, 0) := by decide +kernel
theorem g221_14 : ts_fm 221 297 = some (12, 35, 0) := by decide +kernel
theorem i221_17 : ts_ins 221 17 = some (.iload_n 1, 18, 0) := by decide +kernel
theorem i221_18 : ts_ins 221 18 = some (.iastore, 19, 0) := by decide +kernel
theorem i221_19 : ts_ins 221 19 = some (.aload_n 0, 20, 0) := by decide +kernel
theorem i221_20 : ts_ins 221 20 = some (.dup, 21, 0) := by decide +kernel
theorem i221_21 : ts_ins 221 21 = some (.getfield 297, 24, 0) := by decide +kernel
theorem g221_21 : ts_fm 221 297 = some (12, 35, 0) := by decide +kernel
theorem i221_24 : ts_ins 221 24 = some (.iconst 1, 25, 0) := by decide +kernel
theorem i221_25 : ts_ins 221 25 = some (.iadd, 26, 0) := by decide +kernel
theorem i221_26 : ts_ins 221 26 = some (.putfield 297, 29, 0) := by decide +kernel
theorem g221_26 : ts_fmm 221 297 = some (12, 35, 0, false) := by decide +kernel
theorem i221_29 : ts_ins 221 29 = some (.return_, 30, 0) := by decide +kernel
theorem r221 : ts_rt 221 = (none, 0, 0) := by decide +kernel
theorem l221 : ts_ml 221 = 2 := by decide +kernel
theorem i222_0 : ts_ins 222 0 = some (.iload_n 1, 1, 0) := by decide +kernel
theorem i222_1 : ts_ins 222 1 = some (.iconst 1, 2, 0) := by decide +kernel
theorem i222_2 : ts_ins 222 2 = some (.if_icmp .eq 14, 5, 16) := by decide +kernel
theorem i222_5 : ts_ins 222 5 = some (.iload_n 1, 6, 0) := by decide +kernel
theorem i222_6 : ts_ins 222 6 = some (.iconst 4, 7, 0) := by decide +kernel
theorem i222_7 : ts_ins 222 7 = some (.if_icmp .eq 9, 10, 16) := by decide +kernel
theorem i222_10 : ts_ins 222 10 = some (.iload_n 1, 11, 0) := by decide +kernel
theorem i222_11 : ts_ins 222 11 = some (.bipush 7, 13, 0) := by decide +kernel
theorem i222_13 : ts_ins 222 13 = some (.if_icmp .ne 18, 16, 31) := by decide +kernel
theorem i222_16 : ts_ins 222 16 = some (.aload_n 0, 17, 0) := by decide +kernel
theorem i222_17 : ts_ins 222 17 = some (.bipush 20, 19, 0) := by decide +kernel
theorem i222_19 : ts_ins 222 19 = some (.invokevirtual 300, 22, 0) := by decide +kernel
theorem g222_19 : ts_cal (ts_mc 222) 300 = some (0, 221, 1) := by decide +kernel
theorem i222_22 : ts_ins 222 22 = some (.aload_n 0, 23, 0) := by decide +kernel
theorem i222_23 : ts_ins 222 23 = some (.iconst 0, 24, 0) := by decide +kernel
theorem i222_24 : ts_ins 222 24 = some (.iload_n 2, 25, 0) := by decide +kernel
theorem i222_25 : ts_ins 222 25 = some (.invokevirtual 303, 28, 0) := by decide +kernel
theorem g222_25 : ts_cal (ts_mc 222) 303 = some (0, 222, 2) := by decide +kernel
theorem i222_28 : ts_ins 222 28 = some (.iconst 3, 29, 0) := by decide +kernel
theorem i222_29 : ts_ins 222 29 = some (.iadd, 30, 0) := by decide +kernel
theorem i222_30 : ts_ins 222 30 = some (.ireturn, 31, 0) := by decide +kernel
theorem i222_31 : ts_ins 222 31 = some (.iload_n 1, 32, 0) := by decide +kernel
theorem i222_32 : ts_ins 222 32 = some (.bipush 6, 34, 0) := by decide +kernel
theorem i222_34 : ts_ins 222 34 = some (.if_icmp .ne 18, 37, 52) := by decide +kernel
theorem i222_37 : ts_ins 222 37 = some (.aload_n 0, 38, 0) := by decide +kernel
theorem i222_38 : ts_ins 222 38 = some (.bipush 70, 40, 0) := by decide +kernel
theorem i222_40 : ts_ins 222 40 = some (.invokevirtual 300, 43, 0) := by decide +kernel
theorem g222_40 : ts_cal (ts_mc 222) 300 = some (0, 221, 1) := by decide +kernel
theorem i222_43 : ts_ins 222 43 = some (.aload_n 0, 44, 0) := by decide +kernel
theorem i222_44 : ts_ins 222 44 = some (.iconst 0, 45, 0) := by decide +kernel
theorem i222_45 : ts_ins 222 45 = some (.iload_n 2, 46, 0) := by decide +kernel
theorem i222_46 : ts_ins 222 46 = some (.invokevirtual 303, 49, 0) := by decide +kernel
theorem g222_46 : ts_cal (ts_mc 222) 303 = some (0, 222, 2) := by decide +kernel
theorem i222_49 : ts_ins 222 49 = some (.iconst 2, 50, 0) := by decide +kernel
theorem i222_50 : ts_ins 222 50 = some (.imul, 51, 0) := by decide +kernel
theorem i222_51 : ts_ins 222 51 = some (.ireturn, 52, 0) := by decide +kernel
theorem i222_52 : ts_ins 222 52 = some (.aload_n 0, 53, 0) := by decide +kernel
theorem i222_53 : ts_ins 222 53 = some (.iconst 1, 54, 0) := by decide +kernel
theorem i222_54 : ts_ins 222 54 = some (.invokevirtual 300, 57, 0) := by decide +kernel
theorem g222_54 : ts_cal (ts_mc 222) 300 = some (0, 221, 1) := by decide +kernel
theorem i222_57 : ts_ins 222 57 = some (.iload_n 2, 58, 0) := by decide +kernel
theorem i222_58 : ts_ins 222 58 = some (.aload_n 0, 59, 0) := by decide +kernel
theorem i222_59 : ts_ins 222 59 = some (.getfield 306, 62, 0) := by decide +kernel
theorem g222_59 : ts_fm 222 306 = some (12, 37, 0) := by decide +kernel
theorem i222_62 : ts_ins 222 62 = some (.iadd, 63, 0) := by decide +kernel
theorem i222_63 : ts_ins 222 63 = some (.ireturn, 64, 0) := by decide +kernel
theorem r222 : ts_rt 222 = ((some .int), 0, 0) := by decide +kernel
theorem l222 : ts_ml 222 = 3 := by decide +kernel
theorem i224_0 : ts_ins 224 0 = some (.iload_n 1, 1, 0) := by decide +kernel
theorem i224_1 : ts_ins 224 1 = some (.iconst 3, 2, 0) := by decide +kernel
theorem i224_2 : ts_ins 224 2 = some (.if_icmp .eq 8, 5, 10) := by decide +kernel
theorem i224_5 : ts_ins 224 5 = some (.iload_n 1, 6, 0) := by decide +kernel
theorem i224_6 : ts_ins 224 6 = some (.iconst 5, 7, 0) := by decide +kernel
theorem i224_7 : ts_ins 224 7 = some (.if_icmp .ne 18, 10, 25) := by decide +kernel
theorem i224_10 : ts_ins 224 10 = some (.aload_n 0, 11, 0) := by decide +kernel
theorem i224_11 : ts_ins 224 11 = some (.bipush 40, 13, 0) := by decide +kernel
theorem i224_13 : ts_ins 224 13 = some (.invokevirtual 300, 16, 0) := by decide +kernel
theorem g224_13 : ts_cal (ts_mc 224) 300 = some (0, 221, 1) := by decide +kernel
theorem i224_16 : ts_ins 224 16 = some (.aload_n 0, 17, 0) := by decide +kernel
theorem i224_17 : ts_ins 224 17 = some (.iconst 2, 18, 0) := by decide +kernel
theorem i224_18 : ts_ins 224 18 = some (.iload_n 2, 19, 0) := by decide +kernel
theorem i224_19 : ts_ins 224 19 = some (.invokevirtual 315, 22, 0) := by decide +kernel
theorem g224_19 : ts_cal (ts_mc 224) 315 = some (0, 224, 2) := by decide +kernel
theorem i224_22 : ts_ins 224 22 = some (.iconst 3, 23, 0) := by decide +kernel
theorem i224_23 : ts_ins 224 23 = some (.imul, 24, 0) := by decide +kernel
theorem i224_24 : ts_ins 224 24 = some (.ireturn, 25, 0) := by decide +kernel
theorem i224_25 : ts_ins 224 25 = some (.iload_n 1, 26, 0) := by decide +kernel
theorem i224_26 : ts_ins 224 26 = some (.iconst 4, 27, 0) := by decide +kernel
theorem i224_27 : ts_ins 224 27 = some (.if_icmp .eq 9, 30, 36) := by decide +kernel
theorem i224_30 : ts_ins 224 30 = some (.iload_n 1, 31, 0) := by decide +kernel
theorem i224_31 : ts_ins 224 31 = some (.bipush 7, 33, 0) := by decide +kernel
theorem i224_33 : ts_ins 224 33 = some (.if_icmp .ne 28, 36, 61) := by decide +kernel
theorem i224_36 : ts_ins 224 36 = some (.aload_n 0, 37, 0) := by decide +kernel
theorem i224_37 : ts_ins 224 37 = some (.bipush 50, 39, 0) := by decide +kernel
theorem i224_39 : ts_ins 224 39 = some (.invokevirtual 300, 42, 0) := by decide +kernel
theorem g224_39 : ts_cal (ts_mc 224) 300 = some (0, 221, 1) := by decide +kernel
theorem i224_42 : ts_ins 224 42 = some (.aload_n 0, 43, 0) := by decide +kernel
theorem i224_43 : ts_ins 224 43 = some (.iconst 1, 44, 0) := by decide +kernel
theorem i224_44 : ts_ins 224 44 = some (.iload_n 2, 45, 0) := by decide +kernel
theorem i224_45 : ts_ins 224 45 = some (.invokevirtual 315, 48, 0) := by decide +kernel
theorem g224_45 : ts_cal (ts_mc 224) 315 = some (0, 224, 2) := by decide +kernel
theorem i224_48 : ts_ins 224 48 = some (.istore_n 3, 49, 0) := by decide +kernel
theorem i224_49 : ts_ins 224 49 = some (.iload_n 3, 50, 0) := by decide +kernel
theorem i224_50 : ts_ins 224 50 = some (.aload_n 0, 51, 0) := by decide +kernel
theorem i224_51 : ts_ins 224 51 = some (.aload_n 0, 52, 0) := by decide +kernel
theorem i224_52 : ts_ins 224 52 = some (.getfield 312, 55, 0) := by decide +kernel
theorem g224_52 : ts_fm 224 312 = some (12, 36, 0) := by decide +kernel
theorem i224_55 : ts_ins 224 55 = some (.iconst 2, 56, 0) := by decide +kernel
theorem i224_56 : ts_ins 224 56 = some (.invokevirtual 303, 59, 0) := by decide +kernel
theorem g224_56 : ts_cal (ts_mc 224) 303 = some (0, 222, 2) := by decide +kernel
theorem i224_59 : ts_ins 224 59 = some (.isub, 60, 0) := by decide +kernel
theorem i224_60 : ts_ins 224 60 = some (.ireturn, 61, 0) := by decide +kernel
theorem i224_61 : ts_ins 224 61 = some (.aload_n 0, 62, 0) := by decide +kernel
theorem i224_62 : ts_ins 224 62 = some (.bipush 11, 64, 0) := by decide +kernel
theorem i224_64 : ts_ins 224 64 = some (.invokevirtual 300, 67, 0) := by decide +kernel
theorem g224_64 : ts_cal (ts_mc 224) 300 = some (0, 221, 1) := by decide +kernel
theorem i224_67 : ts_ins 224 67 = some (.iload_n 2, 68, 0) := by decide +kernel
theorem i224_68 : ts_ins 224 68 = some (.aload_n 0, 69, 0) := by decide +kernel
theorem i224_69 : ts_ins 224 69 = some (.getfield 306, 72, 0) := by decide +kernel
theorem g224_69 : ts_fm 224 306 = some (12, 37, 0) := by decide +kernel
theorem i224_72 : ts_ins 224 72 = some (.ixor, 73, 0) := by decide +kernel
theorem i224_73 : ts_ins 224 73 = some (.ireturn, 74, 0) := by decide +kernel
theorem r224 : ts_rt 224 = ((some .int), 0, 0) := by decide +kernel
theorem l224 : ts_ml 224 = 4 := by decide +kernel
theorem i223_0 : ts_ins 223 0 = some (.iload_n 1, 1, 0) := by decide +kernel
theorem i223_1 : ts_ins 223 1 = some (.iconst 3, 2, 0) := by decide +kernel
theorem i223_2 : ts_ins 223 2 = some (.if_icmp .eq 8, 5, 10) := by decide +kernel
theorem i223_5 : ts_ins 223 5 = some (.iload_n 1, 6, 0) := by decide +kernel
theorem i223_6 : ts_ins 223 6 = some (.iconst 5, 7, 0) := by decide +kernel
theorem i223_7 : ts_ins 223 7 = some (.if_icmp .ne 18, 10, 25) := by decide +kernel
theorem i223_10 : ts_ins 223 10 = some (.aload_n 0, 11, 0) := by decide +kernel
theorem i223_11 : ts_ins 223 11 = some (.bipush 41, 13, 0) := by decide +kernel
theorem i223_13 : ts_ins 223 13 = some (.invokevirtual 300, 16, 0) := by decide +kernel
theorem g223_13 : ts_cal (ts_mc 223) 300 = some (0, 221, 1) := by decide +kernel
theorem i223_16 : ts_ins 223 16 = some (.aload_n 0, 17, 0) := by decide +kernel
theorem i223_17 : ts_ins 223 17 = some (.iconst 2, 18, 0) := by decide +kernel
theorem i223_18 : ts_ins 223 18 = some (.iload_n 2, 19, 0) := by decide +kernel
theorem i223_19 : ts_ins 223 19 = some (.iconst 1, 20, 0) := by decide +kernel
theorem i223_20 : ts_ins 223 20 = some (.iadd, 21, 0) := by decide +kernel
theorem i223_21 : ts_ins 223 21 = some (.invokevirtual 309, 24, 0) := by decide +kernel
theorem g223_21 : ts_cal (ts_mc 223) 309 = some (0, 223, 2) := by decide +kernel
theorem i223_24 : ts_ins 223 24 = some (.ireturn, 25, 0) := by decide +kernel
theorem i223_25 : ts_ins 223 25 = some (.iload_n 1, 26, 0) := by decide +kernel
theorem i223_26 : ts_ins 223 26 = some (.iconst 2, 27, 0) := by decide +kernel
theorem i223_27 : ts_ins 223 27 = some (.if_icmp .ne 17, 30, 44) := by decide +kernel
theorem i223_30 : ts_ins 223 30 = some (.aload_n 0, 31, 0) := by decide +kernel
theorem i223_31 : ts_ins 223 31 = some (.bipush 30, 33, 0) := by decide +kernel
theorem i223_33 : ts_ins 223 33 = some (.invokevirtual 300, 36, 0) := by decide +kernel
theorem g223_33 : ts_cal (ts_mc 223) 300 = some (0, 221, 1) := by decide +kernel
theorem i223_36 : ts_ins 223 36 = some (.aload_n 0, 37, 0) := by decide +kernel
theorem i223_37 : ts_ins 223 37 = some (.iconst 0, 38, 0) := by decide +kernel
theorem i223_38 : ts_ins 223 38 = some (.iload_n 2, 39, 0) := by decide +kernel
theorem i223_39 : ts_ins 223 39 = some (.invokevirtual 309, 42, 0) := by decide +kernel
theorem g223_39 : ts_cal (ts_mc 223) 309 = some (0, 223, 2) := by decide +kernel
theorem i223_42 : ts_ins 223 42 = some (.ineg, 43, 0) := by decide +kernel
theorem i223_43 : ts_ins 223 43 = some (.ireturn, 44, 0) := by decide +kernel
theorem i223_44 : ts_ins 223 44 = some (.iload_n 1, 45, 0) := by decide +kernel
theorem i223_45 : ts_ins 223 45 = some (.bipush 7, 47, 0) := by decide +kernel
theorem i223_47 : ts_ins 223 47 = some (.if_icmp .ne 28, 50, 75) := by decide +kernel
theorem i223_50 : ts_ins 223 50 = some (.aload_n 0, 51, 0) := by decide +kernel
theorem i223_51 : ts_ins 223 51 = some (.bipush 80, 53, 0) := by decide +kernel
theorem i223_53 : ts_ins 223 53 = some (.invokevirtual 300, 56, 0) := by decide +kernel
theorem g223_53 : ts_cal (ts_mc 223) 300 = some (0, 221, 1) := by decide +kernel
theorem i223_56 : ts_ins 223 56 = some (.aload_n 0, 57, 0) := by decide +kernel
theorem i223_57 : ts_ins 223 57 = some (.iconst 4, 58, 0) := by decide +kernel
theorem i223_58 : ts_ins 223 58 = some (.iload_n 2, 59, 0) := by decide +kernel
theorem i223_59 : ts_ins 223 59 = some (.invokevirtual 309, 62, 0) := by decide +kernel
theorem g223_59 : ts_cal (ts_mc 223) 309 = some (0, 223, 2) := by decide +kernel
theorem i223_62 : ts_ins 223 62 = some (.istore_n 3, 63, 0) := by decide +kernel
theorem i223_63 : ts_ins 223 63 = some (.iload_n 3, 64, 0) := by decide +kernel
theorem i223_64 : ts_ins 223 64 = some (.aload_n 0, 65, 0) := by decide +kernel
theorem i223_65 : ts_ins 223 65 = some (.aload_n 0, 66, 0) := by decide +kernel
theorem i223_66 : ts_ins 223 66 = some (.getfield 312, 69, 0) := by decide +kernel
theorem g223_66 : ts_fm 223 312 = some (12, 36, 0) := by decide +kernel
theorem i223_69 : ts_ins 223 69 = some (.iconst 2, 70, 0) := by decide +kernel
theorem i223_70 : ts_ins 223 70 = some (.invokevirtual 315, 73, 0) := by decide +kernel
theorem g223_70 : ts_cal (ts_mc 223) 315 = some (0, 224, 2) := by decide +kernel
theorem i223_73 : ts_ins 223 73 = some (.iadd, 74, 0) := by decide +kernel
theorem i223_74 : ts_ins 223 74 = some (.ireturn, 75, 0) := by decide +kernel
theorem i223_75 : ts_ins 223 75 = some (.aload_n 0, 76, 0) := by decide +kernel
theorem i223_76 : ts_ins 223 76 = some (.bipush 10, 78, 0) := by decide +kernel
theorem i223_78 : ts_ins 223 78 = some (.invokevirtual 300, 81, 0) := by decide +kernel
theorem g223_78 : ts_cal (ts_mc 223) 300 = some (0, 221, 1) := by decide +kernel
theorem i223_81 : ts_ins 223 81 = some (.aload_n 0, 82, 0) := by decide +kernel
theorem i223_82 : ts_ins 223 82 = some (.aload_n 0, 83, 0) := by decide +kernel
theorem i223_83 : ts_ins 223 83 = some (.getfield 312, 86, 0) := by decide +kernel
theorem g223_83 : ts_fm 223 312 = some (12, 36, 0) := by decide +kernel
theorem i223_86 : ts_ins 223 86 = some (.iload_n 2, 87, 0) := by decide +kernel
theorem i223_87 : ts_ins 223 87 = some (.invokevirtual 303, 90, 0) := by decide +kernel
theorem g223_87 : ts_cal (ts_mc 223) 303 = some (0, 222, 2) := by decide +kernel
theorem i223_90 : ts_ins 223 90 = some (.iconst 2, 91, 0) := by decide +kernel
theorem i223_91 : ts_ins 223 91 = some (.imul, 92, 0) := by decide +kernel
theorem i223_92 : ts_ins 223 92 = some (.ireturn, 93, 0) := by decide +kernel
theorem r223 : ts_rt 223 = ((some .int), 0, 0) := by decide +kernel
theorem l223 : ts_ml 223 = 4 := by decide +kernel
theorem i225_0 : ts_ins 225 0 = some (.iload_n 1, 1, 0) := by decide +kernel
theorem i225_1 : ts_ins 225 1 = some (.iconst 5, 2, 0) := by decide +kernel
theorem i225_2 : ts_ins 225 2 = some (.if_icmp .ne 18, 5, 20) := by decide +kernel
theorem i225_5 : ts_ins 225 5 = some (.aload_n 0, 6, 0) := by decide +kernel
theorem i225_6 : ts_ins 225 6 = some (.bipush 60, 8, 0) := by decide +kernel
theorem i225_8 : ts_ins 225 8 = some (.invokevirtual 300, 11, 0) := by decide +kernel
theorem g225_8 : ts_cal (ts_mc 225) 300 = some (0, 221, 1) := by decide +kernel
theorem i225_11 : ts_ins 225 11 = some (.aload_n 0, 12, 0) := by decide +kernel
theorem i225_12 : ts_ins 225 12 = some (.iconst 3, 13, 0) := by decide +kernel
theorem i225_13 : ts_ins 225 13 = some (.iload_n 2, 14, 0) := by decide +kernel
theorem i225_14 : ts_ins 225 14 = some (.invokevirtual 318, 17, 0) := by decide +kernel
theorem g225_14 : ts_cal (ts_mc 225) 318 = some (0, 225, 2) := by decide +kernel
theorem i225_17 : ts_ins 225 17 = some (.iconst 5, 18, 0) := by decide +kernel
theorem i225_18 : ts_ins 225 18 = some (.ixor, 19, 0) := by decide +kernel
theorem i225_19 : ts_ins 225 19 = some (.ireturn, 20, 0) := by decide +kernel
theorem i225_20 : ts_ins 225 20 = some (.iload_n 1, 21, 0) := by decide +kernel
theorem i225_21 : ts_ins 225 21 = some (.bipush 7, 23, 0) := by decide +kernel
theorem i225_23 : ts_ins 225 23 = some (.if_icmp .ne 18, 26, 41) := by decide +kernel
theorem i225_26 : ts_ins 225 26 = some (.aload_n 0, 27, 0) := by decide +kernel
theorem i225_27 : ts_ins 225 27 = some (.bipush 81, 29, 0) := by decide +kernel
theorem i225_29 : ts_ins 225 29 = some (.invokevirtual 300, 32, 0) := by decide +kernel
theorem g225_29 : ts_cal (ts_mc 225) 300 = some (0, 221, 1) := by decide +kernel
theorem i225_32 : ts_ins 225 32 = some (.aload_n 0, 33, 0) := by decide +kernel
theorem i225_33 : ts_ins 225 33 = some (.iconst 4, 34, 0) := by decide +kernel
theorem i225_34 : ts_ins 225 34 = some (.iload_n 2, 35, 0) := by decide +kernel
theorem i225_35 : ts_ins 225 35 = some (.invokevirtual 318, 38, 0) := by decide +kernel
theorem g225_35 : ts_cal (ts_mc 225) 318 = some (0, 225, 2) := by decide +kernel
theorem i225_38 : ts_ins 225 38 = some (.iconst 1, 39, 0) := by decide +kernel
theorem i225_39 : ts_ins 225 39 = some (.isub, 40, 0) := by decide +kernel
theorem i225_40 : ts_ins 225 40 = some (.ireturn, 41, 0) := by decide +kernel
theorem i225_41 : ts_ins 225 41 = some (.aload_n 0, 42, 0) := by decide +kernel
theorem i225_42 : ts_ins 225 42 = some (.iconst 2, 43, 0) := by decide +kernel
theorem i225_43 : ts_ins 225 43 = some (.invokevirtual 300, 46, 0) := by decide +kernel
theorem g225_43 : ts_cal (ts_mc 225) 300 = some (0, 221, 1) := by decide +kernel
theorem i225_46 : ts_ins 225 46 = some (.aload_n 0, 47, 0) := by decide +kernel
theorem i225_47 : ts_ins 225 47 = some (.aload_n 0, 48, 0) := by decide +kernel
theorem i225_48 : ts_ins 225 48 = some (.getfield 312, 51, 0) := by decide +kernel
theorem g225_48 : ts_fm 225 312 = some (12, 36, 0) := by decide +kernel
theorem i225_51 : ts_ins 225 51 = some (.iload_n 2, 52, 0) := by decide +kernel
theorem i225_52 : ts_ins 225 52 = some (.invokevirtual 309, 55, 0) := by decide +kernel
theorem g225_52 : ts_cal (ts_mc 225) 309 = some (0, 223, 2) := by decide +kernel
theorem i225_55 : ts_ins 225 55 = some (.istore_n 3, 56, 0) := by decide +kernel
theorem i225_56 : ts_ins 225 56 = some (.iload_n 3, 57, 0) := by decide +kernel
theorem i225_57 : ts_ins 225 57 = some (.aload_n 0, 58, 0) := by decide +kernel
theorem i225_58 : ts_ins 225 58 = some (.aload_n 0, 59, 0) := by decide +kernel
theorem i225_59 : ts_ins 225 59 = some (.getfield 312, 62, 0) := by decide +kernel
theorem g225_59 : ts_fm 225 312 = some (12, 36, 0) := by decide +kernel
theorem i225_62 : ts_ins 225 62 = some (.iconst 1, 63, 0) := by decide +kernel
theorem i225_63 : ts_ins 225 63 = some (.invokevirtual 315, 66, 0) := by decide +kernel
theorem g225_63 : ts_cal (ts_mc 225) 315 = some (0, 224, 2) := by decide +kernel
theorem i225_66 : ts_ins 225 66 = some (.isub, 67, 0) := by decide +kernel
theorem i225_67 : ts_ins 225 67 = some (.ireturn, 68, 0) := by decide +kernel
theorem r225 : ts_rt 225 = ((some .int), 0, 0) := by decide +kernel
theorem l225 : ts_ml 225 = 4 := by decide +kernel
/-! ACTS -/
abbrev fra : Nat → Nat → Prop := fun a k => (a = 56 ∧ k = 3) ∨ a = 58
abbrev frm : Nat → Nat → Prop := fun a k => (a = 72 ∧ k = 35) ∨ a = 92
abbrev ts_Tr : Type := Int × (Int → Int)
/-- one more body ran -/
def tp (v : Int) (s : ts_Tr) : ts_Tr := (s.1 + 1, if s.1 < 24 then zu s.2 s.1 v else s.2)
def RA (I : Nat → Nat → Int32) (s : ts_Tr) : Prop := rd (I 56 3) 0 200 s.1 ∧ ar I 58 24 0 100 s.2
def RB (I : Nat → Nat → Int32) (s : ts_Tr) : Prop := rd (I 72 35) 0 200 s.1 ∧ ar I 92 24 0 100 s.2
/-- whose act it is: n of nb bodies, of kind k0 -/
def HA (I : Nat → Nat → Int32) (n k0 : Int) : Prop := rd (I 56 4) 0 49 n ∧ ∃ nb g, rd (I 56 2) 0 50 nb ∧ ar I 57 50 0 7 g ∧ n < nb ∧ g n = k0
def HB (I : Nat → Nat → Int32) (n k0 : Int) : Prop := rd (I 72 37) 0 49 n ∧ rd (I 72 36) 0 7 k0
def tF (k : Int) (s : ts_Tr) : ts_Tr := if k = 1 ∨ k = 4 ∨ k = 7 then tp 1 (tp 20 s) else if k = 6 then tp 1 (tp 70 s) else tp 1 s
def vF (n k x : Int) : Int := if k = 1 ∨ k = 4 ∨ k = 7 then x + n + 3 else if k = 6 then (x + n) * 2 else x + n
def tW (k0 k : Int) (s : ts_Tr) : ts_Tr := if k = 3 ∨ k = 5 then tp 11 (tp 40 s) else if k = 4 ∨ k = 7 then tF k0 (tp 11 (tp 50 s)) else tp 11 s
def vW (n k0 k x : Int) : Int := if k = 3 ∨ k = 5 then zxor x n * 3 else if k = 4 ∨ k = 7 then zxor x n - vF n k0 2 else zxor x n
def tS (k0 k : Int) (s : ts_Tr) : ts_Tr := if k = 3 ∨ k = 5 then tF k0 (tp 10 (tp 30 (tp 41 s))) else if k = 2 then tF k0 (tp 10 (tp 30 s)) else if k = 7 then tW k0 k0 (tF k0 (tp 10 (tp 80 s))) else tF k0 (tp 10 s)
def vS (n k0 k x : Int) : Int := if k = 3 ∨ k = 5 then -(vF n k0 (x + 1) * 2) else if k = 2 then -(vF n k0 x * 2) else if k = 7 then vF n k0 x * 2 + vW n k0 k0 2 else vF n k0 x * 2
def tT (k0 k : Int) (s : ts_Tr) : ts_Tr := if k = 5 then tW k0 k0 (tS k0 k0 (tp 2 (tp 60 s))) else if k = 7 then tW k0 k0 (tS k0 k0 (tp 2 (tp 81 s))) else tW k0 k0 (tS k0 k0 (tp 2 s))
def vT (n k0 k x : Int) : Int := if k = 5 then zxor (vS n k0 k0 x - vW n k0 k0 1) 5 else if k = 7 then vS n k0 k0 x - vW n k0 k0 1 - 1 else vS n k0 k0 x - vW n k0 k0 1
theorem tF_r (k : Int) (s : ts_Tr) : s.1 + 1 ≤ (tF k s).1 ∧ (tF k s).1 ≤ s.1 + 2 := by
  unfold tF
  split
  · simp only [tp]; omega
  · split
    · simp only [tp]; omega
    · simp only [tp]; omega
theorem tW_r (k0 k : Int) (s : ts_Tr) : s.1 + 1 ≤ (tW k0 k s).1 ∧ (tW k0 k s).1 ≤ s.1 + 4 := by
  unfold tW
  split
  · simp only [tp]; omega
  · split
    · have := tF_r k0 (tp 11 (tp 50 s))
      simp only [tp] at *
      omega
    · simp only [tp]; omega
theorem tS_r (k0 k : Int) (s : ts_Tr) : s.1 + 1 ≤ (tS k0 k s).1 ∧ (tS k0 k s).1 ≤ s.1 + 9 := by
  unfold tS
  split
  · have := tF_r k0 (tp 10 (tp 30 (tp 41 s)))
    simp only [tp] at *
    omega
  · split
    · have := tF_r k0 (tp 10 (tp 30 s))
      simp only [tp] at *
      omega
    · split
      · have h1 := tF_r k0 (tp 10 (tp 80 s))
        have h2 := tW_r k0 k0 (tF k0 (tp 10 (tp 80 s)))
        simp only [tp] at *
        omega
      · have := tF_r k0 (tp 10 s)
        simp only [tp] at *
        omega
def bodL : List Int := [1, 20, 0, 0, 0, 0, 70, 0, 10, 0, 30, 41, 0, 0, 0, 80, 11, 0, 0, 40, 50, 0, 0, 0, 2, 0, 0, 0, 0, 60, 0, 81]
def bod (act k : Int) : Int := bodL.getD (act * 8 + k).toNat 0
theorem bod_rd {act k : Int} (ha : 0 ≤ act ∧ act ≤ 3) (hk : 0 ≤ k ∧ k < 8) : rd ((ts_ca 1003).getD (act * 8 + k).toNat 0) 0 100 (bod act k) := by
  have h : ∀ j : Nat, j < 32 → (ts_ca 1003).getD j 0 = zI (bodL.getD j 0) ∧ 0 ≤ bodL.getD j 0 ∧ bodL.getD j 0 ≤ 100 := by decide +kernel
  exact h _ (by omega)
section AC
variable {X : ts_X} {I J : Nat → Nat → Int32} {L : Nat → Nat → Int64} {sw : Bool} {K : Option Value → ts_H → Prop} {d : Nat} {s : ts_Tr} {n k0 : Int}
theorem HA.co (h : HA I n k0) (e : fr fra I J) : HA J n k0 := by
  obtain ⟨h1, nb, g, h2, h3, h4, h5⟩ := h
  exact ⟨by rw [e 56 4 (by omega)]; exact h1, nb, g, by rw [e 56 2 (by omega)]; exact h2, ar_co h3 (fr_row e (fun k => by omega)), h4, h5⟩
theorem HB.co (h : HB I n k0) (e : fr frm I J) : HB J n k0 := ⟨by rw [e 72 37 (by omega)]; exact h.1, by rw [e 72 36 (by omega)]; exact h.2⟩
theorem x_note (hA : RA I s) {v : Int} (hv : 0 ≤ v ∧ v ≤ 100) (hs : s.1 ≤ 199) (hK : ∀ J, fr fra I J → RA J (tp v s) → K none (J, L, ts_P0 sw, ts_S0)) : ts_Cal X (d + 1) 15 [.ref 56, .int (zI (v))] (I, L, ts_P0 sw, ts_S0) K := by
  have b1 := hA.1.2
  unfold tp at hK
  refine ev_enter (lv := [.ref 56, .int (zI (v))]) l15 rfl (Nat.le_of_ble_eq_true rfl) ?_
  refine ev_aloadn_0 i15_0 ?_
  refine ew_getI i15_1 g15_1 rfl (by first | exact hA.1 | exact hX.men | exact hX.told | exact hX.road | exact hX.tone _ (by omega) (by omega) | exact hX.corn _ (by omega) (by omega) | exact hX.stand _ (by omega) (by omega) | exact hX.reach _ (by omega) (by omega) | exact hX.arm _ (by omega) (by omega) | exact hX.late _ (by omega) (by omega) | exact hX.len _ (by omega) (by omega) | exact hX.say (by omega) (by omega) _ (by omega) (by omega)) (fun b1 => ?_)
  refine ew_bipush i15_4 (by decide) ?_
  refine ew_icmpge i15_6 (by omega) (fun c6 => ?_) (fun c6 => ?_)
  · refine ev_aloadn_0 i15_19 ?_
    refine ev_dup i15_20 rfl ?_
    refine ew_getI i15_21 g15_21 rfl (by first | exact hA.1 | exact hX.men | exact hX.told | exact hX.road | exact hX.tone _ (by omega) (by omega) | exact hX.corn _ (by omega) (by omega) | exact hX.stand _ (by omega) (by omega) | exact hX.reach _ (by omega) (by omega) | exact hX.arm _ (by omega) (by omega) | exact hX.late _ (by omega) (by omega) | exact hX.len _ (by omega) (by omega) | exact hX.say (by omega) (by omega) _ (by omega) (by omega)) (fun b21 => ?_)
    refine ew_iconst i15_24 ?_
    refine ew_iadd i15_25 ?_
    refine ev_putI i15_26 g15_26 rfl ?_
    refine ev_return i15_29 r15 ?_
    first
    | (rw [if_pos (by omega)] at hK
       exact hK _ (fr_up (fr_up (fr_rfl _ _) (by omega)) (by omega)) ⟨rd_zI (by omega), ar_up hA.2 b1.1 hv⟩)
    | (rw [if_neg (by omega)] at hK
       exact hK _ (fr_up (fr_rfl _ _) (by omega)) ⟨rd_zI (by omega), hA.2⟩)
  · refine ev_aloadn_0 i15_9 ?_
    refine ev_getA i15_10 g15_10 rfl rfl (by decide) ?_
    refine ev_aloadn_0 i15_13 ?_
    refine ew_getI i15_14 g15_14 rfl (by first | exact hA.1 | exact hX.men | exact hX.told | exact hX.road | exact hX.tone _ (by omega) (by omega) | exact hX.corn _ (by omega) (by omega) | exact hX.stand _ (by omega) (by omega) | exact hX.reach _ (by omega) (by omega) | exact hX.arm _ (by omega) (by omega) | exact hX.late _ (by omega) (by omega) | exact hX.len _ (by omega) (by omega) | exact hX.say (by omega) (by omega) _ (by omega) (by omega)) (fun b14 => ?_)
    refine ev_iloadn_1 i15_17 ?_
    refine ew_iastore i15_18 rfl (by omega) (by omega) (by omega) ?_
    refine ev_aloadn_0 i15_19 ?_
    refine ev_dup i15_20 rfl ?_
    refine ew_getI i15_21 g15_21 rfl (by first | exact hA.1 | exact hX.men | exact hX.told | exact hX.road | exact hX.tone _ (by omega) (by omega) | exact hX.corn _ (by omega) (by omega) | exact hX.stand _ (by omega) (by omega) | exact hX.reach _ (by omega) (by omega) | exact hX.arm _ (by omega) (by omega) | exact hX.late _ (by omega) (by omega) | exact hX.len _ (by omega) (by omega) | exact hX.say (by omega) (by omega) _ (by omega) (by omega)) (fun b21 => ?_)
    refine ew_iconst i15_24 ?_
    refine ew_iadd i15_25 ?_
    refine ev_putI i15_26 g15_26 rfl ?_
    refine ev_return i15_29 r15 ?_
    first
    | (rw [if_pos (by omega)] at hK
       exact hK _ (fr_up (fr_up (fr_rfl _ _) (by omega)) (by omega)) ⟨rd_zI (by omega), ar_up hA.2 b1.1 hv⟩)
    | (rw [if_neg (by omega)] at hK
       exact hK _ (fr_up (fr_rfl _ _) (by omega)) ⟨rd_zI (by omega), hA.2⟩)
theorem m_runs (hA : RB I s) {v : Int} (hv : 0 ≤ v ∧ v ≤ 100) (hs : s.1 ≤ 199) (hK : ∀ J, fr frm I J → RB J (tp v s) → K none (J, L, ts_P0 sw, ts_S0)) : ts_Cal X (d + 1) 221 [.ref 72, .int (zI (v))] (I, L, ts_P0 sw, ts_S0) K := by
  have b1 := hA.1.2
  unfold tp at hK
  refine ev_enter (lv := [.ref 72, .int (zI (v))]) l221 rfl (Nat.le_of_ble_eq_true rfl) ?_
  refine ev_aloadn_0 i221_0 ?_
  refine ew_getI i221_1 g221_1 rfl (by first | exact hA.1 | exact hM.men | exact hM.told | exact hM.road | exact hM.stand _ (by omega) (by omega) | exact hM.reach _ (by omega) (by omega) | exact hM.arm _ (by omega) (by omega) | exact hM.late _ (by omega) (by omega) | exact hM.len _ (by omega) (by omega) | exact hM.corn _ (by omega) (by omega) | exact hM.say (by omega) (by omega) _ (by omega) (by omega) | exact hM.tone _ (by omega) (by omega)) (fun b1 => ?_)
  refine ew_bipush i221_4 (by decide) ?_
  refine ew_icmpge i221_6 (by omega) (fun c6 => ?_) (fun c6 => ?_)
  · refine ev_aloadn_0 i221_19 ?_
    refine ev_dup i221_20 rfl ?_
    refine ew_getI i221_21 g221_21 rfl (by first | exact hA.1 | exact hM.men | exact hM.told | exact hM.road | exact hM.stand _ (by omega) (by omega) | exact hM.reach _ (by omega) (by omega) | exact hM.arm _ (by omega) (by omega) | exact hM.late _ (by omega) (by omega) | exact hM.len _ (by omega) (by omega) | exact hM.corn _ (by omega) (by omega) | exact hM.say (by omega) (by omega) _ (by omega) (by omega) | exact hM.tone _ (by omega) (by omega)) (fun b21 => ?_)
    refine ew_iconst i221_24 ?_
    refine ew_iadd i221_25 ?_
    refine ev_putI i221_26 g221_26 rfl ?_
    refine ev_return i221_29 r221 ?_
    first
    | (rw [if_pos (by omega)] at hK
       exact hK _ (fr_up (fr_up (fr_rfl _ _) (by omega)) (by omega)) ⟨rd_zI (by omega), ar_up hA.2 b1.1 hv⟩)
    | (rw [if_neg (by omega)] at hK
       exact hK _ (fr_up (fr_rfl _ _) (by omega)) ⟨rd_zI (by omega), hA.2⟩)
  · refine ev_aloadn_0 i221_9 ?_
    refine ev_getA i221_10 g221_10 rfl rfl (by decide) ?_
    refine ev_aloadn_0 i221_13 ?_
    refine ew_getI i221_14 g221_14 rfl (by first | exact hA.1 | exact hM.men | exact hM.told | exact hM.road | exact hM.stand _ (by omega) (by omega) | exact hM.reach _ (by omega) (by omega) | exact hM.arm _ (by omega) (by omega) | exact hM.late _ (by omega) (by omega) | exact hM.len _ (by omega) (by omega) | exact hM.corn _ (by omega) (by omega) | exact hM.say (by omega) (by omega) _ (by omega) (by omega) | exact hM.tone _ (by omega) (by omega)) (fun b14 => ?_)
    refine ev_iloadn_1 i221_17 ?_
    refine ew_iastore i221_18 rfl (by omega) (by omega) (by omega) ?_
    refine ev_aloadn_0 i221_19 ?_
    refine ev_dup i221_20 rfl ?_
    refine ew_getI i221_21 g221_21 rfl (by first | exact hA.1 | exact hM.men | exact hM.told | exact hM.road | exact hM.stand _ (by omega) (by omega) | exact hM.reach _ (by omega) (by omega) | exact hM.arm _ (by omega) (by omega) | exact hM.late _ (by omega) (by omega) | exact hM.len _ (by omega) (by omega) | exact hM.corn _ (by omega) (by omega) | exact hM.say (by omega) (by omega) _ (by omega) (by omega) | exact hM.tone _ (by omega) (by omega)) (fun b21 => ?_)
    refine ew_iconst i221_24 ?_
    refine ew_iadd i221_25 ?_
    refine ev_putI i221_26 g221_26 rfl ?_
    refine ev_return i221_29 r221 ?_
    first
    | (rw [if_pos (by omega)] at hK
       exact hK _ (fr_up (fr_up (fr_rfl _ _) (by omega)) (by omega)) ⟨rd_zI (by omega), ar_up hA.2 b1.1 hv⟩)
    | (rw [if_neg (by omega)] at hK
       exact hK _ (fr_up (fr_rfl _ _) (by omega)) ⟨rd_zI (by omega), hA.2⟩)
theorem m_falls0 (hA : RB I s) (hB : HB I n k0) (hs : s.1 ≤ 199) {x : Int} (hK : ∀ J, fr frm I J → RB J (tp 1 s) → K (some (.int (zI (x + n)))) (J, L, ts_P0 sw, ts_S0)) : ts_Cal X (d + 2) 222 [.ref 72, .int (zI (0)), .int (zI (x))] (I, L, ts_P0 sw, ts_S0) K := by
  refine ev_enter (lv := [.ref 72, .int (zI (0)), .int (zI (x))]) l222 rfl (Nat.le_of_ble_eq_true rfl) ?_
  refine ev_iloadn_1 i222_0 ?_
  refine ew_iconst i222_1 ?_
  refine ew_icmpeq i222_2 (by omega) (fun c2 => ?_) (fun c2 => ?_)
  · exfalso; omega
  · refine ev_iloadn_1 i222_5 ?_
    refine ew_iconst i222_6 ?_
    refine ew_icmpeq i222_7 (by omega) (fun c7 => ?_) (fun c7 => ?_)
    · exfalso; omega
    · refine ev_iloadn_1 i222_10 ?_
      refine ew_bipush i222_11 (by decide) ?_
      refine ew_icmpne i222_13 (by omega) (fun c13 => ?_) (fun c13 => ?_)
      · refine ev_iloadn_1 i222_31 ?_
        refine ew_bipush i222_32 (by decide) ?_
        refine ew_icmpne i222_34 (by omega) (fun c34 => ?_) (fun c34 => ?_)
        · refine ev_aloadn_0 i222_52 ?_
          refine ew_iconst i222_53 ?_
          refine ev_virt1 i222_54 g222_54 rfl (by decide +kernel) (Nat.le_of_ble_eq_true rfl) (m_runs hA (by decide) hs (fun J h1 h2 => ?_))
          refine ev_iloadn_2 i222_57 ?_
          refine ev_aloadn_0 i222_58 ?_
          refine ew_getI i222_59 g222_59 rfl (((hB.co h1).1)) (fun b59 => ?_)
          refine ew_iadd i222_62 ?_
          refine ev_ireturn i222_63 r222 ?_
          exact hK J h1 h2
        · exfalso; omega
      · exfalso; omega
theorem m_falls (hA : RB I s) (hB : HB I n k0) (hs : s.1 ≤ 190) {k x : Int} (hk : 0 ≤ k ∧ k ≤ 7) (hK : ∀ J, fr frm I J → RB J (tF k s) → K (some (.int (zI (vF n k x)))) (J, L, ts_P0 sw, ts_S0)) : ts_Cal X (d + 3) 222 [.ref 72, .int (zI (k)), .int (zI (x))] (I, L, ts_P0 sw, ts_S0) K := by
  unfold tF vF at hK
  refine ev_enter (lv := [.ref 72, .int (zI (k)), .int (zI (x))]) l222 rfl (Nat.le_of_ble_eq_true rfl) ?_
  refine ev_iloadn_1 i222_0 ?_
  refine ew_iconst i222_1 ?_
  refine ew_icmpeq i222_2 (by omega) (fun c2 => ?_) (fun c2 => ?_)
  · rw [if_pos (by omega), if_pos (by omega)] at hK
    refine ev_aloadn_0 i222_16 ?_
    refine ew_bipush i222_17 (by decide) ?_
    refine ev_virt1 i222_19 g222_19 rfl (by decide +kernel) (Nat.le_of_ble_eq_true rfl) (m_runs hA (by decide) (by omega) (fun J h1 h2 => ?_))
    refine ev_aloadn_0 i222_22 ?_
    refine ew_iconst i222_23 ?_
    refine ev_iloadn_2 i222_24 ?_
    refine ev_virt2 i222_25 g222_25 rfl (by decide +kernel) (Nat.le_of_ble_eq_true rfl) (m_falls0 h2 (hB.co h1) (by simp only [tp]; omega) (fun M h3 h4 => ?_))
    refine ew_iconst i222_28 ?_
    refine ew_iadd i222_29 ?_
    refine ev_ireturn i222_30 r222 ?_
    exact hK M (fr_tr h1 h3) h4
  · refine ev_iloadn_1 i222_5 ?_
    refine ew_iconst i222_6 ?_
    refine ew_icmpeq i222_7 (by omega) (fun c7 => ?_) (fun c7 => ?_)
    · rw [if_pos (by omega), if_pos (by omega)] at hK
      refine ev_aloadn_0 i222_16 ?_
      refine ew_bipush i222_17 (by decide) ?_
      refine ev_virt1 i222_19 g222_19 rfl (by decide +kernel) (Nat.le_of_ble_eq_true rfl) (m_runs hA (by decide) (by omega) (fun J h1 h2 => ?_))
      refine ev_aloadn_0 i222_22 ?_
      refine ew_iconst i222_23 ?_
      refine ev_iloadn_2 i222_24 ?_
      refine ev_virt2 i222_25 g222_25 rfl (by decide +kernel) (Nat.le_of_ble_eq_true rfl) (m_falls0 h2 (hB.co h1) (by simp only [tp]; omega) (fun M h3 h4 => ?_))
      refine ew_iconst i222_28 ?_
      refine ew_iadd i222_29 ?_
      refine ev_ireturn i222_30 r222 ?_
      exact hK M (fr_tr h1 h3) h4
    · refine ev_iloadn_1 i222_10 ?_
      refine ew_bipush i222_11 (by decide) ?_
      refine ew_icmpne i222_13 (by omega) (fun c13 => ?_) (fun c13 => ?_)
      · refine ev_iloadn_1 i222_31 ?_
        refine ew_bipush i222_32 (by decide) ?_
        refine ew_icmpne i222_34 (by omega) (fun c34 => ?_) (fun c34 => ?_)
        · rw [if_neg (by omega), if_neg (by omega), if_neg (by omega), if_neg (by omega)] at hK
          refine ev_aloadn_0 i222_52 ?_
          refine ew_iconst i222_53 ?_
          refine ev_virt1 i222_54 g222_54 rfl (by decide +kernel) (Nat.le_of_ble_eq_true rfl) (m_runs hA (by decide) (by omega) (fun J h1 h2 => ?_))
          refine ev_iloadn_2 i222_57 ?_
          refine ev_aloadn_0 i222_58 ?_
          refine ew_getI i222_59 g222_59 rfl (((hB.co h1).1)) (fun b59 => ?_)
          refine ew_iadd i222_62 ?_
          refine ev_ireturn i222_63 r222 ?_
          exact hK J h1 h2
        · rw [if_neg (by omega), if_pos (by omega), if_neg (by omega), if_pos (by omega)] at hK
          refine ev_aloadn_0 i222_37 ?_
          refine ew_bipush i222_38 (by decide) ?_
          refine ev_virt1 i222_40 g222_40 rfl (by decide +kernel) (Nat.le_of_ble_eq_true rfl) (m_runs hA (by decide) (by omega) (fun J h1 h2 => ?_))
          refine ev_aloadn_0 i222_43 ?_
          refine ew_iconst i222_44 ?_
          refine ev_iloadn_2 i222_45 ?_
          refine ev_virt2 i222_46 g222_46 rfl (by decide +kernel) (Nat.le_of_ble_eq_true rfl) (m_falls0 h2 (hB.co h1) (by simp only [tp]; omega) (fun M h3 h4 => ?_))
          refine ew_iconst i222_49 ?_
          refine ew_imul i222_50 ?_
          refine ev_ireturn i222_51 r222 ?_
          exact hK M (fr_tr h1 h3) h4
      · rw [if_pos (by omega), if_pos (by omega)] at hK
        refine ev_aloadn_0 i222_16 ?_
        refine ew_bipush i222_17 (by decide) ?_
        refine ev_virt1 i222_19 g222_19 rfl (by decide +kernel) (Nat.le_of_ble_eq_true rfl) (m_runs hA (by decide) (by omega) (fun J h1 h2 => ?_))
        refine ev_aloadn_0 i222_22 ?_
        refine ew_iconst i222_23 ?_
        refine ev_iloadn_2 i222_24 ?_
        refine ev_virt2 i222_25 g222_25 rfl (by decide +kernel) (Nat.le_of_ble_eq_true rfl) (m_falls0 h2 (hB.co h1) (by simp only [tp]; omega) (fun M h3 h4 => ?_))
        refine ew_iconst i222_28 ?_
        refine ew_iadd i222_29 ?_
        refine ev_ireturn i222_30 r222 ?_
        exact hK M (fr_tr h1 h3) h4
theorem m_waits0 (hA : RB I s) (hB : HB I n k0) (hs : s.1 ≤ 199) {k x : Int} (hk : k = 1 ∨ k = 2) (hK : ∀ J, fr frm I J → RB J (tp 11 s) → K (some (.int (zI (zxor x n)))) (J, L, ts_P0 sw, ts_S0)) : ts_Cal X (d + 2) 224 [.ref 72, .int (zI (k)), .int (zI (x))] (I, L, ts_P0 sw, ts_S0) K := by
  refine ev_enter (lv := [.ref 72, .int (zI (k)), .int (zI (x)), .null]) l224 rfl (Nat.le_of_ble_eq_true rfl) ?_
  refine ev_iloadn_1 i224_0 ?_
  refine ew_iconst i224_1 ?_
  refine ew_icmpeq i224_2 (by omega) (fun c2 => ?_) (fun c2 => ?_)
  · exfalso; omega
  · refine ev_iloadn_1 i224_5 ?_
    refine ew_iconst i224_6 ?_
    refine ew_icmpne i224_7 (by omega) (fun c7 => ?_) (fun c7 => ?_)
    · refine ev_iloadn_1 i224_25 ?_
      refine ew_iconst i224_26 ?_
      refine ew_icmpeq i224_27 (by omega) (fun c27 => ?_) (fun c27 => ?_)
      · exfalso; omega
      · refine ev_iloadn_1 i224_30 ?_
        refine ew_bipush i224_31 (by decide) ?_
        refine ew_icmpne i224_33 (by omega) (fun c33 => ?_) (fun c33 => ?_)
        · refine ev_aloadn_0 i224_61 ?_
          refine ew_bipush i224_62 (by decide) ?_
          refine ev_virt1 i224_64 g224_64 rfl (by decide +kernel) (Nat.le_of_ble_eq_true rfl) (m_runs hA (by decide) hs (fun J h1 h2 => ?_))
          refine ev_iloadn_2 i224_67 ?_
          refine ev_aloadn_0 i224_68 ?_
          refine ew_getI i224_69 g224_69 rfl (((hB.co h1).1)) (fun b69 => ?_)
          refine ew_ixor i224_72 ?_
          refine ev_ireturn i224_73 r224 ?_
          exact hK J h1 h2
        · exfalso; omega
    · exfalso; omega
theorem m_waits (hA : RB I s) (hB : HB I n k0) (hs : s.1 ≤ 180) {k x : Int} (hk : 0 ≤ k ∧ k ≤ 7) (hK : ∀ J, fr frm I J → RB J (tW k0 k s) → K (some (.int (zI (vW n k0 k x)))) (J, L, ts_P0 sw, ts_S0)) : ts_Cal X (d + 4) 224 [.ref 72, .int (zI (k)), .int (zI (x))] (I, L, ts_P0 sw, ts_S0) K := by
  unfold tW vW at hK
  have bk := hB.2.2
  refine ev_enter (lv := [.ref 72, .int (zI (k)), .int (zI (x)), .null]) l224 rfl (Nat.le_of_ble_eq_true rfl) ?_
  refine ev_iloadn_1 i224_0 ?_
  refine ew_iconst i224_1 ?_
  refine ew_icmpeq i224_2 (by omega) (fun c2 => ?_) (fun c2 => ?_)
  · rw [if_pos (by omega), if_pos (by omega)] at hK
    refine ev_aloadn_0 i224_10 ?_
    refine ew_bipush i224_11 (by decide) ?_
    refine ev_virt1 i224_13 g224_13 rfl (by decide +kernel) (Nat.le_of_ble_eq_true rfl) (m_runs hA (by decide) (by omega) (fun J h1 h2 => ?_))
    refine ev_aloadn_0 i224_16 ?_
    refine ew_iconst i224_17 ?_
    refine ev_iloadn_2 i224_18 ?_
    refine ev_virt2 i224_19 g224_19 rfl (by decide +kernel) (Nat.le_of_ble_eq_true rfl) (m_waits0 h2 (hB.co h1) (by simp only [tp]; omega) (by decide) (fun M h3 h4 => ?_))
    refine ew_iconst i224_22 ?_
    refine ew_imul i224_23 ?_
    refine ev_ireturn i224_24 r224 ?_
    exact hK M (fr_tr h1 h3) h4
  · refine ev_iloadn_1 i224_5 ?_
    refine ew_iconst i224_6 ?_
    refine ew_icmpne i224_7 (by omega) (fun c7 => ?_) (fun c7 => ?_)
    · refine ev_iloadn_1 i224_25 ?_
      refine ew_iconst i224_26 ?_
      refine ew_icmpeq i224_27 (by omega) (fun c27 => ?_) (fun c27 => ?_)
      · rw [if_neg (by omega), if_pos (by omega), if_neg (by omega), if_pos (by omega)] at hK
        refine ev_aloadn_0 i224_36 ?_
        refine ew_bipush i224_37 (by decide) ?_
        refine ev_virt1 i224_39 g224_39 rfl (by decide +kernel) (Nat.le_of_ble_eq_true rfl) (m_runs hA (by decide) (by omega) (fun J h1 h2 => ?_))
        refine ev_aloadn_0 i224_42 ?_
        refine ew_iconst i224_43 ?_
        refine ev_iloadn_2 i224_44 ?_
        refine ev_virt2 i224_45 g224_45 rfl (by decide +kernel) (Nat.le_of_ble_eq_true rfl) (m_waits0 h2 (hB.co h1) (by simp only [tp]; omega) (by decide) (fun M h3 h4 => ?_))
        refine ev_istoren_3 i224_48 rfl ?_
        refine ev_iloadn_3 i224_49 ?_
        refine ev_aloadn_0 i224_50 ?_
        refine ev_aloadn_0 i224_51 ?_
        refine ew_getI i224_52 g224_52 rfl ((((hB.co h1).co h3).2)) (fun b52 => ?_)
        refine ew_iconst i224_55 ?_
        refine ev_virt2 i224_56 g224_56 rfl (by decide +kernel) (Nat.le_of_ble_eq_true rfl) (m_falls h4 ((hB.co h1).co h3) (by simp only [tp]; omega) bk (fun N h5 h6 => ?_))
        refine ew_isub i224_59 ?_
        refine ev_ireturn i224_60 r224 ?_
        exact hK N (fr_tr (fr_tr h1 h3) h5) h6
      · refine ev_iloadn_1 i224_30 ?_
        refine ew_bipush i224_31 (by decide) ?_
        refine ew_icmpne i224_33 (by omega) (fun c33 => ?_) (fun c33 => ?_)
        · rw [if_neg (by omega), if_neg (by omega), if_neg (by omega), if_neg (by omega)] at hK
          refine ev_aloadn_0 i224_61 ?_
          refine ew_bipush i224_62 (by decide) ?_
          refine ev_virt1 i224_64 g224_64 rfl (by decide +kernel) (Nat.le_of_ble_eq_true rfl) (m_runs hA (by decide) (by omega) (fun J h1 h2 => ?_))
          refine ev_iloadn_2 i224_67 ?_
          refine ev_aloadn_0 i224_68 ?_
          refine ew_getI i224_69 g224_69 rfl (((hB.co h1).1)) (fun b69 => ?_)
          refine ew_ixor i224_72 ?_
          refine ev_ireturn i224_73 r224 ?_
          exact hK J h1 h2
        · rw [if_neg (by omega), if_pos (by omega), if_neg (by omega), if_pos (by omega)] at hK
          refine ev_aloadn_0 i224_36 ?_
          refine ew_bipush i224_37 (by decide) ?_
          refine ev_virt1 i224_39 g224_39 rfl (by decide +kernel) (Nat.le_of_ble_eq_true rfl) (m_runs hA (by decide) (by omega) (fun J h1 h2 => ?_))
          refine ev_aloadn_0 i224_42 ?_
          refine ew_iconst i224_43 ?_
          refine ev_iloadn_2 i224_44 ?_
          refine ev_virt2 i224_45 g224_45 rfl (by decide +kernel) (Nat.le_of_ble_eq_true rfl) (m_waits0 h2 (hB.co h1) (by simp only [tp]; omega) (by decide) (fun M h3 h4 => ?_))
          refine ev_istoren_3 i224_48 rfl ?_
          refine ev_iloadn_3 i224_49 ?_
          refine ev_aloadn_0 i224_50 ?_
          refine ev_aloadn_0 i224_51 ?_
          refine ew_getI i224_52 g224_52 rfl ((((hB.co h1).co h3).2)) (fun b52 => ?_)
          refine ew_iconst i224_55 ?_
          refine ev_virt2 i224_56 g224_56 rfl (by decide +kernel) (Nat.le_of_ble_eq_true rfl) (m_falls h4 ((hB.co h1).co h3) (by simp only [tp]; omega) bk (fun N h5 h6 => ?_))
          refine ew_isub i224_59 ?_
          refine ev_ireturn i224_60 r224 ?_
          exact hK N (fr_tr (fr_tr h1 h3) h5) h6
    · rw [if_pos (by omega), if_pos (by omega)] at hK
      refine ev_aloadn_0 i224_10 ?_
      refine ew_bipush i224_11 (by decide) ?_
      refine ev_virt1 i224_13 g224_13 rfl (by decide +kernel) (Nat.le_of_ble_eq_true rfl) (m_runs hA (by decide) (by omega) (fun J h1 h2 => ?_))
      refine ev_aloadn_0 i224_16 ?_
      refine ew_iconst i224_17 ?_
      refine ev_iloadn_2 i224_18 ?_
      refine ev_virt2 i224_19 g224_19 rfl (by decide +kernel) (Nat.le_of_ble_eq_true rfl) (m_waits0 h2 (hB.co h1) (by simp only [tp]; omega) (by decide) (fun M h3 h4 => ?_))
      refine ew_iconst i224_22 ?_
      refine ew_imul i224_23 ?_
      refine ev_ireturn i224_24 r224 ?_
      exact hK M (fr_tr h1 h3) h4
theorem m_sounds0 (hA : RB I s) (hB : HB I n k0) (hs : s.1 ≤ 180) {k x : Int} (hk : k = 0 ∨ k = 1 ∨ k = 4 ∨ k = 6) (hK : ∀ J, fr frm I J → RB J (tF k0 (tp 10 s)) → K (some (.int (zI (vF n k0 x * 2)))) (J, L, ts_P0 sw, ts_S0)) : ts_Cal X (d + 4) 223 [.ref 72, .int (zI (k)), .int (zI (x))] (I, L, ts_P0 sw, ts_S0) K := by
  have bk := hB.2.2
  refine ev_enter (lv := [.ref 72, .int (zI (k)), .int (zI (x)), .null]) l223 rfl (Nat.le_of_ble_eq_true rfl) ?_
  refine ev_iloadn_1 i223_0 ?_
  refine ew_iconst i223_1 ?_
  refine ew_icmpeq i223_2 (by omega) (fun c2 => ?_) (fun c2 => ?_)
  · exfalso; omega
  · refine ev_iloadn_1 i223_5 ?_
    refine ew_iconst i223_6 ?_
    refine ew_icmpne i223_7 (by omega) (fun c7 => ?_) (fun c7 => ?_)
    · refine ev_iloadn_1 i223_25 ?_
      refine ew_iconst i223_26 ?_
      refine ew_icmpne i223_27 (by omega) (fun c27 => ?_) (fun c27 => ?_)
      · refine ev_iloadn_1 i223_44 ?_
        refine ew_bipush i223_45 (by decide) ?_
        refine ew_icmpne i223_47 (by omega) (fun c47 => ?_) (fun c47 => ?_)
        · refine ev_aloadn_0 i223_75 ?_
          refine ew_bipush i223_76 (by decide) ?_
          refine ev_virt1 i223_78 g223_78 rfl (by decide +kernel) (Nat.le_of_ble_eq_true rfl) (m_runs hA (by decide) (by omega) (fun J h1 h2 => ?_))
          refine ev_aloadn_0 i223_81 ?_
          refine ev_aloadn_0 i223_82 ?_
          refine ew_getI i223_83 g223_83 rfl (((hB.co h1).2)) (fun b83 => ?_)
          refine ev_iloadn_2 i223_86 ?_
          refine ev_virt2 i223_87 g223_87 rfl (by decide +kernel) (Nat.le_of_ble_eq_true rfl) (m_falls h2 (hB.co h1) (by simp only [tp]; omega) bk (fun M h3 h4 => ?_))
          refine ew_iconst i223_90 ?_
          refine ew_imul i223_91 ?_
          refine ev_ireturn i223_92 r223 ?_
          exact hK M (fr_tr h1 h3) h4
        · exfalso; omega
      · exfalso; omega
    · exfalso; omega
theorem m_sounds2 (hA : RB I s) (hB : HB I n k0) (hs : s.1 ≤ 170) {x : Int} (hK : ∀ J, fr frm I J → RB J (tF k0 (tp 10 (tp 30 s))) → K (some (.int (zI (-(vF n k0 x * 2))))) (J, L, ts_P0 sw, ts_S0)) : ts_Cal X (d + 5) 223 [.ref 72, .int (zI (2)), .int (zI (x))] (I, L, ts_P0 sw, ts_S0) K := by
  refine ev_enter (lv := [.ref 72, .int (zI (2)), .int (zI (x)), .null]) l223 rfl (Nat.le_of_ble_eq_true rfl) ?_
  refine ev_iloadn_1 i223_0 ?_
  refine ew_iconst i223_1 ?_
  refine ew_icmpeq i223_2 (by omega) (fun c2 => ?_) (fun c2 => ?_)
  · exfalso; omega
  · refine ev_iloadn_1 i223_5 ?_
    refine ew_iconst i223_6 ?_
    refine ew_icmpne i223_7 (by omega) (fun c7 => ?_) (fun c7 => ?_)
    · refine ev_iloadn_1 i223_25 ?_
      refine ew_iconst i223_26 ?_
      refine ew_icmpne i223_27 (by omega) (fun c27 => ?_) (fun c27 => ?_)
      · exfalso; omega
      · refine ev_aloadn_0 i223_30 ?_
        refine ew_bipush i223_31 (by decide) ?_
        refine ev_virt1 i223_33 g223_33 rfl (by decide +kernel) (Nat.le_of_ble_eq_true rfl) (m_runs hA (by decide) (by omega) (fun J h1 h2 => ?_))
        refine ev_aloadn_0 i223_36 ?_
        refine ew_iconst i223_37 ?_
        refine ev_iloadn_2 i223_38 ?_
        refine ev_virt2 i223_39 g223_39 rfl (by decide +kernel) (Nat.le_of_ble_eq_true rfl) (m_sounds0 h2 (hB.co h1) (by simp only [tp]; omega) (by decide) (fun M h3 h4 => ?_))
        refine ew_ineg i223_42 ?_
        refine ev_ireturn i223_43 r223 ?_
        exact hK M (fr_tr h1 h3) h4
    · exfalso; omega
theorem m_sounds (hA : RB I s) (hB : HB I n k0) (hs : s.1 ≤ 160) {k x : Int} (hk : 0 ≤ k ∧ k ≤ 7) (hK : ∀ J, fr frm I J → RB J (tS k0 k s) → K (some (.int (zI (vS n k0 k x)))) (J, L, ts_P0 sw, ts_S0)) : ts_Cal X (d + 6) 223 [.ref 72, .int (zI (k)), .int (zI (x))] (I, L, ts_P0 sw, ts_S0) K := by
  unfold tS vS at hK
  have bk := hB.2.2
  refine ev_enter (lv := [.ref 72, .int (zI (k)), .int (zI (x)), .null]) l223 rfl (Nat.le_of_ble_eq_true rfl) ?_
  refine ev_iloadn_1 i223_0 ?_
  refine ew_iconst i223_1 ?_
  refine ew_icmpeq i223_2 (by omega) (fun c2 => ?_) (fun c2 => ?_)
  · rw [if_pos (by omega), if_pos (by omega)] at hK
    refine ev_aloadn_0 i223_10 ?_
    refine ew_bipush i223_11 (by decide) ?_
    refine ev_virt1 i223_13 g223_13 rfl (by decide +kernel) (Nat.le_of_ble_eq_true rfl) (m_runs hA (by decide) (by omega) (fun J h1 h2 => ?_))
    refine ev_aloadn_0 i223_16 ?_
    refine ew_iconst i223_17 ?_
    refine ev_iloadn_2 i223_18 ?_
    refine ew_iconst i223_19 ?_
    refine ew_iadd i223_20 ?_
    refine ev_virt2 i223_21 g223_21 rfl (by decide +kernel) (Nat.le_of_ble_eq_true rfl) (m_sounds2 h2 (hB.co h1) (by simp only [tp]; omega) (fun M h3 h4 => ?_))
    refine ev_ireturn i223_24 r223 ?_
    exact hK M (fr_tr h1 h3) h4
  · refine ev_iloadn_1 i223_5 ?_
    refine ew_iconst i223_6 ?_
    refine ew_icmpne i223_7 (by omega) (fun c7 => ?_) (fun c7 => ?_)
    · refine ev_iloadn_1 i223_25 ?_
      refine ew_iconst i223_26 ?_
      refine ew_icmpne i223_27 (by omega) (fun c27 => ?_) (fun c27 => ?_)
      · refine ev_iloadn_1 i223_44 ?_
        refine ew_bipush i223_45 (by decide) ?_
        refine ew_icmpne i223_47 (by omega) (fun c47 => ?_) (fun c47 => ?_)
        · rw [if_neg (by omega), if_neg (by omega), if_neg (by omega), if_neg (by omega), if_neg (by omega), if_neg (by omega)] at hK
          refine ev_aloadn_0 i223_75 ?_
          refine ew_bipush i223_76 (by decide) ?_
          refine ev_virt1 i223_78 g223_78 rfl (by decide +kernel) (Nat.le_of_ble_eq_true rfl) (m_runs hA (by decide) (by omega) (fun J h1 h2 => ?_))
          refine ev_aloadn_0 i223_81 ?_
          refine ev_aloadn_0 i223_82 ?_
          refine ew_getI i223_83 g223_83 rfl (((hB.co h1).2)) (fun b83 => ?_)
          refine ev_iloadn_2 i223_86 ?_
          refine ev_virt2 i223_87 g223_87 rfl (by decide +kernel) (Nat.le_of_ble_eq_true rfl) (m_falls h2 (hB.co h1) (by simp only [tp]; omega) bk (fun M h3 h4 => ?_))
          refine ew_iconst i223_90 ?_
          refine ew_imul i223_91 ?_
          refine ev_ireturn i223_92 r223 ?_
          exact hK M (fr_tr h1 h3) h4
        · rw [if_neg (by omega), if_neg (by omega), if_pos (by omega), if_neg (by omega), if_neg (by omega), if_pos (by omega)] at hK
          refine ev_aloadn_0 i223_50 ?_
          refine ew_bipush i223_51 (by decide) ?_
          refine ev_virt1 i223_53 g223_53 rfl (by decide +kernel) (Nat.le_of_ble_eq_true rfl) (m_runs hA (by decide) (by omega) (fun J h1 h2 => ?_))
          refine ev_aloadn_0 i223_56 ?_
          refine ew_iconst i223_57 ?_
          refine ev_iloadn_2 i223_58 ?_
          refine ev_virt2 i223_59 g223_59 rfl (by decide +kernel) (Nat.le_of_ble_eq_true rfl) (m_sounds0 h2 (hB.co h1) (by simp only [tp]; omega) (by decide) (fun M h3 h4 => ?_))
          refine ev_istoren_3 i223_62 rfl ?_
          refine ev_iloadn_3 i223_63 ?_
          refine ev_aloadn_0 i223_64 ?_
          refine ev_aloadn_0 i223_65 ?_
          refine ew_getI i223_66 g223_66 rfl ((((hB.co h1).co h3).2)) (fun b66 => ?_)
          refine ew_iconst i223_69 ?_
          refine ev_virt2 i223_70 g223_70 rfl (by decide +kernel) (Nat.le_of_ble_eq_true rfl) (m_waits h4 ((hB.co h1).co h3) (by have := tF_r k0 (tp 10 (tp 80 s)); simp only [tp] at *; omega) bk (fun N h5 h6 => ?_))
          refine ew_iadd i223_73 ?_
          refine ev_ireturn i223_74 r223 ?_
          exact hK N (fr_tr (fr_tr h1 h3) h5) h6
      · rw [if_neg (by omega), if_pos (by omega), if_neg (by omega), if_pos (by omega)] at hK
        refine ev_aloadn_0 i223_30 ?_
        refine ew_bipush i223_31 (by decide) ?_
        refine ev_virt1 i223_33 g223_33 rfl (by decide +kernel) (Nat.le_of_ble_eq_true rfl) (m_runs hA (by decide) (by omega) (fun J h1 h2 => ?_))
        refine ev_aloadn_0 i223_36 ?_
        refine ew_iconst i223_37 ?_
        refine ev_iloadn_2 i223_38 ?_
        refine ev_virt2 i223_39 g223_39 rfl (by decide +kernel) (Nat.le_of_ble_eq_true rfl) (m_sounds0 h2 (hB.co h1) (by simp only [tp]; omega) (by decide) (fun M h3 h4 => ?_))
        refine ew_ineg i223_42 ?_
        refine ev_ireturn i223_43 r223 ?_
        exact hK M (fr_tr h1 h3) h4
    · rw [if_pos (by omega), if_pos (by omega)] at hK
      refine ev_aloadn_0 i223_10 ?_
      refine ew_bipush i223_11 (by decide) ?_
      refine ev_virt1 i223_13 g223_13 rfl (by decide +kernel) (Nat.le_of_ble_eq_true rfl) (m_runs hA (by decide) (by omega) (fun J h1 h2 => ?_))
      refine ev_aloadn_0 i223_16 ?_
      refine ew_iconst i223_17 ?_
      refine ev_iloadn_2 i223_18 ?_
      refine ew_iconst i223_19 ?_
      refine ew_iadd i223_20 ?_
      refine ev_virt2 i223_21 g223_21 rfl (by decide +kernel) (Nat.le_of_ble_eq_true rfl) (m_sounds2 h2 (hB.co h1) (by simp only [tp]; omega) (fun M h3 h4 => ?_))
      refine ev_ireturn i223_24 r223 ?_
      exact hK M (fr_tr h1 h3) h4
theorem m_tells0 (hA : RB I s) (hB : HB I n k0) (hs : s.1 ≤ 150) {k x : Int} (hk : ¬ k = 5 ∧ ¬ k = 7 ∧ 0 ≤ k ∧ k ≤ 6) (hK : ∀ J, fr frm I J → RB J (tW k0 k0 (tS k0 k0 (tp 2 s))) → K (some (.int (zI (vS n k0 k0 x - vW n k0 k0 1)))) (J, L, ts_P0 sw, ts_S0)) : ts_Cal X (d + 7) 225 [.ref 72, .int (zI (k)), .int (zI (x))] (I, L, ts_P0 sw, ts_S0) K := by
  have bk := hB.2.2
  refine ev_enter (lv := [.ref 72, .int (zI (k)), .int (zI (x)), .null]) l225 rfl (Nat.le_of_ble_eq_true rfl) ?_
  refine ev_iloadn_1 i225_0 ?_
  refine ew_iconst i225_1 ?_
  refine ew_icmpne i225_2 (by omega) (fun c2 => ?_) (fun c2 => ?_)
  · refine ev_iloadn_1 i225_20 ?_
    refine ew_bipush i225_21 (by decide) ?_
    refine ew_icmpne i225_23 (by omega) (fun c23 => ?_) (fun c23 => ?_)
    · refine ev_aloadn_0 i225_41 ?_
      refine ew_iconst i225_42 ?_
      refine ev_virt1 i225_43 g225_43 rfl (by decide +kernel) (Nat.le_of_ble_eq_true rfl) (m_runs hA (by decide) (by omega) (fun J h1 h2 => ?_))
      refine ev_aloadn_0 i225_46 ?_
      refine ev_aloadn_0 i225_47 ?_
      refine ew_getI i225_48 g225_48 rfl (((hB.co h1).2)) (fun b48 => ?_)
      refine ev_iloadn_2 i225_51 ?_
      refine ev_virt2 i225_52 g225_52 rfl (by decide +kernel) (Nat.le_of_ble_eq_true rfl) (m_sounds h2 (hB.co h1) (by simp only [tp]; omega) bk (fun M h3 h4 => ?_))
      refine ev_istoren_3 i225_55 rfl ?_
      refine ev_iloadn_3 i225_56 ?_
      refine ev_aloadn_0 i225_57 ?_
      refine ev_aloadn_0 i225_58 ?_
      refine ew_getI i225_59 g225_59 rfl ((((hB.co h1).co h3).2)) (fun b59 => ?_)
      refine ew_iconst i225_62 ?_
      refine ev_virt2 i225_63 g225_63 rfl (by decide +kernel) (Nat.le_of_ble_eq_true rfl) (m_waits h4 ((hB.co h1).co h3) (by have := tS_r k0 k0 (tp 2 s); simp only [tp] at *; omega) bk (fun N h5 h6 => ?_))
      refine ew_isub i225_66 ?_
      refine ev_ireturn i225_67 r225 ?_
      exact hK N (fr_tr (fr_tr h1 h3) h5) h6
    · exfalso; omega
  · exfalso; omega
theorem m_tells (hA : RB I s) (hB : HB I n k0) (hs : s.1 ≤ 140) {k x : Int} (hk : 0 ≤ k ∧ k ≤ 7) (hK : ∀ J, fr frm I J → RB J (tT k0 k s) → K (some (.int (zI (vT n k0 k x)))) (J, L, ts_P0 sw, ts_S0)) : ts_Cal X (d + 8) 225 [.ref 72, .int (zI (k)), .int (zI (x))] (I, L, ts_P0 sw, ts_S0) K := by
  unfold tT vT at hK
  have bk := hB.2.2
  refine ev_enter (lv := [.ref 72, .int (zI (k)), .int (zI (x)), .null]) l225 rfl (Nat.le_of_ble_eq_true rfl) ?_
  refine ev_iloadn_1 i225_0 ?_
  refine ew_iconst i225_1 ?_
  refine ew_icmpne i225_2 (by omega) (fun c2 => ?_) (fun c2 => ?_)
  · refine ev_iloadn_1 i225_20 ?_
    refine ew_bipush i225_21 (by decide) ?_
    refine ew_icmpne i225_23 (by omega) (fun c23 => ?_) (fun c23 => ?_)
    · rw [if_neg (by omega), if_neg (by omega), if_neg (by omega), if_neg (by omega)] at hK
      refine ev_aloadn_0 i225_41 ?_
      refine ew_iconst i225_42 ?_
      refine ev_virt1 i225_43 g225_43 rfl (by decide +kernel) (Nat.le_of_ble_eq_true rfl) (m_runs hA (by decide) (by omega) (fun J h1 h2 => ?_))
      refine ev_aloadn_0 i225_46 ?_
      refine ev_aloadn_0 i225_47 ?_
      refine ew_getI i225_48 g225_48 rfl (((hB.co h1).2)) (fun b48 => ?_)
      refine ev_iloadn_2 i225_51 ?_
      refine ev_virt2 i225_52 g225_52 rfl (by decide +kernel) (Nat.le_of_ble_eq_true rfl) (m_sounds h2 (hB.co h1) (by simp only [tp]; omega) bk (fun M h3 h4 => ?_))
      refine ev_istoren_3 i225_55 rfl ?_
      refine ev_iloadn_3 i225_56 ?_
      refine ev_aloadn_0 i225_57 ?_
      refine ev_aloadn_0 i225_58 ?_
      refine ew_getI i225_59 g225_59 rfl ((((hB.co h1).co h3).2)) (fun b59 => ?_)
      refine ew_iconst i225_62 ?_
      refine ev_virt2 i225_63 g225_63 rfl (by decide +kernel) (Nat.le_of_ble_eq_true rfl) (m_waits h4 ((hB.co h1).co h3) (by have := tS_r k0 k0 (tp 2 s); simp only [tp] at *; omega) bk (fun N h5 h6 => ?_))
      refine ew_isub i225_66 ?_
      refine ev_ireturn i225_67 r225 ?_
      exact hK N (fr_tr (fr_tr h1 h3) h5) h6
    · rw [if_neg (by omega), if_pos (by omega), if_neg (by omega), if_pos (by omega)] at hK
      refine ev_aloadn_0 i225_26 ?_
      refine ew_bipush i225_27 (by decide) ?_
      refine ev_virt1 i225_29 g225_29 rfl (by decide +kernel) (Nat.le_of_ble_eq_true rfl) (m_runs hA (by decide) (by omega) (fun J h1 h2 => ?_))
      refine ev_aloadn_0 i225_32 ?_
      refine ew_iconst i225_33 ?_
      refine ev_iloadn_2 i225_34 ?_
      refine ev_virt2 i225_35 g225_35 rfl (by decide +kernel) (Nat.le_of_ble_eq_true rfl) (m_tells0 h2 (hB.co h1) (by simp only [tp]; omega) (by decide) (fun M h3 h4 => ?_))
      refine ew_iconst i225_38 ?_
      refine ew_isub i225_39 ?_
      refine ev_ireturn i225_40 r225 ?_
      exact hK M (fr_tr h1 h3) h4
  · rw [if_pos (by omega), if_pos (by omega)] at hK
    refine ev_aloadn_0 i225_5 ?_
    refine ew_bipush i225_6 (by decide) ?_
    refine ev_virt1 i225_8 g225_8 rfl (by decide +kernel) (Nat.le_of_ble_eq_true rfl) (m_runs hA (by decide) (by omega) (fun J h1 h2 => ?_))
    refine ev_aloadn_0 i225_11 ?_
    refine ew_iconst i225_12 ?_
    refine ev_iloadn_2 i225_13 ?_
    refine ev_virt2 i225_14 g225_14 rfl (by decide +kernel) (Nat.le_of_ble_eq_true rfl) (m_tells0 h2 (hB.co h1) (by simp only [tp]; omega) (by decide) (fun M h3 h4 => ?_))
    refine ew_iconst i225_17 ?_
    refine ew_ixor i225_18 ?_
    refine ev_ireturn i225_19 r225 ?_
    exact hK M (fr_tr h1 h3) h4
end AC
