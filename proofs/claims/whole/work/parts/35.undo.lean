theorem i23_0 : ts_ins 23 0 = some (.aload_n 0, 1, 0) := by decide +kernel
theorem i23_1 : ts_ins 23 1 = some (.iload_n 1, 2, 0) := by decide +kernel
theorem i23_2 : ts_ins 23 2 = some (.iload_n 2, 3, 0) := by decide +kernel
theorem i23_3 : ts_ins 23 3 = some (.invokevirtual 75, 6, 0) := by decide +kernel
theorem g23_3 : ts_cal (ts_mc 23) 75 = some (0, 21, 2) := by decide +kernel
theorem i23_6 : ts_ins 23 6 = some (.ifCond .ne 4, 9, 10) := by decide +kernel
theorem i23_9 : ts_ins 23 9 = some (.return_, 10, 0) := by decide +kernel
theorem i23_10 : ts_ins 23 10 = some (.iload_n 2, 11, 0) := by decide +kernel
theorem i23_11 : ts_ins 23 11 = some (.bipush 6, 13, 0) := by decide +kernel
theorem i23_13 : ts_ins 23 13 = some (.if_icmp .ne 11, 16, 24) := by decide +kernel
theorem i23_16 : ts_ins 23 16 = some (.aload_n 0, 17, 0) := by decide +kernel
theorem i23_17 : ts_ins 23 17 = some (.iload_n 3, 18, 0) := by decide +kernel
theorem i23_18 : ts_ins 23 18 = some (.putfield 45, 21, 0) := by decide +kernel
theorem g23_18 : ts_fmm 23 45 = some (3, 10, 0, false) := by decide +kernel
theorem i23_21 : ts_ins 23 21 = some (.goto 35, 24, 56) := by decide +kernel
theorem i23_24 : ts_ins 23 24 = some (.iload_n 2, 25, 0) := by decide +kernel
theorem i23_25 : ts_ins 23 25 = some (.bipush 7, 27, 0) := by decide +kernel
theorem i23_27 : ts_ins 23 27 = some (.if_icmp .ne 21, 30, 48) := by decide +kernel
theorem i23_30 : ts_ins 23 30 = some (.aload_n 0, 31, 0) := by decide +kernel
theorem i23_31 : ts_ins 23 31 = some (.getfield 32, 34, 0) := by decide +kernel
theorem g23_31 : ts_fm 23 32 = some (3, 6, 2) := by decide +kernel
theorem i23_34 : ts_ins 23 34 = some (.iload_n 1, 35, 0) := by decide +kernel
theorem i23_35 : ts_ins 23 35 = some (.bipush 10, 37, 0) := by decide +kernel
theorem i23_37 : ts_ins 23 37 = some (.idiv, 38, 0) := by decide +kernel
theorem i23_38 : ts_ins 23 38 = some (.aaload, 39, 0) := by decide +kernel
theorem i23_39 : ts_ins 23 39 = some (.iload_n 1, 40, 0) := by decide +kernel
theorem i23_40 : ts_ins 23 40 = some (.bipush 10, 42, 0) := by decide +kernel
theorem i23_42 : ts_ins 23 42 = some (.irem, 43, 0) := by decide +kernel
theorem i23_43 : ts_ins 23 43 = some (.iload_n 3, 44, 0) := by decide +kernel
theorem i23_44 : ts_ins 23 44 = some (.iastore, 45, 0) := by decide +kernel
theorem i23_45 : ts_ins 23 45 = some (.goto 11, 48, 56) := by decide +kernel
theorem i23_48 : ts_ins 23 48 = some (.aload_n 0, 49, 0) := by decide +kernel
theorem i23_49 : ts_ins 23 49 = some (.iload_n 2, 50, 0) := by decide +kernel
theorem i23_50 : ts_ins 23 50 = some (.invokevirtual 79, 53, 0) := by decide +kernel
theorem g23_50 : ts_cal (ts_mc 23) 79 = some (0, 24, 1) := by decide +kernel
theorem i23_53 : ts_ins 23 53 = some (.iload_n 1, 54, 0) := by decide +kernel
theorem i23_54 : ts_ins 23 54 = some (.iload_n 3, 55, 0) := by decide +kernel
theorem i23_55 : ts_ins 23 55 = some (.iastore, 56, 0) := by decide +kernel
theorem i23_56 : ts_ins 23 56 = some (.return_, 57, 0) := by decide +kernel
theorem r23 : ts_rt 23 = (none, 0, 0) := by decide +kernel
theorem l23 : ts_ml 23 = 4 := by decide +kernel
theorem i96_0 : ts_ins 96 0 = some (.aload_n 0, 1, 0) := by decide +kernel
theorem i96_1 : ts_ins 96 1 = some (.getfield 10, 4, 0) := by decide +kernel
theorem g96_1 : ts_fm 96 10 = some (11, 0, 2) := by decide +kernel
theorem i96_4 : ts_ins 96 4 = some (.iload_n 1, 5, 0) := by decide +kernel
theorem i96_5 : ts_ins 96 5 = some (.iload_n 2, 6, 0) := by decide +kernel
theorem i96_6 : ts_ins 96 6 = some (.invokevirtual 111, 9, 0) := by decide +kernel
theorem g96_6 : ts_cal (ts_mc 96) 111 = some (0, 21, 2) := by decide +kernel
theorem i96_9 : ts_ins 96 9 = some (.ifCond .eq 16, 12, 25) := by decide +kernel
theorem i96_12 : ts_ins 96 12 = some (.iload_n 3, 13, 0) := by decide +kernel
theorem i96_13 : ts_ins 96 13 = some (.ifCond .lt 12, 16, 25) := by decide +kernel
theorem i96_16 : ts_ins 96 16 = some (.iload_n 3, 17, 0) := by decide +kernel
theorem i96_17 : ts_ins 96 17 = some (.getstatic 114, 20, 0) := by decide +kernel
theorem g96_17 : ts_sg (ts_mc 96) 114 = some (.ref 1001) := by decide +kernel
theorem i96_20 : ts_ins 96 20 = some (.iload_n 2, 21, 0) := by decide +kernel
theorem i96_21 : ts_ins 96 21 = some (.iaload, 22, 0) := by decide +kernel
theorem i96_22 : ts_ins 96 22 = some (.if_icmp .le 5, 25, 27) := by decide +kernel
theorem i96_25 : ts_ins 96 25 = some (.iconst (-1), 26, 0) := by decide +kernel
theorem i96_26 : ts_ins 96 26 = some (.ireturn, 27, 0) := by decide +kernel
theorem i96_27 : ts_ins 96 27 = some (.aload_n 0, 28, 0) := by decide +kernel
theorem i96_28 : ts_ins 96 28 = some (.getfield 10, 31, 0) := by decide +kernel
theorem g96_28 : ts_fm 96 10 = some (11, 0, 2) := by decide +kernel
theorem i96_31 : ts_ins 96 31 = some (.iload_n 1, 32, 0) := by decide +kernel
theorem i96_32 : ts_ins 96 32 = some (.iload_n 2, 33, 0) := by decide +kernel
theorem i96_33 : ts_ins 96 33 = some (.invokevirtual 117, 36, 0) := by decide +kernel
theorem g96_33 : ts_cal (ts_mc 96) 117 = some (0, 22, 2) := by decide +kernel
theorem i96_36 : ts_ins 96 36 = some (.istore 4, 38, 0) := by decide +kernel
theorem i96_38 : ts_ins 96 38 = some (.iload 4, 40, 0) := by decide +kernel
theorem i96_40 : ts_ins 96 40 = some (.iload_n 3, 41, 0) := by decide +kernel
theorem i96_41 : ts_ins 96 41 = some (.if_icmp .eq 25, 44, 66) := by decide +kernel
theorem i96_44 : ts_ins 96 44 = some (.aload_n 0, 45, 0) := by decide +kernel
theorem i96_45 : ts_ins 96 45 = some (.getfield 74, 48, 0) := by decide +kernel
theorem g96_45 : ts_fm 96 74 = some (11, 10, 2) := by decide +kernel
theorem i96_48 : ts_ins 96 48 = some (.iload_n 1, 49, 0) := by decide +kernel
theorem i96_49 : ts_ins 96 49 = some (.iload_n 2, 50, 0) := by decide +kernel
theorem i96_50 : ts_ins 96 50 = some (.iload 4, 52, 0) := by decide +kernel
theorem i96_52 : ts_ins 96 52 = some (.iload_n 3, 53, 0) := by decide +kernel
theorem i96_53 : ts_ins 96 53 = some (.invokevirtual 121, 56, 0) := by decide +kernel
theorem g96_53 : ts_cal (ts_mc 96) 121 = some (0, 1, 4) := by decide +kernel
theorem i96_56 : ts_ins 96 56 = some (.aload_n 0, 57, 0) := by decide +kernel
theorem i96_57 : ts_ins 96 57 = some (.getfield 10, 60, 0) := by decide +kernel
theorem g96_57 : ts_fm 96 10 = some (11, 0, 2) := by decide +kernel
theorem i96_60 : ts_ins 96 60 = some (.iload_n 1, 61, 0) := by decide +kernel
theorem i96_61 : ts_ins 96 61 = some (.iload_n 2, 62, 0) := by decide +kernel
theorem i96_62 : ts_ins 96 62 = some (.iload_n 3, 63, 0) := by decide +kernel
theorem i96_63 : ts_ins 96 63 = some (.invokevirtual 125, 66, 0) := by decide +kernel
theorem g96_63 : ts_cal (ts_mc 96) 125 = some (0, 23, 3) := by decide +kernel
theorem i96_66 : ts_ins 96 66 = some (.iload 4, 68, 0) := by decide +kernel
theorem i96_68 : ts_ins 96 68 = some (.ireturn, 69, 0) := by decide +kernel
theorem r96 : ts_rt 96 = ((some .int), 0, 0) := by decide +kernel
theorem l96 : ts_ml 96 = 5 := by decide +kernel
theorem i125_0 : ts_ins 125 0 = some (.aload_n 0, 1, 0) := by decide +kernel
theorem i125_1 : ts_ins 125 1 = some (.getfield 74, 4, 0) := by decide +kernel
theorem g125_1 : ts_fm 125 74 = some (11, 10, 2) := by decide +kernel
theorem i125_4 : ts_ins 125 4 = some (.getfield 326, 7, 0) := by decide +kernel
theorem g125_4 : ts_fm 125 326 = some (0, 4, 0) := by decide +kernel
theorem i125_7 : ts_ins 125 7 = some (.ifCond .ne 6, 10, 13) := by decide +kernel
theorem i125_10 : ts_ins 125 10 = some (.bipush (-5), 12, 0) := by decide +kernel
theorem i125_12 : ts_ins 125 12 = some (.ireturn, 13, 0) := by decide +kernel
theorem i125_13 : ts_ins 125 13 = some (.aload_n 0, 14, 0) := by decide +kernel
theorem i125_14 : ts_ins 125 14 = some (.getfield 74, 17, 0) := by decide +kernel
theorem g125_14 : ts_fm 125 74 = some (11, 10, 2) := by decide +kernel
theorem i125_17 : ts_ins 125 17 = some (.dup, 18, 0) := by decide +kernel
theorem i125_18 : ts_ins 125 18 = some (.getfield 326, 21, 0) := by decide +kernel
theorem g125_18 : ts_fm 125 326 = some (0, 4, 0) := by decide +kernel
theorem i125_21 : ts_ins 125 21 = some (.iconst 1, 22, 0) := by decide +kernel
theorem i125_22 : ts_ins 125 22 = some (.isub, 23, 0) := by decide +kernel
theorem i125_23 : ts_ins 125 23 = some (.putfield 326, 26, 0) := by decide +kernel
theorem g125_23 : ts_fmm 125 326 = some (0, 4, 0, false) := by decide +kernel
theorem i125_26 : ts_ins 125 26 = some (.aload_n 0, 27, 0) := by decide +kernel
theorem i125_27 : ts_ins 125 27 = some (.getfield 74, 30, 0) := by decide +kernel
theorem g125_27 : ts_fm 125 74 = some (11, 10, 2) := by decide +kernel
theorem i125_30 : ts_ins 125 30 = some (.getfield 326, 33, 0) := by decide +kernel
theorem g125_30 : ts_fm 125 326 = some (0, 4, 0) := by decide +kernel
theorem i125_33 : ts_ins 125 33 = some (.istore_n 1, 34, 0) := by decide +kernel
theorem i125_34 : ts_ins 125 34 = some (.aload_n 0, 35, 0) := by decide +kernel
theorem i125_35 : ts_ins 125 35 = some (.getfield 10, 38, 0) := by decide +kernel
theorem g125_35 : ts_fm 125 10 = some (11, 0, 2) := by decide +kernel
theorem i125_38 : ts_ins 125 38 = some (.aload_n 0, 39, 0) := by decide +kernel
theorem i125_39 : ts_ins 125 39 = some (.getfield 74, 42, 0) := by decide +kernel
theorem g125_39 : ts_fm 125 74 = some (11, 10, 2) := by decide +kernel
theorem i125_42 : ts_ins 125 42 = some (.getfield 329, 45, 0) := by decide +kernel
theorem g125_42 : ts_fm 125 329 = some (0, 0, 2) := by decide +kernel
theorem i125_45 : ts_ins 125 45 = some (.iload_n 1, 46, 0) := by decide +kernel
theorem i125_46 : ts_ins 125 46 = some (.iaload, 47, 0) := by decide +kernel
theorem i125_47 : ts_ins 125 47 = some (.aload_n 0, 48, 0) := by decide +kernel
theorem i125_48 : ts_ins 125 48 = some (.getfield 74, 51, 0) := by decide +kernel
theorem g125_48 : ts_fm 125 74 = some (11, 10, 2) := by decide +kernel
theorem i125_51 : ts_ins 125 51 = some (.getfield 330, 54, 0) := by decide +kernel
theorem g125_51 : ts_fm 125 330 = some (0, 1, 2) := by decide +kernel
theorem i125_54 : ts_ins 125 54 = some (.iload_n 1, 55, 0) := by decide +kernel
theorem i125_55 : ts_ins 125 55 = some (.iaload, 56, 0) := by decide +kernel
theorem i125_56 : ts_ins 125 56 = some (.aload_n 0, 57, 0) := by decide +kernel
theorem i125_57 : ts_ins 125 57 = some (.getfield 74, 60, 0) := by decide +kernel
theorem g125_57 : ts_fm 125 74 = some (11, 10, 2) := by decide +kernel
theorem i125_60 : ts_ins 125 60 = some (.getfield 333, 63, 0) := by decide +kernel
theorem g125_60 : ts_fm 125 333 = some (0, 2, 2) := by decide +kernel
theorem i125_63 : ts_ins 125 63 = some (.iload_n 1, 64, 0) := by decide +kernel
theorem i125_64 : ts_ins 125 64 = some (.iaload, 65, 0) := by decide +kernel
theorem i125_65 : ts_ins 125 65 = some (.invokevirtual 125, 68, 0) := by decide +kernel
theorem g125_65 : ts_cal (ts_mc 125) 125 = some (0, 23, 3) := by decide +kernel
theorem i125_68 : ts_ins 125 68 = some (.aload_n 0, 69, 0) := by decide +kernel
theorem i125_69 : ts_ins 125 69 = some (.getfield 74, 72, 0) := by decide +kernel
theorem g125_69 : ts_fm 125 74 = some (11, 10, 2) := by decide +kernel
theorem i125_72 : ts_ins 125 72 = some (.getfield 326, 75, 0) := by decide +kernel
theorem g125_72 : ts_fm 125 326 = some (0, 4, 0) := by decide +kernel
theorem i125_75 : ts_ins 125 75 = some (.ireturn, 76, 0) := by decide +kernel
theorem r125 : ts_rt 125 = ((some .int), 0, 0) := by decide +kernel
theorem l125 : ts_ml 125 = 2 := by decide +kernel
theorem i126_0 : ts_ins 126 0 = some (.aload_n 0, 1, 0) := by decide +kernel
theorem i126_1 : ts_ins 126 1 = some (.getfield 74, 4, 0) := by decide +kernel
theorem g126_1 : ts_fm 126 74 = some (11, 10, 2) := by decide +kernel
theorem i126_4 : ts_ins 126 4 = some (.getfield 326, 7, 0) := by decide +kernel
theorem g126_4 : ts_fm 126 326 = some (0, 4, 0) := by decide +kernel
theorem i126_7 : ts_ins 126 7 = some (.aload_n 0, 8, 0) := by decide +kernel
theorem i126_8 : ts_ins 126 8 = some (.getfield 74, 11, 0) := by decide +kernel
theorem g126_8 : ts_fm 126 74 = some (11, 10, 2) := by decide +kernel
theorem i126_11 : ts_ins 126 11 = some (.getfield 336, 14, 0) := by decide +kernel
theorem g126_11 : ts_fm 126 336 = some (0, 5, 0) := by decide +kernel
theorem i126_14 : ts_ins 126 14 = some (.if_icmp .lt 6, 17, 20) := by decide +kernel
theorem i126_17 : ts_ins 126 17 = some (.bipush (-5), 19, 0) := by decide +kernel
theorem i126_19 : ts_ins 126 19 = some (.ireturn, 20, 0) := by decide +kernel
theorem i126_20 : ts_ins 126 20 = some (.aload_n 0, 21, 0) := by decide +kernel
theorem i126_21 : ts_ins 126 21 = some (.getfield 74, 24, 0) := by decide +kernel
theorem g126_21 : ts_fm 126 74 = some (11, 10, 2) := by decide +kernel
theorem i126_24 : ts_ins 126 24 = some (.getfield 326, 27, 0) := by decide +kernel
theorem g126_24 : ts_fm 126 326 = some (0, 4, 0) := by decide +kernel
theorem i126_27 : ts_ins 126 27 = some (.istore_n 1, 28, 0) := by decide +kernel
theorem i126_28 : ts_ins 126 28 = some (.aload_n 0, 29, 0) := by decide +kernel
theorem i126_29 : ts_ins 126 29 = some (.getfield 10, 32, 0) := by decide +kernel
theorem g126_29 : ts_fm 126 10 = some (11, 0, 2) := by decide +kernel
theorem i126_32 : ts_ins 126 32 = some (.aload_n 0, 33, 0) := by decide +kernel
theorem i126_33 : ts_ins 126 33 = some (.getfield 74, 36, 0) := by decide +kernel
theorem g126_33 : ts_fm 126 74 = some (11, 10, 2) := by decide +kernel
theorem i126_36 : ts_ins 126 36 = some (.getfield 329, 39, 0) := by decide +kernel
theorem g126_36 : ts_fm 126 329 = some (0, 0, 2) := by decide +kernel
theorem i126_39 : ts_ins 126 39 = some (.iload_n 1, 40, 0) := by decide +kernel
theorem i126_40 : ts_ins 126 40 = some (.iaload, 41, 0) := by decide +kernel
theorem i126_41 : ts_ins 126 41 = some (.aload_n 0, 42, 0) := by decide +kernel
theorem i126_42 : ts_ins 126 42 = some (.getfield 74, 45, 0) := by decide +kernel
theorem g126_42 : ts_fm 126 74 = some (11, 10, 2) := by decide +kernel
theorem i126_45 : ts_ins 126 45 = some (.getfield 330, 48, 0) := by decide +kernel
theorem g126_45 : ts_fm 126 330 = some (0, 1, 2) := by decide +kernel
theorem i126_48 : ts_ins 126 48 = some (.iload_n 1, 49, 0) := by decide +kernel
theorem i126_49 : ts_ins 126 49 = some (.iaload, 50, 0) := by decide +kernel
theorem i126_50 : ts_ins 126 50 = some (.aload_n 0, 51, 0) := by decide +kernel
theorem i126_51 : ts_ins 126 51 = some (.getfield 74, 54, 0) := by decide +kernel
theorem g126_51 : ts_fm 126 74 = some (11, 10, 2) := by decide +kernel
theorem i126_54 : ts_ins 126 54 = some (.getfield 339, 57, 0) := by decide +kernel
theorem g126_54 : ts_fm 126 339 = some (0, 3, 2) := by decide +kernel
theorem i126_57 : ts_ins 126 57 = some (.iload_n 1, 58, 0) := by decide +kernel
theorem i126_58 : ts_ins 126 58 = some (.iaload, 59, 0) := by decide +kernel
theorem i126_59 : ts_ins 126 59 = some (.invokevirtual 125, 62, 0) := by decide +kernel
theorem g126_59 : ts_cal (ts_mc 126) 125 = some (0, 23, 3) := by decide +kernel
theorem i126_62 : ts_ins 126 62 = some (.aload_n 0, 63, 0) := by decide +kernel
theorem i126_63 : ts_ins 126 63 = some (.getfield 74, 66, 0) := by decide +kernel
theorem g126_63 : ts_fm 126 74 = some (11, 10, 2) := by decide +kernel
theorem i126_66 : ts_ins 126 66 = some (.dup, 67, 0) := by decide +kernel
theorem i126_67 : ts_ins 126 67 = some (.getfield 326, 70, 0) := by decide +kernel
theorem g126_67 : ts_fm 126 326 = some (0, 4, 0) := by decide +kernel
theorem i126_70 : ts_ins 126 70 = some (.iconst 1, 71, 0) := by decide +kernel
theorem i126_71 : ts_ins 126 71 = some (.iadd, 72, 0) := by decide +kernel
theorem i126_72 : ts_ins 126 72 = some (.putfield 326, 75, 0) := by decide +kernel
theorem g126_72 : ts_fmm 126 326 = some (0, 4, 0, false) := by decide +kernel
theorem i126_75 : ts_ins 126 75 = some (.aload_n 0, 76, 0) := by decide +kernel
theorem i126_76 : ts_ins 126 76 = some (.getfield 74, 79, 0) := by decide +kernel
theorem g126_76 : ts_fm 126 74 = some (11, 10, 2) := by decide +kernel
theorem i126_79 : ts_ins 126 79 = some (.getfield 336, 82, 0) := by decide +kernel
theorem g126_79 : ts_fm 126 336 = some (0, 5, 0) := by decide +kernel
theorem i126_82 : ts_ins 126 82 = some (.aload_n 0, 83, 0) := by decide +kernel
theorem i126_83 : ts_ins 126 83 = some (.getfield 74, 86, 0) := by decide +kernel
theorem g126_83 : ts_fm 126 74 = some (11, 10, 2) := by decide +kernel
theorem i126_86 : ts_ins 126 86 = some (.getfield 326, 89, 0) := by decide +kernel
theorem g126_86 : ts_fm 126 326 = some (0, 4, 0) := by decide +kernel
theorem i126_89 : ts_ins 126 89 = some (.isub, 90, 0) := by decide +kernel
theorem i126_90 : ts_ins 126 90 = some (.ireturn, 91, 0) := by decide +kernel
theorem r126 : ts_rt 126 = ((some .int), 0, 0) := by decide +kernel
theorem l126 : ts_ml 126 = 2 := by decide +kernel
theorem i145_0 : ts_ins 145 0 = some (.aload_n 0, 1, 0) := by decide +kernel
theorem i145_1 : ts_ins 145 1 = some (.getfield 9, 4, 0) := by decide +kernel
theorem g145_1 : ts_fm 145 9 = some (12, 0, 2) := by decide +kernel
theorem i145_4 : ts_ins 145 4 = some (.iload_n 1, 5, 0) := by decide +kernel
theorem i145_5 : ts_ins 145 5 = some (.iaload, 6, 0) := by decide +kernel
theorem i145_6 : ts_ins 145 6 = some (.istore_n 3, 7, 0) := by decide +kernel
theorem i145_7 : ts_ins 145 7 = some (.iload_n 3, 8, 0) := by decide +kernel
theorem i145_8 : ts_ins 145 8 = some (.iload_n 2, 9, 0) := by decide +kernel
theorem i145_9 : ts_ins 145 9 = some (.if_icmp .ne 5, 12, 14) := by decide +kernel
theorem i145_12 : ts_ins 145 12 = some (.iload_n 3, 13, 0) := by decide +kernel
theorem i145_13 : ts_ins 145 13 = some (.ireturn, 14, 0) := by decide +kernel
theorem i145_14 : ts_ins 145 14 = some (.aload_n 0, 15, 0) := by decide +kernel
theorem i145_15 : ts_ins 145 15 = some (.getfield 87, 18, 0) := by decide +kernel
theorem g145_15 : ts_fm 145 87 = some (12, 5, 0) := by decide +kernel
theorem i145_18 : ts_ins 145 18 = some (.bipush 40, 20, 0) := by decide +kernel
theorem i145_20 : ts_ins 145 20 = some (.if_icmp .ne 77, 23, 97) := by decide +kernel
theorem i145_23 : ts_ins 145 23 = some (.iconst 1, 24, 0) := by decide +kernel
theorem i145_24 : ts_ins 145 24 = some (.istore 4, 26, 0) := by decide +kernel
theorem i145_26 : ts_ins 145 26 = some (.iload 4, 28, 0) := by decide +kernel
theorem i145_28 : ts_ins 145 28 = some (.bipush 40, 30, 0) := by decide +kernel
theorem i145_30 : ts_ins 145 30 = some (.if_icmp .ge 57, 33, 87) := by decide +kernel
theorem i145_33 : ts_ins 145 33 = some (.aload_n 0, 34, 0) := by decide +kernel
theorem i145_34 : ts_ins 145 34 = some (.getfield 13, 37, 0) := by decide +kernel
theorem g145_34 : ts_fm 145 13 = some (12, 1, 2) := by decide +kernel
theorem i145_37 : ts_ins 145 37 = some (.iload 4, 39, 0) := by decide +kernel
theorem i145_39 : ts_ins 145 39 = some (.iconst 1, 40, 0) := by decide +kernel
theorem i145_40 : ts_ins 145 40 = some (.isub, 41, 0) := by decide +kernel
theorem i145_41 : ts_ins 145 41 = some (.aload_n 0, 42, 0) := by decide +kernel
theorem i145_42 : ts_ins 145 42 = some (.getfield 13, 45, 0) := by decide +kernel
theorem g145_42 : ts_fm 145 13 = some (12, 1, 2) := by decide +kernel
theorem i145_45 : ts_ins 145 45 = some (.iload 4, 47, 0) := by decide +kernel
theorem i145_47 : ts_ins 145 47 = some (.iaload, 48, 0) := by decide +kernel
theorem i145_48 : ts_ins 145 48 = some (.iastore, 49, 0) := by decide +kernel
theorem i145_49 : ts_ins 145 49 = some (.aload_n 0, 50, 0) := by decide +kernel
theorem i145_50 : ts_ins 145 50 = some (.getfield 16, 53, 0) := by decide +kernel
theorem g145_50 : ts_fm 145 16 = some (12, 2, 2) := by decide +kernel
theorem i145_53 : ts_ins 145 53 = some (.iload 4, 55, 0) := by decide +kernel
theorem i145_55 : ts_ins 145 55 = some (.iconst 1, 56, 0) := by decide +kernel
theorem i145_56 : ts_ins 145 56 = some (.isub, 57, 0) := by decide +kernel
theorem i145_57 : ts_ins 145 57 = some (.aload_n 0, 58, 0) := by decide +kernel
theorem i145_58 : ts_ins 145 58 = some (.getfield 16, 61, 0) := by decide +kernel
theorem g145_58 : ts_fm 145 16 = some (12, 2, 2) := by decide +kernel
theorem i145_61 : ts_ins 145 61 = some (.iload 4, 63, 0) := by decide +kernel
theorem i145_63 : ts_ins 145 63 = some (.iaload, 64, 0) := by decide +kernel
theorem i145_64 : ts_ins 145 64 = some (.iastore, 65, 0) := by decide +kernel
theorem i145_65 : ts_ins 145 65 = some (.aload_n 0, 66, 0) := by decide +kernel
theorem i145_66 : ts_ins 145 66 = some (.getfield 19, 69, 0) := by decide +kernel
theorem g145_66 : ts_fm 145 19 = some (12, 3, 2) := by decide +kernel
theorem i145_69 : ts_ins 145 69 = some (.iload 4, 71, 0) := by decide +kernel
theorem i145_71 : ts_ins 145 71 = some (.iconst 1, 72, 0) := by decide +kernel
theorem i145_72 : ts_ins 145 72 = some (.isub, 73, 0) := by decide +kernel
theorem i145_73 : ts_ins 145 73 = some (.aload_n 0, 74, 0) := by decide +kernel
theorem i145_74 : ts_ins 145 74 = some (.getfield 19, 77, 0) := by decide +kernel
theorem g145_74 : ts_fm 145 19 = some (12, 3, 2) := by decide +kernel
theorem i145_77 : ts_ins 145 77 = some (.iload 4, 79, 0) := by decide +kernel
theorem i145_79 : ts_ins 145 79 = some (.iaload, 80, 0) := by decide +kernel
theorem i145_80 : ts_ins 145 80 = some (.iastore, 81, 0) := by decide +kernel
theorem i145_81 : ts_ins 145 81 = some (.iinc 4 1, 84, 0) := by decide +kernel
theorem i145_84 : ts_ins 145 84 = some (.goto (-58), 87, 26) := by decide +kernel
theorem i145_87 : ts_ins 145 87 = some (.aload_n 0, 88, 0) := by decide +kernel
theorem i145_88 : ts_ins 145 88 = some (.dup, 89, 0) := by decide +kernel
theorem i145_89 : ts_ins 145 89 = some (.getfield 87, 92, 0) := by decide +kernel
theorem g145_89 : ts_fm 145 87 = some (12, 5, 0) := by decide +kernel
theorem i145_92 : ts_ins 145 92 = some (.iconst 1, 93, 0) := by decide +kernel
theorem i145_93 : ts_ins 145 93 = some (.isub, 94, 0) := by decide +kernel
theorem i145_94 : ts_ins 145 94 = some (.putfield 87, 97, 0) := by decide +kernel
theorem g145_94 : ts_fmm 145 87 = some (12, 5, 0, false) := by decide +kernel
theorem i145_97 : ts_ins 145 97 = some (.aload_n 0, 98, 0) := by decide +kernel
theorem i145_98 : ts_ins 145 98 = some (.getfield 13, 101, 0) := by decide +kernel
theorem g145_98 : ts_fm 145 13 = some (12, 1, 2) := by decide +kernel
theorem i145_101 : ts_ins 145 101 = some (.aload_n 0, 102, 0) := by decide +kernel
theorem i145_102 : ts_ins 145 102 = some (.getfield 87, 105, 0) := by decide +kernel
theorem g145_102 : ts_fm 145 87 = some (12, 5, 0) := by decide +kernel
theorem i145_105 : ts_ins 145 105 = some (.iload_n 1, 106, 0) := by decide +kernel
theorem i145_106 : ts_ins 145 106 = some (.iastore, 107, 0) := by decide +kernel
theorem i145_107 : ts_ins 145 107 = some (.aload_n 0, 108, 0) := by decide +kernel
theorem i145_108 : ts_ins 145 108 = some (.getfield 16, 111, 0) := by decide +kernel
theorem g145_108 : ts_fm 145 16 = some (12, 2, 2) := by decide +kernel
theorem i145_111 : ts_ins 145 111 = some (.aload_n 0, 112, 0) := by decide +kernel
theorem i145_112 : ts_ins 145 112 = some (.getfield 87, 115, 0) := by decide +kernel
theorem g145_112 : ts_fm 145 87 = some (12, 5, 0) := by decide +kernel
theorem i145_115 : ts_ins 145 115 = some (.iload_n 3, 116, 0) := by decide +kernel
theorem i145_116 : ts_ins 145 116 = some (.iastore, 117, 0) := by decide +kernel
theorem i145_117 : ts_ins 145 117 = some (.aload_n 0, 118, 0) := by decide +kernel
theorem i145_118 : ts_ins 145 118 = some (.getfield 19, 121, 0) := by decide +kernel
theorem g145_118 : ts_fm 145 19 = some (12, 3, 2) := by decide +kernel
theorem i145_121 : ts_ins 145 121 = some (.aload_n 0, 122, 0) := by decide +kernel
theorem i145_122 : ts_ins 145 122 = some (.getfield 87, 125, 0) := by decide +kernel
theorem g145_122 : ts_fm 145 87 = some (12, 5, 0) := by decide +kernel
theorem i145_125 : ts_ins 145 125 = some (.iload_n 2, 126, 0) := by decide +kernel
theorem i145_126 : ts_ins 145 126 = some (.iastore, 127, 0) := by decide +kernel
theorem i145_127 : ts_ins 145 127 = some (.aload_n 0, 128, 0) := by decide +kernel
theorem i145_128 : ts_ins 145 128 = some (.dup, 129, 0) := by decide +kernel
theorem i145_129 : ts_ins 145 129 = some (.getfield 87, 132, 0) := by decide +kernel
theorem g145_129 : ts_fm 145 87 = some (12, 5, 0) := by decide +kernel
theorem i145_132 : ts_ins 145 132 = some (.iconst 1, 133, 0) := by decide +kernel
theorem i145_133 : ts_ins 145 133 = some (.iadd, 134, 0) := by decide +kernel
theorem i145_134 : ts_ins 145 134 = some (.putfield 87, 137, 0) := by decide +kernel
theorem g145_134 : ts_fmm 145 87 = some (12, 5, 0, false) := by decide +kernel
theorem i145_137 : ts_ins 145 137 = some (.aload_n 0, 138, 0) := by decide +kernel
theorem i145_138 : ts_ins 145 138 = some (.aload_n 0, 139, 0) := by decide +kernel
theorem i145_139 : ts_ins 145 139 = some (.getfield 87, 142, 0) := by decide +kernel
theorem g145_139 : ts_fm 145 87 = some (12, 5, 0) := by decide +kernel
theorem i145_142 : ts_ins 145 142 = some (.putfield 90, 145, 0) := by decide +kernel
theorem g145_142 : ts_fmm 145 90 = some (12, 4, 0, false) := by decide +kernel
theorem i145_145 : ts_ins 145 145 = some (.aload_n 0, 146, 0) := by decide +kernel
theorem i145_146 : ts_ins 145 146 = some (.getfield 9, 149, 0) := by decide +kernel
theorem g145_146 : ts_fm 145 9 = some (12, 0, 2) := by decide +kernel
theorem i145_149 : ts_ins 145 149 = some (.iload_n 1, 150, 0) := by decide +kernel
theorem i145_150 : ts_ins 145 150 = some (.iload_n 2, 151, 0) := by decide +kernel
theorem i145_151 : ts_ins 145 151 = some (.iastore, 152, 0) := by decide +kernel
theorem i145_152 : ts_ins 145 152 = some (.iload_n 3, 153, 0) := by decide +kernel
theorem i145_153 : ts_ins 145 153 = some (.ireturn, 154, 0) := by decide +kernel
theorem r145 : ts_rt 145 = ((some .int), 0, 0) := by decide +kernel
theorem l145 : ts_ml 145 = 5 := by decide +kernel
theorem i157_0 : ts_ins 157 0 = some (.aload_n 0, 1, 0) := by decide +kernel
theorem i157_1 : ts_ins 157 1 = some (.iload_n 1, 2, 0) := by decide +kernel
theorem i157_2 : ts_ins 157 2 = some (.iload_n 2, 3, 0) := by decide +kernel
theorem i157_3 : ts_ins 157 3 = some (.invokevirtual 134, 6, 0) := by decide +kernel
theorem g157_3 : ts_cal (ts_mc 157) 134 = some (0, 155, 2) := by decide +kernel
theorem i157_6 : ts_ins 157 6 = some (.istore 4, 8, 0) := by decide +kernel
theorem i157_8 : ts_ins 157 8 = some (.iload 4, 10, 0) := by decide +kernel
theorem i157_10 : ts_ins 157 10 = some (.ifCond .lt 27, 13, 37) := by decide +kernel
theorem i157_13 : ts_ins 157 13 = some (.iload_n 3, 14, 0) := by decide +kernel
theorem i157_14 : ts_ins 157 14 = some (.i2l, 15, 0) := by decide +kernel
theorem i157_15 : ts_ins 157 15 = some (.lconst 0, 16, 0) := by decide +kernel
theorem i157_16 : ts_ins 157 16 = some (.iload_n 2, 17, 0) := by decide +kernel
theorem i157_17 : ts_ins 157 17 = some (.invokestatic 138, 20, 0) := by decide +kernel
theorem g157_17 : ts_cal (ts_mc 157) 138 = some (1, 156, 1) := by decide +kernel
theorem i157_20 : ts_ins 157 20 = some (.i2l, 21, 0) := by decide +kernel
theorem i157_21 : ts_ins 157 21 = some (.invokestatic 95, 24, 0) := by decide +kernel
theorem g157_21 : ts_cal (ts_mc 157) 95 = some (1, 143, 3) := by decide +kernel
theorem i157_24 : ts_ins 157 24 = some (.ifCond .eq 13, 27, 37) := by decide +kernel
theorem i157_27 : ts_ins 157 27 = some (.aload_n 0, 28, 0) := by decide +kernel
theorem i157_28 : ts_ins 157 28 = some (.iload 4, 30, 0) := by decide +kernel
theorem i157_30 : ts_ins 157 30 = some (.iload_n 3, 31, 0) := by decide +kernel
theorem i157_31 : ts_ins 157 31 = some (.invokevirtual 141, 34, 0) := by decide +kernel
theorem g157_31 : ts_cal (ts_mc 157) 141 = some (0, 145, 2) := by decide +kernel
theorem i157_34 : ts_ins 157 34 = some (.goto 4, 37, 38) := by decide +kernel
theorem i157_37 : ts_ins 157 37 = some (.iconst (-1), 38, 0) := by decide +kernel
theorem i157_38 : ts_ins 157 38 = some (.ireturn, 39, 0) := by decide +kernel
theorem r157 : ts_rt 157 = ((some .int), 0, 0) := by decide +kernel
theorem l157 : ts_ml 157 = 5 := by decide +kernel
theorem i146_0 : ts_ins 146 0 = some (.aload_n 0, 1, 0) := by decide +kernel
theorem i146_1 : ts_ins 146 1 = some (.getfield 87, 4, 0) := by decide +kernel
theorem g146_1 : ts_fm 146 87 = some (12, 5, 0) := by decide +kernel
theorem i146_4 : ts_ins 146 4 = some (.ifCond .ne 6, 7, 10) := by decide +kernel
theorem i146_7 : ts_ins 146 7 = some (.bipush (-5), 9, 0) := by decide +kernel
theorem i146_9 : ts_ins 146 9 = some (.ireturn, 10, 0) := by decide +kernel
theorem i146_10 : ts_ins 146 10 = some (.aload_n 0, 11, 0) := by decide +kernel
theorem i146_11 : ts_ins 146 11 = some (.dup, 12, 0) := by decide +kernel
theorem i146_12 : ts_ins 146 12 = some (.getfield 87, 15, 0) := by decide +kernel
theorem g146_12 : ts_fm 146 87 = some (12, 5, 0) := by decide +kernel
theorem i146_15 : ts_ins 146 15 = some (.iconst 1, 16, 0) := by decide +kernel
theorem i146_16 : ts_ins 146 16 = some (.isub, 17, 0) := by decide +kernel
theorem i146_17 : ts_ins 146 17 = some (.putfield 87, 20, 0) := by decide +kernel
theorem g146_17 : ts_fmm 146 87 = some (12, 5, 0, false) := by decide +kernel
theorem i146_20 : ts_ins 146 20 = some (.aload_n 0, 21, 0) := by decide +kernel
theorem i146_21 : ts_ins 146 21 = some (.getfield 9, 24, 0) := by decide +kernel
theorem g146_21 : ts_fm 146 9 = some (12, 0, 2) := by decide +kernel
theorem i146_24 : ts_ins 146 24 = some (.aload_n 0, 25, 0) := by decide +kernel
theorem i146_25 : ts_ins 146 25 = some (.getfield 13, 28, 0) := by decide +kernel
theorem g146_25 : ts_fm 146 13 = some (12, 1, 2) := by decide +kernel
theorem i146_28 : ts_ins 146 28 = some (.aload_n 0, 29, 0) := by decide +kernel
theorem i146_29 : ts_ins 146 29 = some (.getfield 87, 32, 0) := by decide +kernel
theorem g146_29 : ts_fm 146 87 = some (12, 5, 0) := by decide +kernel
theorem i146_32 : ts_ins 146 32 = some (.iaload, 33, 0) := by decide +kernel
theorem i146_33 : ts_ins 146 33 = some (.aload_n 0, 34, 0) := by decide +kernel
theorem i146_34 : ts_ins 146 34 = some (.getfield 16, 37, 0) := by decide +kernel
theorem g146_34 : ts_fm 146 16 = some (12, 2, 2) := by decide +kernel
theorem i146_37 : ts_ins 146 37 = some (.aload_n 0, 38, 0) := by decide +kernel
theorem i146_38 : ts_ins 146 38 = some (.getfield 87, 41, 0) := by decide +kernel
theorem g146_38 : ts_fm 146 87 = some (12, 5, 0) := by decide +kernel
theorem i146_41 : ts_ins 146 41 = some (.iaload, 42, 0) := by decide +kernel
theorem i146_42 : ts_ins 146 42 = some (.iastore, 43, 0) := by decide +kernel
theorem i146_43 : ts_ins 146 43 = some (.aload_n 0, 44, 0) := by decide +kernel
theorem i146_44 : ts_ins 146 44 = some (.getfield 87, 47, 0) := by decide +kernel
theorem g146_44 : ts_fm 146 87 = some (12, 5, 0) := by decide +kernel
theorem i146_47 : ts_ins 146 47 = some (.ireturn, 48, 0) := by decide +kernel
theorem r146 : ts_rt 146 = ((some .int), 0, 0) := by decide +kernel
theorem l146 : ts_ml 146 = 1 := by decide +kernel
theorem i147_0 : ts_ins 147 0 = some (.aload_n 0, 1, 0) := by decide +kernel
theorem i147_1 : ts_ins 147 1 = some (.getfield 87, 4, 0) := by decide +kernel
theorem g147_1 : ts_fm 147 87 = some (12, 5, 0) := by decide +kernel
theorem i147_4 : ts_ins 147 4 = some (.aload_n 0, 5, 0) := by decide +kernel
theorem i147_5 : ts_ins 147 5 = some (.getfield 90, 8, 0) := by decide +kernel
theorem g147_5 : ts_fm 147 90 = some (12, 4, 0) := by decide +kernel
theorem i147_8 : ts_ins 147 8 = some (.if_icmp .ne 6, 11, 14) := by decide +kernel
theorem i147_11 : ts_ins 147 11 = some (.bipush (-5), 13, 0) := by decide +kernel
theorem i147_13 : ts_ins 147 13 = some (.ireturn, 14, 0) := by decide +kernel
theorem i147_14 : ts_ins 147 14 = some (.aload_n 0, 15, 0) := by decide +kernel
theorem i147_15 : ts_ins 147 15 = some (.getfield 9, 18, 0) := by decide +kernel
theorem g147_15 : ts_fm 147 9 = some (12, 0, 2) := by decide +kernel
theorem i147_18 : ts_ins 147 18 = some (.aload_n 0, 19, 0) := by decide +kernel
theorem i147_19 : ts_ins 147 19 = some (.getfield 13, 22, 0) := by decide +kernel
theorem g147_19 : ts_fm 147 13 = some (12, 1, 2) := by decide +kernel
theorem i147_22 : ts_ins 147 22 = some (.aload_n 0, 23, 0) := by decide +kernel
theorem i147_23 : ts_ins 147 23 = some (.getfield 87, 26, 0) := by decide +kernel
theorem g147_23 : ts_fm 147 87 = some (12, 5, 0) := by decide +kernel
theorem i147_26 : ts_ins 147 26 = some (.iaload, 27, 0) := by decide +kernel
theorem i147_27 : ts_ins 147 27 = some (.aload_n 0, 28, 0) := by decide +kernel
theorem i147_28 : ts_ins 147 28 = some (.getfield 19, 31, 0) := by decide +kernel
theorem g147_28 : ts_fm 147 19 = some (12, 3, 2) := by decide +kernel
theorem i147_31 : ts_ins 147 31 = some (.aload_n 0, 32, 0) := by decide +kernel
theorem i147_32 : ts_ins 147 32 = some (.getfield 87, 35, 0) := by decide +kernel
theorem g147_32 : ts_fm 147 87 = some (12, 5, 0) := by decide +kernel
theorem i147_35 : ts_ins 147 35 = some (.iaload, 36, 0) := by decide +kernel
theorem i147_36 : ts_ins 147 36 = some (.iastore, 37, 0) := by decide +kernel
theorem i147_37 : ts_ins 147 37 = some (.aload_n 0, 38, 0) := by decide +kernel
theorem i147_38 : ts_ins 147 38 = some (.dup, 39, 0) := by decide +kernel
theorem i147_39 : ts_ins 147 39 = some (.getfield 87, 42, 0) := by decide +kernel
theorem g147_39 : ts_fm 147 87 = some (12, 5, 0) := by decide +kernel
theorem i147_42 : ts_ins 147 42 = some (.iconst 1, 43, 0) := by decide +kernel
theorem i147_43 : ts_ins 147 43 = some (.iadd, 44, 0) := by decide +kernel
theorem i147_44 : ts_ins 147 44 = some (.putfield 87, 47, 0) := by decide +kernel
theorem g147_44 : ts_fmm 147 87 = some (12, 5, 0, false) := by decide +kernel
theorem i147_47 : ts_ins 147 47 = some (.aload_n 0, 48, 0) := by decide +kernel
theorem i147_48 : ts_ins 147 48 = some (.getfield 90, 51, 0) := by decide +kernel
theorem g147_48 : ts_fm 147 90 = some (12, 4, 0) := by decide +kernel
theorem i147_51 : ts_ins 147 51 = some (.aload_n 0, 52, 0) := by decide +kernel
theorem i147_52 : ts_ins 147 52 = some (.getfield 87, 55, 0) := by decide +kernel
theorem g147_52 : ts_fm 147 87 = some (12, 5, 0) := by decide +kernel
theorem i147_55 : ts_ins 147 55 = some (.isub, 56, 0) := by decide +kernel
theorem i147_56 : ts_ins 147 56 = some (.ireturn, 57, 0) := by decide +kernel
theorem r147 : ts_rt 147 = ((some .int), 0, 0) := by decide +kernel
theorem l147 : ts_ml 147 = 1 := by decide +kernel
/-! mend, undo, redo: both sides -/
abbrev g_mOk (f : ts_Fl) (n w v : Int) : Prop := g_names f n w ∧ 0 ≤ v ∧ v ≤ g_most w
def g_mendA (f : ts_Fl) (n w v : Int) : Int := if g_mOk f n w v then g_num f n w else -1
def g_mendF (f : ts_Fl) (n w v : Int) : ts_Fl := if g_mOk f n w v ∧ ¬ g_num f n w = v then g_set f n w v else f
def g_mendC (f : ts_Fl) (c : ts_Ch) (n w v : Int) : ts_Ch := if g_mOk f n w v ∧ ¬ g_num f n w = v then c_add c n w (g_num f n w) v else c
def g_undoA (c : ts_Ch) : Int := if c_done c = 0 then -5 else c_done c - 1
def g_undoF (f : ts_Fl) (c : ts_Ch) : ts_Fl := if c_done c = 0 then f else g_set f (c_num c (c_done c - 1)) (c_wh c (c_done c - 1)) (c_be c (c_done c - 1))
def g_undoC (c : ts_Ch) : ts_Ch := if c_done c = 0 then c else (c_done c - 1, c.2)
def g_redoA (c : ts_Ch) : Int := if c_done c = c_all c then -5 else c_all c - (c_done c + 1)
def g_redoF (f : ts_Fl) (c : ts_Ch) : ts_Fl := if c_done c = c_all c then f else g_set f (c_num c (c_done c)) (c_wh c (c_done c)) (c_af c (c_done c))
def g_redoC (c : ts_Ch) : ts_Ch := if c_done c = c_all c then c else (c_done c + 1, c.2)
theorem g_names_r {f : ts_Fl} {n w : Int} (b1 : f_men f ≤ 4) (b2 : f_told f ≤ 8) (b3 : ∀ p, 0 ≤ p → p < 8 → f_len f p ≤ 6) (h : g_names f n w) : 0 ≤ n ∧ n ≤ 75 ∧ 0 ≤ w ∧ w ≤ 7 := by
  unfold g_names at h
  rcases h with q | q | q | q
  · omega
  · omega
  · omega
  · have := b3 (n / 10) (by omega) (by omega)
    omega
theorem g_num_r {I : Nat → Nat → Int32} {f : ts_Fl} (hM : RM I f) {n w : Int} (h : g_names f n w) : 0 ≤ g_num f n w ∧ g_num f n w ≤ 20 := (hM.at h).2
section UN
variable {X : ts_X} {I J : Nat → Nat → Int32} {L : Nat → Nat → Int64} {sw : Bool} {K : Option Value → ts_H → Prop} {d : Nat} {f : ts_Fl} {c : ts_Ch}
theorem x_setNumber (hX : RX I f) {n w v : Int} (hn : -2147483648 ≤ n ∧ n ≤ 2147483647) (hw : -2147483648 ≤ w ∧ w ≤ 2147483647) (hg : g_names f n w) (hv : 0 ≤ v ∧ v ≤ g_most w) (hK : ∀ J, fr ffl I J → RX J (g_set f n w v) → K none (J, L, ts_P0 sw, ts_S0)) : ts_Cal X (d + 3) 23 [.ref 2, .int (zI (n)), .int (zI (w)), .int (zI (v))] (I, L, ts_P0 sw, ts_S0) K := by
  have b1 := hX.men.2
  have b2 := hX.told.2
  have g0 := g_names_r b1.2 b2.2 (fun p h0 h1 => (hX.len p h0 h1).2.2) hg
  refine ev_enter (lv := [.ref 2, .int (zI (n)), .int (zI (w)), .int (zI (v))]) l23 rfl (Nat.le_of_ble_eq_true rfl) ?_
  refine ev_aloadn_0 i23_0 ?_
  refine ev_iloadn_1 i23_1 ?_
  refine ev_iloadn_2 i23_2 ?_
  refine ev_virt2 i23_3 g23_3 rfl (by decide +kernel) (Nat.le_of_ble_eq_true rfl) (x_names hX hn hw ?_)
  first
  | refine ew_ifneB i23_6 (fun c6 => ?_) (fun c6 => ?_)
  | refine ew_ifne i23_6 (by omega) (fun c6 => ?_) (fun c6 => ?_)
  · refine ev_iloadn_2 i23_10 ?_
    refine ew_bipush i23_11 (by decide) ?_
    refine ew_icmpne i23_13 (by omega) (fun c13 => ?_) (fun c13 => ?_)
    · refine ev_iloadn_2 i23_24 ?_
      refine ew_bipush i23_25 (by decide) ?_
      refine ew_icmpne i23_27 (by omega) (fun c27 => ?_) (fun c27 => ?_)
      · rcases (show w = 0 ∨ w = 1 ∨ w = 2 ∨ w = 3 ∨ w = 4 ∨ w = 5 by omega) with rfl | rfl | rfl | rfl | rfl | rfl
        all_goals
          refine ev_aloadn_0 i23_48 ?_
          refine ev_iloadn_2 i23_49 ?_
          refine ev_virt1 i23_50 g23_50 rfl (by decide +kernel) (Nat.le_of_ble_eq_true rfl) (x_listOf (by omega) ?_)
          refine ev_iloadn_1 i23_53 ?_
          refine ev_iloadn_3 i23_54 ?_
          refine ew_iastore i23_55 rfl (by omega) (by omega) (by omega) ?_
          refine ev_return i23_56 r23 ?_
          exact hK _ (by repeat' (first | exact fr_rfl _ _ | refine fr_up ?_ (by omega))) (hX.put hg (by decide) hv)
      · have b3 := (hX.len (n / 10) (by omega) (by omega)).2
        refine ev_aloadn_0 i23_30 ?_
        refine ev_getA i23_31 g23_31 rfl rfl (by decide) ?_
        refine ev_iloadn_1 i23_34 ?_
        refine ew_bipush i23_35 (by decide) ?_
        refine ew_idiv i23_37 (by omega) (by omega) ?_
        refine ew_aaloadG i23_38 rfl (by omega) (by omega) (by omega) (floor_P (by omega) (by omega)) (by omega) ?_
        refine ev_iloadn_1 i23_39 ?_
        refine ew_bipush i23_40 (by decide) ?_
        refine ew_irem i23_42 (by omega) (by omega) ?_
        refine ev_iloadn_3 i23_43 ?_
        refine ew_iastore i23_44 (floor_S (by omega) (by omega)) (by omega) (by omega) (by omega) ?_
        refine ev_goto i23_45 ?_
        refine ev_return i23_56 r23 ?_
        obtain rfl : w = 7 := by omega
        have e := hX.sSay (s := n / 10) (k := n % 10) (v := v) (by omega) (by omega) (by simpa [g_most] using hv)
        exact hK _ (fr_up (fr_rfl _ _) (by omega)) (by unfold g_set; simpa using e)
    · refine ev_aloadn_0 i23_16 ?_
      refine ev_iloadn_3 i23_17 ?_
      refine ev_putI i23_18 g23_18 rfl ?_
      refine ev_goto i23_21 ?_
      refine ev_return i23_56 r23 ?_
      subst c13
      have e := hX.sRoad (v := v) (by simpa [g_most] using hv)
      exact hK _ (by repeat' (first | exact fr_rfl _ _ | refine fr_up ?_ (by omega))) (by unfold g_set; simpa using e)
  · refine ev_return i23_9 r23 ?_
    exact absurd hg c6
theorem great {w : Int} (h0 : 0 ≤ w) (h1 : w < 8) : rd ((ts_ca 1001).getD w.toNat 0) 0 20 (g_most w) := by
  rcases (show w = 0 ∨ w = 1 ∨ w = 2 ∨ w = 3 ∨ w = 4 ∨ w = 5 ∨ w = 6 ∨ w = 7 by omega) with rfl | rfl | rfl | rfl | rfl | rfl | rfl | rfl <;> exact ⟨rfl, by decide, by decide⟩
theorem x_mend (hX : RX I f) (hC : RXc I c) {n w v : Int} (hn : -2147483648 ≤ n ∧ n ≤ 2147483647) (hw : -2147483648 ≤ w ∧ w ≤ 2147483647) (hv : -2147483648 ≤ v ∧ v ≤ 2147483647) (hK : ∀ J, fr ffc I J → RX J (g_mendF f n w v) → RXc J (g_mendC f c n w v) → K (some (.int (zI (g_mendA f n w v)))) (J, L, ts_P0 sw, ts_S0)) : ts_Cal X (d + 4) 96 [.ref 1, .int (zI (n)), .int (zI (w)), .int (zI (v))] (I, L, ts_P0 sw, ts_S0) K := by
  have bm := g_most_r w
  have b1 := hX.men.2
  have b2 := hX.told.2
  unfold g_mendF g_mendC g_mendA at hK
  refine ev_enter (lv := [.ref 1, .int (zI (n)), .int (zI (w)), .int (zI (v)), .null]) l96 rfl (Nat.le_of_ble_eq_true rfl) ?_
  refine ev_aloadn_0 i96_0 ?_
  refine ev_getA i96_1 g96_1 rfl rfl (by decide) ?_
  refine ev_iloadn_1 i96_4 ?_
  refine ev_iloadn_2 i96_5 ?_
  refine ev_virt2 i96_6 g96_6 rfl (by decide +kernel) (Nat.le_of_ble_eq_true rfl) (x_names hX hn hw ?_)
  first
  | refine ew_ifeqB i96_9 (fun c9 => ?_) (fun c9 => ?_)
  | refine ew_ifeq i96_9 (by omega) (fun c9 => ?_) (fun c9 => ?_)
  · refine ew_iconst i96_25 ?_
    refine ev_ireturn i96_26 r96 ?_
    have e : ¬ g_mOk f n w v := fun r => by have r1 := r.1; have r2 := r.2; omega
    rw [if_neg (fun r => e r.1), if_neg (fun r => e r.1), if_neg e] at hK
    exact hK I (fr_rfl _ _) hX hC
  · refine ev_iloadn_3 i96_12 ?_
    refine ew_iflt i96_13 (by omega) (fun c13 => ?_) (fun c13 => ?_)
    · refine ew_iconst i96_25 ?_
      refine ev_ireturn i96_26 r96 ?_
      have e : ¬ g_mOk f n w v := fun r => by have r1 := r.1; have r2 := r.2; omega
      rw [if_neg (fun r => e r.1), if_neg (fun r => e r.1), if_neg e] at hK
      exact hK I (fr_rfl _ _) hX hC
    · refine ev_iloadn_3 i96_16 ?_
      refine ev_gets i96_17 g96_17 ?_
      refine ev_iloadn_2 i96_20 ?_
      refine ew_iaload i96_21 rfl (by omega) (by show _ < (8 : Int); omega) (by omega) ((great (by omega) (by omega))) (fun b21 => ?_)
      refine ew_icmple i96_22 (by omega) (fun c22 => ?_) (fun c22 => ?_)
      · have e : g_mOk f n w v := ⟨c9, by omega⟩
        have g0 := g_names_r b1.2 b2.2 (fun p h0 h1 => (hX.len p h0 h1).2.2) c9
        rw [if_pos e] at hK
        refine ev_aloadn_0 i96_27 ?_
        refine ev_getA i96_28 g96_28 rfl rfl (by decide) ?_
        refine ev_iloadn_1 i96_31 ?_
        refine ev_iloadn_2 i96_32 ?_
        refine ev_virt2 i96_33 g96_33 rfl (by decide +kernel) (Nat.le_of_ble_eq_true rfl) (x_numberOf hX hn hw c9 (fun k1 k2 => ?_))
        refine ev_istore_4 i96_36 rfl ?_
        refine ev_iload_4 i96_38 ?_
        refine ev_iloadn_3 i96_40 ?_
        refine ew_icmpeq i96_41 (by omega) (fun c41 => ?_) (fun c41 => ?_)
        · refine ev_iload_4 i96_66 ?_
          refine ev_ireturn i96_68 r96 ?_
          first
          | (rw [if_neg (fun r => r.2 c41), if_neg (fun r => r.2 c41)] at hK
             exact hK I (fr_rfl _ _) hX hC)
          | (rw [if_pos ⟨e, c41⟩, if_pos ⟨e, c41⟩] at hK
             exact hK M (fr_tr (fr_mo h1 (fun a k q => Or.inr q)) (fr_mo h3 (fun a k q => Or.inl q))) h4 (h2.co (fun a k q0 q1 => h3 a k (by omega))))
        · refine ev_aloadn_0 i96_44 ?_
          refine ev_getA i96_45 g96_45 rfl rfl (by decide) ?_
          refine ev_iloadn_1 i96_48 ?_
          refine ev_iloadn_2 i96_49 ?_
          refine ev_iload_4 i96_50 ?_
          refine ev_iloadn_3 i96_52 ?_
          refine ev_virt4 i96_53 g96_53 rfl (by decide +kernel) (Nat.le_of_ble_eq_true rfl) (x_add hC (by omega) (by omega) (by omega) (by omega) (fun J h1 h2 => ?_))
          refine ev_aloadn_0 i96_56 ?_
          refine ev_getA i96_57 g96_57 rfl rfl (by decide) ?_
          refine ev_iloadn_1 i96_60 ?_
          refine ev_iloadn_2 i96_61 ?_
          refine ev_iloadn_3 i96_62 ?_
          refine ev_virt3 i96_63 g96_63 rfl (by decide +kernel) (Nat.le_of_ble_eq_true rfl) (x_setNumber (hX.co (fun a p0 p1 => fr_row h1 (fun k => by omega))) hn hw c9 e.2 (fun M h3 h4 => ?_))
          refine ev_iload_4 i96_66 ?_
          refine ev_ireturn i96_68 r96 ?_
          first
          | (rw [if_neg (fun r => r.2 c41), if_neg (fun r => r.2 c41)] at hK
             exact hK I (fr_rfl _ _) hX hC)
          | (rw [if_pos ⟨e, c41⟩, if_pos ⟨e, c41⟩] at hK
             exact hK M (fr_tr (fr_mo h1 (fun a k q => Or.inr q)) (fr_mo h3 (fun a k q => Or.inl q))) h4 (h2.co (fun a k q0 q1 => h3 a k (by omega))))
      · refine ew_iconst i96_25 ?_
        refine ev_ireturn i96_26 r96 ?_
        have e : ¬ g_mOk f n w v := fun r => by have r1 := r.1; have r2 := r.2; omega
        rw [if_neg (fun r => e r.1), if_neg (fun r => e r.1), if_neg e] at hK
        exact hK I (fr_rfl _ _) hX hC
theorem x_undo (hX : RX I f) (hC : RXc I c) (hO : ROc f c) (hK : ∀ J, fr ffc I J → RX J (g_undoF f c) → RXc J (g_undoC c) → K (some (.int (zI (g_undoA c)))) (J, L, ts_P0 sw, ts_S0)) : ts_Cal X (d + 4) 125 [.ref 1] (I, L, ts_P0 sw, ts_S0) K := by
  have b0 := hC.1.2
  have b1 := hX.men.2
  have b2 := hX.told.2
  have o1 := hO.1
  have b3 := hC.2.1.2
  unfold g_undoF g_undoC g_undoA at hK
  refine ev_enter (lv := [.ref 1, .null]) l125 rfl (Nat.le_of_ble_eq_true rfl) ?_
  refine ev_aloadn_0 i125_0 ?_
  refine ev_getA i125_1 g125_1 rfl rfl (by decide) ?_
  refine ew_getI i125_4 g125_4 rfl (by first | exact hC.1 | exact hC.2.2.1 _ (by omega) (by omega) | exact hC.2.2.2.1 _ (by omega) (by omega) | exact hC.2.2.2.2.1 _ (by omega) (by omega) | exact hX.men | exact hX.told | exact hX.road | exact hX.tone _ (by omega) (by omega) | exact hX.corn _ (by omega) (by omega) | exact hX.stand _ (by omega) (by omega) | exact hX.reach _ (by omega) (by omega) | exact hX.arm _ (by omega) (by omega) | exact hX.late _ (by omega) (by omega) | exact hX.len _ (by omega) (by omega) | exact hX.say (by omega) (by omega) _ (by omega) (by omega)) (fun b4 => ?_)
  first
  | refine ew_ifneB i125_7 (fun c7 => ?_) (fun c7 => ?_)
  | refine ew_ifne i125_7 (by omega) (fun c7 => ?_) (fun c7 => ?_)
  · have o2 := hO.2 (c_done c - 1) (by omega) (by omega)
    rw [if_neg c7, if_neg c7, if_neg c7] at hK
    refine ev_aloadn_0 i125_13 ?_
    refine ev_getA i125_14 g125_14 rfl rfl (by decide) ?_
    refine ev_dup i125_17 rfl ?_
    refine ew_getI i125_18 g125_18 rfl (by first | exact hC.1 | exact hC.2.2.1 _ (by omega) (by omega) | exact hC.2.2.2.1 _ (by omega) (by omega) | exact hC.2.2.2.2.1 _ (by omega) (by omega) | exact hX.men | exact hX.told | exact hX.road | exact hX.tone _ (by omega) (by omega) | exact hX.corn _ (by omega) (by omega) | exact hX.stand _ (by omega) (by omega) | exact hX.reach _ (by omega) (by omega) | exact hX.arm _ (by omega) (by omega) | exact hX.late _ (by omega) (by omega) | exact hX.len _ (by omega) (by omega) | exact hX.say (by omega) (by omega) _ (by omega) (by omega)) (fun b18 => ?_)
    refine ew_iconst i125_21 ?_
    refine ew_isub i125_22 ?_
    refine ev_putI i125_23 g125_23 rfl ?_
    refine ev_aloadn_0 i125_26 ?_
    refine ev_getA i125_27 g125_27 rfl rfl (by decide) ?_
    refine ew_getI i125_30 g125_30 rfl ((rd_zI (lo := 0) (hi := 40) (v := c_done c - 1) (by omega))) (fun b30 => ?_)
    refine ev_istoren_1 i125_33 rfl ?_
    refine ev_aloadn_0 i125_34 ?_
    refine ev_getA i125_35 g125_35 rfl rfl (by decide) ?_
    refine ev_aloadn_0 i125_38 ?_
    refine ev_getA i125_39 g125_39 rfl rfl (by decide) ?_
    refine ev_getA i125_42 g125_42 rfl rfl (by decide) ?_
    refine ev_iloadn_1 i125_45 ?_
    refine ew_iaload i125_46 rfl (by omega) (by omega) (by omega) (by first | exact hC.1 | exact hC.2.2.1 _ (by omega) (by omega) | exact hC.2.2.2.1 _ (by omega) (by omega) | exact hC.2.2.2.2.1 _ (by omega) (by omega) | exact hX.men | exact hX.told | exact hX.road | exact hX.tone _ (by omega) (by omega) | exact hX.corn _ (by omega) (by omega) | exact hX.stand _ (by omega) (by omega) | exact hX.reach _ (by omega) (by omega) | exact hX.arm _ (by omega) (by omega) | exact hX.late _ (by omega) (by omega) | exact hX.len _ (by omega) (by omega) | exact hX.say (by omega) (by omega) _ (by omega) (by omega)) (fun b46 => ?_)
    refine ev_aloadn_0 i125_47 ?_
    refine ev_getA i125_48 g125_48 rfl rfl (by decide) ?_
    refine ev_getA i125_51 g125_51 rfl rfl (by decide) ?_
    refine ev_iloadn_1 i125_54 ?_
    refine ew_iaload i125_55 rfl (by omega) (by omega) (by omega) (by first | exact hC.1 | exact hC.2.2.1 _ (by omega) (by omega) | exact hC.2.2.2.1 _ (by omega) (by omega) | exact hC.2.2.2.2.1 _ (by omega) (by omega) | exact hX.men | exact hX.told | exact hX.road | exact hX.tone _ (by omega) (by omega) | exact hX.corn _ (by omega) (by omega) | exact hX.stand _ (by omega) (by omega) | exact hX.reach _ (by omega) (by omega) | exact hX.arm _ (by omega) (by omega) | exact hX.late _ (by omega) (by omega) | exact hX.len _ (by omega) (by omega) | exact hX.say (by omega) (by omega) _ (by omega) (by omega)) (fun b55 => ?_)
    refine ev_aloadn_0 i125_56 ?_
    refine ev_getA i125_57 g125_57 rfl rfl (by decide) ?_
    refine ev_getA i125_60 g125_60 rfl rfl (by decide) ?_
    refine ev_iloadn_1 i125_63 ?_
    refine ew_iaload i125_64 rfl (by omega) (by omega) (by omega) (by first | exact hC.1 | exact hC.2.2.1 _ (by omega) (by omega) | exact hC.2.2.2.1 _ (by omega) (by omega) | exact hC.2.2.2.2.1 _ (by omega) (by omega) | exact hX.men | exact hX.told | exact hX.road | exact hX.tone _ (by omega) (by omega) | exact hX.corn _ (by omega) (by omega) | exact hX.stand _ (by omega) (by omega) | exact hX.reach _ (by omega) (by omega) | exact hX.arm _ (by omega) (by omega) | exact hX.late _ (by omega) (by omega) | exact hX.len _ (by omega) (by omega) | exact hX.say (by omega) (by omega) _ (by omega) (by omega)) (fun b64 => ?_)
    refine ev_virt3 i125_65 g125_65 rfl (by decide +kernel) (Nat.le_of_ble_eq_true rfl) (x_setNumber (hX.co (fun a p0 p1 => ts_up_na (by omega))) (by omega) (by omega) o2.1 o2.2.1 (fun M h3 h4 => ?_))
    refine ev_aloadn_0 i125_68 ?_
    refine ev_getA i125_69 g125_69 rfl rfl (by decide) ?_
    refine ew_getI i125_72 g125_72 rfl ((by rw [h3 51 4 (by omega)]; exact rd_zI (lo := 0) (hi := 40) (v := c_done c - 1) (by omega))) (fun b72 => ?_)
    refine ev_ireturn i125_75 r125 ?_
    refine hK M (fr_tr (fr_up (fr_rfl _ _) (Or.inr (by omega))) (fr_mo h3 (fun a k q => Or.inl q))) h4 ?_
    refine RXc.co (I := ts_up I 51 4 (zI (c_done c - 1))) ⟨rd_zI (by omega), hC.2.1, hC.2.2⟩ (fun a k q0 q1 => h3 a k (by omega))
  · refine ew_bipush i125_10 (by decide) ?_
    refine ev_ireturn i125_12 r125 ?_
    rw [if_pos c7, if_pos c7, if_pos c7] at hK
    exact hK I (fr_rfl _ _) hX hC
theorem x_redo (hX : RX I f) (hC : RXc I c) (hO : ROc f c) (hK : ∀ J, fr ffc I J → RX J (g_redoF f c) → RXc J (g_redoC c) → K (some (.int (zI (g_redoA c)))) (J, L, ts_P0 sw, ts_S0)) : ts_Cal X (d + 4) 126 [.ref 1] (I, L, ts_P0 sw, ts_S0) K := by
  have b0 := hC.1.2
  have b1 := hX.men.2
  have b2 := hX.told.2
  have o1 := hO.1
  have b3 := hC.2.1.2
  unfold g_redoF g_redoC g_redoA at hK
  refine ev_enter (lv := [.ref 1, .null]) l126 rfl (Nat.le_of_ble_eq_true rfl) ?_
  refine ev_aloadn_0 i126_0 ?_
  refine ev_getA i126_1 g126_1 rfl rfl (by decide) ?_
  refine ew_getI i126_4 g126_4 rfl (by first | exact hC.1 | exact hC.2.1 | exact hC.2.2.1 _ (by omega) (by omega) | exact hC.2.2.2.1 _ (by omega) (by omega) | exact hC.2.2.2.2.2 _ (by omega) (by omega) | exact hX.men | exact hX.told | exact hX.road | exact hX.tone _ (by omega) (by omega) | exact hX.corn _ (by omega) (by omega) | exact hX.stand _ (by omega) (by omega) | exact hX.reach _ (by omega) (by omega) | exact hX.arm _ (by omega) (by omega) | exact hX.late _ (by omega) (by omega) | exact hX.len _ (by omega) (by omega) | exact hX.say (by omega) (by omega) _ (by omega) (by omega)) (fun b4 => ?_)
  refine ev_aloadn_0 i126_7 ?_
  refine ev_getA i126_8 g126_8 rfl rfl (by decide) ?_
  refine ew_getI i126_11 g126_11 rfl (by first | exact hC.1 | exact hC.2.1 | exact hC.2.2.1 _ (by omega) (by omega) | exact hC.2.2.2.1 _ (by omega) (by omega) | exact hC.2.2.2.2.2 _ (by omega) (by omega) | exact hX.men | exact hX.told | exact hX.road | exact hX.tone _ (by omega) (by omega) | exact hX.corn _ (by omega) (by omega) | exact hX.stand _ (by omega) (by omega) | exact hX.reach _ (by omega) (by omega) | exact hX.arm _ (by omega) (by omega) | exact hX.late _ (by omega) (by omega) | exact hX.len _ (by omega) (by omega) | exact hX.say (by omega) (by omega) _ (by omega) (by omega)) (fun b11 => ?_)
  refine ew_icmplt i126_14 (by omega) (fun c14 => ?_) (fun c14 => ?_)
  · have o2 := hO.2 (c_done c) (by omega) (by omega)
    rw [if_neg (by omega), if_neg (by omega), if_neg (by omega)] at hK
    refine ev_aloadn_0 i126_20 ?_
    refine ev_getA i126_21 g126_21 rfl rfl (by decide) ?_
    refine ew_getI i126_24 g126_24 rfl (by first | exact hC.1 | exact hC.2.1 | exact hC.2.2.1 _ (by omega) (by omega) | exact hC.2.2.2.1 _ (by omega) (by omega) | exact hC.2.2.2.2.2 _ (by omega) (by omega) | exact hX.men | exact hX.told | exact hX.road | exact hX.tone _ (by omega) (by omega) | exact hX.corn _ (by omega) (by omega) | exact hX.stand _ (by omega) (by omega) | exact hX.reach _ (by omega) (by omega) | exact hX.arm _ (by omega) (by omega) | exact hX.late _ (by omega) (by omega) | exact hX.len _ (by omega) (by omega) | exact hX.say (by omega) (by omega) _ (by omega) (by omega)) (fun b24 => ?_)
    refine ev_istoren_1 i126_27 rfl ?_
    refine ev_aloadn_0 i126_28 ?_
    refine ev_getA i126_29 g126_29 rfl rfl (by decide) ?_
    refine ev_aloadn_0 i126_32 ?_
    refine ev_getA i126_33 g126_33 rfl rfl (by decide) ?_
    refine ev_getA i126_36 g126_36 rfl rfl (by decide) ?_
    refine ev_iloadn_1 i126_39 ?_
    refine ew_iaload i126_40 rfl (by omega) (by omega) (by omega) (by first | exact hC.1 | exact hC.2.1 | exact hC.2.2.1 _ (by omega) (by omega) | exact hC.2.2.2.1 _ (by omega) (by omega) | exact hC.2.2.2.2.2 _ (by omega) (by omega) | exact hX.men | exact hX.told | exact hX.road | exact hX.tone _ (by omega) (by omega) | exact hX.corn _ (by omega) (by omega) | exact hX.stand _ (by omega) (by omega) | exact hX.reach _ (by omega) (by omega) | exact hX.arm _ (by omega) (by omega) | exact hX.late _ (by omega) (by omega) | exact hX.len _ (by omega) (by omega) | exact hX.say (by omega) (by omega) _ (by omega) (by omega)) (fun b40 => ?_)
    refine ev_aloadn_0 i126_41 ?_
    refine ev_getA i126_42 g126_42 rfl rfl (by decide) ?_
    refine ev_getA i126_45 g126_45 rfl rfl (by decide) ?_
    refine ev_iloadn_1 i126_48 ?_
    refine ew_iaload i126_49 rfl (by omega) (by omega) (by omega) (by first | exact hC.1 | exact hC.2.1 | exact hC.2.2.1 _ (by omega) (by omega) | exact hC.2.2.2.1 _ (by omega) (by omega) | exact hC.2.2.2.2.2 _ (by omega) (by omega) | exact hX.men | exact hX.told | exact hX.road | exact hX.tone _ (by omega) (by omega) | exact hX.corn _ (by omega) (by omega) | exact hX.stand _ (by omega) (by omega) | exact hX.reach _ (by omega) (by omega) | exact hX.arm _ (by omega) (by omega) | exact hX.late _ (by omega) (by omega) | exact hX.len _ (by omega) (by omega) | exact hX.say (by omega) (by omega) _ (by omega) (by omega)) (fun b49 => ?_)
    refine ev_aloadn_0 i126_50 ?_
    refine ev_getA i126_51 g126_51 rfl rfl (by decide) ?_
    refine ev_getA i126_54 g126_54 rfl rfl (by decide) ?_
    refine ev_iloadn_1 i126_57 ?_
    refine ew_iaload i126_58 rfl (by omega) (by omega) (by omega) (by first | exact hC.1 | exact hC.2.1 | exact hC.2.2.1 _ (by omega) (by omega) | exact hC.2.2.2.1 _ (by omega) (by omega) | exact hC.2.2.2.2.2 _ (by omega) (by omega) | exact hX.men | exact hX.told | exact hX.road | exact hX.tone _ (by omega) (by omega) | exact hX.corn _ (by omega) (by omega) | exact hX.stand _ (by omega) (by omega) | exact hX.reach _ (by omega) (by omega) | exact hX.arm _ (by omega) (by omega) | exact hX.late _ (by omega) (by omega) | exact hX.len _ (by omega) (by omega) | exact hX.say (by omega) (by omega) _ (by omega) (by omega)) (fun b58 => ?_)
    refine ev_virt3 i126_59 g126_59 rfl (by decide +kernel) (Nat.le_of_ble_eq_true rfl) (x_setNumber hX (by omega) (by omega) o2.1 o2.2.2 (fun M h3 h4 => ?_))
    refine ev_aloadn_0 i126_62 ?_
    refine ev_getA i126_63 g126_63 rfl rfl (by decide) ?_
    refine ev_dup i126_66 rfl ?_
    refine ew_getI i126_67 g126_67 rfl ((by rw [h3 51 4 (by omega)]; exact hC.1)) (fun b67 => ?_)
    refine ew_iconst i126_70 ?_
    refine ew_iadd i126_71 ?_
    refine ev_putI i126_72 g126_72 rfl ?_
    refine ev_aloadn_0 i126_75 ?_
    refine ev_getA i126_76 g126_76 rfl rfl (by decide) ?_
    refine ew_getI i126_79 g126_79 rfl ((by show rd (M 51 5) 0 40 (c_all c); rw [h3 51 5 (by omega)]; exact hC.2.1)) (fun b79 => ?_)
    refine ev_aloadn_0 i126_82 ?_
    refine ev_getA i126_83 g126_83 rfl rfl (by decide) ?_
    refine ew_getI i126_86 g126_86 rfl ((rd_zI (lo := 0) (hi := 40) (v := c_done c + 1) (by omega))) (fun b86 => ?_)
    refine ew_isub i126_89 ?_
    refine ev_ireturn i126_90 r126 ?_
    refine hK _ (fr_up (fr_mo h3 (fun a k q => Or.inl q)) (Or.inr (by omega))) (h4.co (fun a p0 p1 => ts_up_na (by omega))) ?_
    have e : RXc M c := hC.co (fun a k q0 q1 => h3 a k (by omega))
    exact ⟨rd_zI (by omega), e.2.1, e.2.2⟩
  · refine ew_bipush i126_17 (by decide) ?_
    refine ev_ireturn i126_19 r126 ?_
    rw [if_pos (by omega), if_pos (by omega), if_pos (by omega)] at hK
    exact hK I (fr_rfl _ _) hX hC
/-- places of the reference that mend writes -/
theorem m_becomes (hM : RM I f) (hC : RMc I c) {n w v : Int} (hn : 0 ≤ n ∧ n ≤ 75) (hg : g_names f n w) (hv : 0 ≤ v ∧ v ≤ g_most w) (hK : ∀ J, fr fmc I J → RM J (g_mendF f n w v) → RMc J (g_mendC f c n w v) → K (some (.int (zI (g_num f n w)))) (J, L, ts_P0 sw, ts_S0)) : ts_Cal X (d + 1) 145 [.ref 72, .int (zI (z_place n w)), .int (zI (v))] (I, L, ts_P0 sw, ts_S0) K := by
  have bm := g_most_r w
  have b0 := hC.1.2
  have bn := g_num_r hM hg
  have hz := z_place_r hM.men.2.2 hM.told.2.2 (fun p h0 h1 => (hM.len p h0 h1).2.2) hg
  unfold g_mendF g_mendC at hK
  have tail : ¬ g_num f n w = v → ∀ J, fr fmc I J → RM J f → RMc J (c_room c) → c_done (c_room c) < 40 → ∀ o, ts_Ev X (ts_Cal X (d + 0)) 145 ts_S0 K 97 [.ref 72, .int (zI (z_place n w)), .int (zI (v)), .int (zI (g_num f n w)), o] [] (J, L, ts_P0 sw, ts_S0) := by
    intro hne J hJ hR hQ hlt o
    have e : g_mOk f n w v := ⟨hg, hv⟩
    rw [if_pos ⟨e, hne⟩, if_pos ⟨e, hne⟩] at hK
    have b2 := hQ.1.2
    refine ev_aloadn_0 i145_97 ?_
    refine ev_getA i145_98 g145_98 rfl rfl (by decide) ?_
    refine ev_aloadn_0 i145_101 ?_
    refine ew_getI i145_102 g145_102 rfl (by first | exact hQ.1 | exact hM.men | exact hM.told | exact hM.road | exact hM.stand _ (by omega) (by omega) | exact hM.reach _ (by omega) (by omega) | exact hM.arm _ (by omega) (by omega) | exact hM.late _ (by omega) (by omega) | exact hM.len _ (by omega) (by omega) | exact hM.corn _ (by omega) (by omega) | exact hM.say (by omega) (by omega) _ (by omega) (by omega) | exact hM.tone _ (by omega) (by omega)) (fun b102 => ?_)
    refine ev_iloadn_1 i145_105 ?_
    refine ew_iastore i145_106 rfl (by omega) (by omega) (by omega) ?_
    refine ev_aloadn_0 i145_107 ?_
    refine ev_getA i145_108 g145_108 rfl rfl (by decide) ?_
    refine ev_aloadn_0 i145_111 ?_
    refine ew_getI i145_112 g145_112 rfl (by first | exact hQ.1 | exact hM.men | exact hM.told | exact hM.road | exact hM.stand _ (by omega) (by omega) | exact hM.reach _ (by omega) (by omega) | exact hM.arm _ (by omega) (by omega) | exact hM.late _ (by omega) (by omega) | exact hM.len _ (by omega) (by omega) | exact hM.corn _ (by omega) (by omega) | exact hM.say (by omega) (by omega) _ (by omega) (by omega) | exact hM.tone _ (by omega) (by omega)) (fun b112 => ?_)
    refine ev_iloadn_3 i145_115 ?_
    refine ew_iastore i145_116 rfl (by omega) (by omega) (by omega) ?_
    refine ev_aloadn_0 i145_117 ?_
    refine ev_getA i145_118 g145_118 rfl rfl (by decide) ?_
    refine ev_aloadn_0 i145_121 ?_
    refine ew_getI i145_122 g145_122 rfl (by first | exact hQ.1 | exact hM.men | exact hM.told | exact hM.road | exact hM.stand _ (by omega) (by omega) | exact hM.reach _ (by omega) (by omega) | exact hM.arm _ (by omega) (by omega) | exact hM.late _ (by omega) (by omega) | exact hM.len _ (by omega) (by omega) | exact hM.corn _ (by omega) (by omega) | exact hM.say (by omega) (by omega) _ (by omega) (by omega) | exact hM.tone _ (by omega) (by omega)) (fun b122 => ?_)
    refine ev_iloadn_2 i145_125 ?_
    refine ew_iastore i145_126 rfl (by omega) (by omega) (by omega) ?_
    refine ev_aloadn_0 i145_127 ?_
    refine ev_dup i145_128 rfl ?_
    refine ew_getI i145_129 g145_129 rfl (by first | exact hQ.1 | exact hM.men | exact hM.told | exact hM.road | exact hM.stand _ (by omega) (by omega) | exact hM.reach _ (by omega) (by omega) | exact hM.arm _ (by omega) (by omega) | exact hM.late _ (by omega) (by omega) | exact hM.len _ (by omega) (by omega) | exact hM.corn _ (by omega) (by omega) | exact hM.say (by omega) (by omega) _ (by omega) (by omega) | exact hM.tone _ (by omega) (by omega)) (fun b129 => ?_)
    refine ew_iconst i145_132 ?_
    refine ew_iadd i145_133 ?_
    refine ev_putI i145_134 g145_134 rfl ?_
    refine ev_aloadn_0 i145_137 ?_
    refine ev_aloadn_0 i145_138 ?_
    refine ew_getI i145_139 g145_139 rfl ((rd_zI (lo := 0) (hi := 40) (v := c_done (c_room c) + 1) (by omega))) (fun b139 => ?_)
    refine ev_putI i145_142 g145_142 rfl ?_
    refine ev_aloadn_0 i145_145 ?_
    refine ev_getA i145_146 g145_146 rfl rfl (by decide) ?_
    refine ev_iloadn_1 i145_149 ?_
    refine ev_iloadn_2 i145_150 ?_
    refine ew_iastore i145_151 rfl (by omega) (by omega) (by omega) ?_
    refine ev_iloadn_3 i145_152 ?_
    refine ev_ireturn i145_153 r145 ?_
    refine hK _ (fr_tr hJ (by repeat' (first | exact fr_rfl _ _ | refine fr_up ?_ (by omega)))) ?_ ⟨rd_zI (by omega), rd_zI (by omega), ?_, ar_up hQ.2.2.2.1 b2.1 (by omega), ar_up hQ.2.2.2.2 b2.1 (by omega)⟩
    · exact RM.put (RM.co72 hR rfl rfl rfl rfl) hg hv
    · have q := ar_up hQ.2.2.1 b2.1 (v := z_place n w) (by omega)
      rw [← zu_2] at q
      exact q
  refine ev_enter (lv := [.ref 72, .int (zI (z_place n w)), .int (zI (v)), .null, .null]) l145 rfl (Nat.le_of_ble_eq_true rfl) ?_
  refine ev_aloadn_0 i145_0 ?_
  refine ev_getA i145_1 g145_1 rfl rfl (by decide) ?_
  refine ev_iloadn_1 i145_4 ?_
  refine ew_iaload i145_5 rfl (by omega) (by omega) (by omega) ((hM.at hg)) (fun b5 => ?_)
  refine ev_istoren_3 i145_6 rfl ?_
  refine ev_iloadn_3 i145_7 ?_
  refine ev_iloadn_2 i145_8 ?_
  refine ew_icmpne i145_9 (by omega) (fun c9 => ?_) (fun c9 => ?_)
  · refine ev_aloadn_0 i145_14 ?_
    refine ew_getI i145_15 g145_15 rfl (by first | exact hC.1 | exact hM.men | exact hM.told | exact hM.road | exact hM.stand _ (by omega) (by omega) | exact hM.reach _ (by omega) (by omega) | exact hM.arm _ (by omega) (by omega) | exact hM.late _ (by omega) (by omega) | exact hM.len _ (by omega) (by omega) | exact hM.corn _ (by omega) (by omega) | exact hM.say (by omega) (by omega) _ (by omega) (by omega) | exact hM.tone _ (by omega) (by omega)) (fun b15 => ?_)
    refine ew_bipush i145_18 (by decide) ?_
    refine ew_icmpne i145_20 (by omega) (fun c20 => ?_) (fun c20 => ?_)
    · exact tail c9 I (fr_rfl _ _) hM (by rw [c_room_1 (by omega)]; exact hC) (by rw [c_room_1 (by omega)]; omega) _
    · refine ew_iconst i145_23 ?_
      refine ev_istore_4 i145_24 rfl ?_
      have loop : ∀ k, 1 ≤ k → k ≤ 40 → ∀ J, fr fmc I J → RM J f → rd (J 72 5) 0 40 (c_done c) → rd (J 72 4) 0 40 (c_all c) → ar J 74 40 0 96 (zsk (fun k => z_place (c_num c k) (c_wh c k)) k) → ar J 75 40 0 20 (zsk (c_be c) k) → ar J 76 40 0 20 (zsk (c_af c) k) → ts_Ev X (ts_Cal X (d + 0)) 145 ts_S0 K 26 [.ref 72, .int (zI (z_place n w)), .int (zI (v)), .int (zI (g_num f n w)), .int (zI (k))] [] (J, L, ts_P0 sw, ts_S0) := by
        refine ts_ind 40 (fun k ih k1 k2 J hJ hR r5 r4 ra rb rc => ?_)
        refine ev_iload_4 i145_26 ?_
        refine ew_bipush i145_28 (by decide) ?_
        refine ew_icmpge i145_30 (by omega) (fun c30 => ?_) (fun c30 => ?_)
        · refine ev_aloadn_0 i145_87 ?_
          refine ev_dup i145_88 rfl ?_
          refine ew_getI i145_89 g145_89 rfl (by first | exact r5 | exact ra _ (by omega) (by omega) | exact rb _ (by omega) (by omega) | exact rc _ (by omega) (by omega) | exact hM.men | exact hM.told | exact hM.road | exact hM.stand _ (by omega) (by omega) | exact hM.reach _ (by omega) (by omega) | exact hM.arm _ (by omega) (by omega) | exact hM.late _ (by omega) (by omega) | exact hM.len _ (by omega) (by omega) | exact hM.corn _ (by omega) (by omega) | exact hM.say (by omega) (by omega) _ (by omega) (by omega) | exact hM.tone _ (by omega) (by omega)) (fun b89 => ?_)
          refine ew_iconst i145_92 ?_
          refine ew_isub i145_93 ?_
          refine ev_putI i145_94 g145_94 rfl ?_
          obtain rfl : k = 40 := by omega
          refine tail c9 _ (fr_up hJ (by omega)) (hR.co72 rfl rfl rfl rfl) ?_ (by rw [c_room_2 (by omega)]; exact (by decide : (39 : Int) < 40)) _
          rw [c_room_2 (by omega)]
          refine ⟨⟨?_, (by decide : (0 : Int) ≤ 39), (by decide : (39 : Int) ≤ 40)⟩, r4, ?_, rb, rc⟩
          · show zI (c_done c - 1) = zI 39
            rw [show c_done c - 1 = 39 from by omega]
          · rw [← zsk_2] at ra
            exact ra
        · refine ev_aloadn_0 i145_33 ?_
          refine ev_getA i145_34 g145_34 rfl rfl (by decide) ?_
          refine ev_iload_4 i145_37 ?_
          refine ew_iconst i145_39 ?_
          refine ew_isub i145_40 ?_
          refine ev_aloadn_0 i145_41 ?_
          refine ev_getA i145_42 g145_42 rfl rfl (by decide) ?_
          refine ev_iload_4 i145_45 ?_
          refine ew_iaload i145_47 rfl (by omega) (by omega) (by omega) (by first | exact r5 | exact ra _ (by omega) (by omega) | exact rb _ (by omega) (by omega) | exact rc _ (by omega) (by omega) | exact hM.men | exact hM.told | exact hM.road | exact hM.stand _ (by omega) (by omega) | exact hM.reach _ (by omega) (by omega) | exact hM.arm _ (by omega) (by omega) | exact hM.late _ (by omega) (by omega) | exact hM.len _ (by omega) (by omega) | exact hM.corn _ (by omega) (by omega) | exact hM.say (by omega) (by omega) _ (by omega) (by omega) | exact hM.tone _ (by omega) (by omega)) (fun b47 => ?_)
          refine ew_iastore i145_48 rfl (by omega) (by omega) (by omega) ?_
          refine ev_aloadn_0 i145_49 ?_
          refine ev_getA i145_50 g145_50 rfl rfl (by decide) ?_
          refine ev_iload_4 i145_53 ?_
          refine ew_iconst i145_55 ?_
          refine ew_isub i145_56 ?_
          refine ev_aloadn_0 i145_57 ?_
          refine ev_getA i145_58 g145_58 rfl rfl (by decide) ?_
          refine ev_iload_4 i145_61 ?_
          refine ew_iaload i145_63 rfl (by omega) (by omega) (by omega) (by first | exact r5 | exact ra _ (by omega) (by omega) | exact rb _ (by omega) (by omega) | exact rc _ (by omega) (by omega) | exact hM.men | exact hM.told | exact hM.road | exact hM.stand _ (by omega) (by omega) | exact hM.reach _ (by omega) (by omega) | exact hM.arm _ (by omega) (by omega) | exact hM.late _ (by omega) (by omega) | exact hM.len _ (by omega) (by omega) | exact hM.corn _ (by omega) (by omega) | exact hM.say (by omega) (by omega) _ (by omega) (by omega) | exact hM.tone _ (by omega) (by omega)) (fun b63 => ?_)
          refine ew_iastore i145_64 rfl (by omega) (by omega) (by omega) ?_
          refine ev_aloadn_0 i145_65 ?_
          refine ev_getA i145_66 g145_66 rfl rfl (by decide) ?_
          refine ev_iload_4 i145_69 ?_
          refine ew_iconst i145_71 ?_
          refine ew_isub i145_72 ?_
          refine ev_aloadn_0 i145_73 ?_
          refine ev_getA i145_74 g145_74 rfl rfl (by decide) ?_
          refine ev_iload_4 i145_77 ?_
          refine ew_iaload i145_79 rfl (by omega) (by omega) (by omega) (by first | exact r5 | exact ra _ (by omega) (by omega) | exact rb _ (by omega) (by omega) | exact rc _ (by omega) (by omega) | exact hM.men | exact hM.told | exact hM.road | exact hM.stand _ (by omega) (by omega) | exact hM.reach _ (by omega) (by omega) | exact hM.arm _ (by omega) (by omega) | exact hM.late _ (by omega) (by omega) | exact hM.len _ (by omega) (by omega) | exact hM.corn _ (by omega) (by omega) | exact hM.say (by omega) (by omega) _ (by omega) (by omega) | exact hM.tone _ (by omega) (by omega)) (fun b79 => ?_)
          refine ew_iastore i145_80 rfl (by omega) (by omega) (by omega) ?_
          refine ew_iinc_4 i145_81 rfl ?_
          refine ev_goto i145_84 ?_
          have qa := ar_up ra (p := k - 1) (v := zsk (fun k => z_place (c_num c k) (c_wh c k)) k k) (by omega) (ra k (by omega) (by omega)).2
          have qb := ar_up rb (p := k - 1) (v := zsk (c_be c) k k) (by omega) (rb k (by omega) (by omega)).2
          have qc := ar_up rc (p := k - 1) (v := zsk (c_af c) k k) (by omega) (rc k (by omega) (by omega)).2
          simp only [zsk_k] at qa qb qc ⊢
          rw [zsk_s k1] at qb qc
          rw [zsk_s (g := fun k => z_place (c_num c k) (c_wh c k)) k1] at qa
          exact ih (by omega) (by omega) (by omega) _ (fr_up (fr_up (fr_up hJ (by omega)) (by omega)) (by omega)) (hR.co72 rfl rfl rfl rfl) r5 r4 qa qb qc
      exact loop 1 (by decide) (by decide) I (fr_rfl _ _) hM hC.1 hC.2.1 (by rw [zsk_1]; exact hC.2.2.1) (by rw [zsk_1]; exact hC.2.2.2.1) (by rw [zsk_1]; exact hC.2.2.2.2)
  · refine ev_iloadn_3 i145_12 ?_
    refine ev_ireturn i145_13 r145 ?_
    rw [if_neg (fun r => r.2 c9), if_neg (fun r => r.2 c9)] at hK
    exact hK I (fr_rfl _ _) hM hC
theorem m_mend (hM : RM I f) (hC : RMc I c) {n w v : Int} (hn : -2147483648 ≤ n ∧ n ≤ 2147483647) (hw : -2147483648 ≤ w ∧ w ≤ 2147483647) (hv : -2147483648 ≤ v ∧ v ≤ 2147483647) (hK : ∀ J, fr fmc I J → RM J (g_mendF f n w v) → RMc J (g_mendC f c n w v) → K (some (.int (zI (g_mendA f n w v)))) (J, L, ts_P0 sw, ts_S0)) : ts_Cal X (d + 4) 157 [.ref 72, .int (zI (n)), .int (zI (w)), .int (zI (v))] (I, L, ts_P0 sw, ts_S0) K := by
  have bm := g_most_r w
  have hz : g_names f n w → 0 ≤ z_place n w ∧ z_place n w < 97 := z_place_r hM.men.2.2 hM.told.2.2 (fun p h0 h1 => (hM.len p h0 h1).2.2)
  have hin : (if g_names f n w then z_place n w else -1) < 0 ↔ ¬ g_names f n w := by
    by_cases c : g_names f n w
    · have := hz c
      rw [if_pos c]
      exact ⟨fun q => by omega, fun q => absurd c q⟩
    · rw [if_neg c]
      exact ⟨fun _ => c, fun _ => by decide⟩
  have hzr : -2147483648 ≤ (if g_names f n w then z_place n w else -1) ∧ (if g_names f n w then z_place n w else -1) ≤ 2147483647 := by
    by_cases c : g_names f n w
    · have := hz c
      rw [if_pos c]
      omega
    · rw [if_neg c]
      decide
  unfold g_mendA at hK
  refine ev_enter (lv := [.ref 72, .int (zI (n)), .int (zI (w)), .int (zI (v)), .null]) l157 rfl (Nat.le_of_ble_eq_true rfl) ?_
  refine ev_aloadn_0 i157_0 ?_
  refine ev_iloadn_1 i157_1 ?_
  refine ev_iloadn_2 i157_2 ?_
  refine ev_virt2 i157_3 g157_3 rfl (by decide +kernel) (Nat.le_of_ble_eq_true rfl) (m_placeOf hM hn hw ?_)
  refine ev_istore_4 i157_6 rfl ?_
  refine ev_iload_4 i157_8 ?_
  refine ew_iflt i157_10 (hzr) (fun c10 => ?_) (fun c10 => ?_)
  · have e : ¬ g_mOk f n w v := fun r => by first | exact absurd r.1 (hin.mp c10) | (rw [if_pos (by omega)] at c24; exact c24 r.2)
    unfold g_mendF g_mendC at hK
    rw [if_neg (fun r => e r.1), if_neg (fun r => e r.1), if_neg e] at hK
    refine ew_iconst i157_37 ?_
    refine ev_ireturn i157_38 r157 ?_
    first | exact hK J q1 q2 q3 | exact hK I (fr_rfl _ _) hM hC
  · have c1 := Decidable.of_not_not (fun q => c10 (hin.mpr q))
    have g0 := g_names_r hM.men.2.2 hM.told.2.2 (fun p h0 h1 => (hM.len p h0 h1).2.2) c1
    refine ev_iloadn_3 i157_13 ?_
    refine ew_i2l i157_14 (by omega) ?_
    refine ew_lconst (z := 0) i157_15 (by decide) ?_
    refine ev_iloadn_2 i157_16 ?_
    refine ev_stat1 i157_17 g157_17 (by decide +kernel) (Nat.le_of_ble_eq_true rfl) (m_mostOf hw ?_)
    refine ew_i2l i157_20 (by split <;> omega) ?_
    refine ev_stat3 i157_21 g157_21 (by decide +kernel) (Nat.le_of_ble_eq_true rfl) (m_within (by omega) (by omega) (by split <;> omega) ?_)
    first
    | refine ew_ifeqB i157_24 (fun c24 => ?_) (fun c24 => ?_)
    | refine ew_ifeq i157_24 (by omega) (fun c24 => ?_) (fun c24 => ?_)
    · have e : ¬ g_mOk f n w v := fun r => by first | exact absurd r.1 (hin.mp c10) | (rw [if_pos (by omega)] at c24; exact c24 r.2)
      unfold g_mendF g_mendC at hK
      rw [if_neg (fun r => e r.1), if_neg (fun r => e r.1), if_neg e] at hK
      refine ew_iconst i157_37 ?_
      refine ev_ireturn i157_38 r157 ?_
      first | exact hK J q1 q2 q3 | exact hK I (fr_rfl _ _) hM hC
    · rw [if_pos (by omega)] at c24
      rw [if_pos ⟨c1, c24⟩] at hK
      rw [if_pos c1]
      refine ev_aloadn_0 i157_27 ?_
      refine ev_iload_4 i157_28 ?_
      refine ev_iloadn_3 i157_30 ?_
      refine ev_virt2 i157_31 g157_31 rfl (by decide +kernel) (Nat.le_of_ble_eq_true rfl) (m_becomes hM hC (by omega) c1 c24 (fun J q1 q2 q3 => ?_))
      refine ev_goto i157_34 ?_
      refine ev_ireturn i157_38 r157 ?_
      first | exact hK J q1 q2 q3 | exact hK I (fr_rfl _ _) hM hC
theorem m_undo (hM : RM I f) (hC : RMc I c) (hO : ROc f c) (hK : ∀ J, fr fmc I J → RM J (g_undoF f c) → RMc J (g_undoC c) → K (some (.int (zI (g_undoA c)))) (J, L, ts_P0 sw, ts_S0)) : ts_Cal X (d + 1) 146 [.ref 72] (I, L, ts_P0 sw, ts_S0) K := by
  have b0 := hC.1.2
  have o1 := hO.1
  have b3 := hC.2.1.2
  unfold g_undoF g_undoC g_undoA at hK
  refine ev_enter (lv := [.ref 72]) l146 rfl (Nat.le_of_ble_eq_true rfl) ?_
  refine ev_aloadn_0 i146_0 ?_
  refine ew_getI i146_1 g146_1 rfl (by first | exact hC.2.2.2.1 _ (by omega) (by omega) | exact hC.2.2.1 _ (by omega) (by omega) | exact hC.1 | exact hM.men | exact hM.told | exact hM.road | exact hM.stand _ (by omega) (by omega) | exact hM.reach _ (by omega) (by omega) | exact hM.arm _ (by omega) (by omega) | exact hM.late _ (by omega) (by omega) | exact hM.len _ (by omega) (by omega) | exact hM.corn _ (by omega) (by omega) | exact hM.say (by omega) (by omega) _ (by omega) (by omega) | exact hM.tone _ (by omega) (by omega)) (fun b1 => ?_)
  first
  | refine ew_ifneB i146_4 (fun c4 => ?_) (fun c4 => ?_)
  | refine ew_ifne i146_4 (by omega) (fun c4 => ?_) (fun c4 => ?_)
  · have o2 := hO.2 (c_done c - 1) (by omega) (by omega)
    rw [if_neg c4, if_neg c4, if_neg c4] at hK
    have hz := z_place_r hM.men.2.2 hM.told.2.2 (fun p h0 h1 => (hM.len p h0 h1).2.2) o2.1
    refine ev_aloadn_0 i146_10 ?_
    refine ev_dup i146_11 rfl ?_
    refine ew_getI i146_12 g146_12 rfl (by first | exact hC.2.2.2.1 _ (by omega) (by omega) | exact hC.2.2.1 _ (by omega) (by omega) | exact hC.1 | exact hM.men | exact hM.told | exact hM.road | exact hM.stand _ (by omega) (by omega) | exact hM.reach _ (by omega) (by omega) | exact hM.arm _ (by omega) (by omega) | exact hM.late _ (by omega) (by omega) | exact hM.len _ (by omega) (by omega) | exact hM.corn _ (by omega) (by omega) | exact hM.say (by omega) (by omega) _ (by omega) (by omega) | exact hM.tone _ (by omega) (by omega)) (fun b12 => ?_)
    refine ew_iconst i146_15 ?_
    refine ew_isub i146_16 ?_
    refine ev_putI i146_17 g146_17 rfl ?_
    refine ev_aloadn_0 i146_20 ?_
    refine ev_getA i146_21 g146_21 rfl rfl (by decide) ?_
    refine ev_aloadn_0 i146_24 ?_
    refine ev_getA i146_25 g146_25 rfl rfl (by decide) ?_
    refine ev_aloadn_0 i146_28 ?_
    refine ew_getI i146_29 g146_29 rfl ((rd_zI (lo := 0) (hi := 40) (v := c_done c - 1) (by omega))) (fun b29 => ?_)
    refine ew_iaload i146_32 rfl (by omega) (by omega) (by omega) (by first | exact hC.2.2.2.1 _ (by omega) (by omega) | exact hC.2.2.1 _ (by omega) (by omega) | exact hC.1 | exact hM.men | exact hM.told | exact hM.road | exact hM.stand _ (by omega) (by omega) | exact hM.reach _ (by omega) (by omega) | exact hM.arm _ (by omega) (by omega) | exact hM.late _ (by omega) (by omega) | exact hM.len _ (by omega) (by omega) | exact hM.corn _ (by omega) (by omega) | exact hM.say (by omega) (by omega) _ (by omega) (by omega) | exact hM.tone _ (by omega) (by omega)) (fun b32 => ?_)
    refine ev_aloadn_0 i146_33 ?_
    refine ev_getA i146_34 g146_34 rfl rfl (by decide) ?_
    refine ev_aloadn_0 i146_37 ?_
    refine ew_getI i146_38 g146_38 rfl ((rd_zI (lo := 0) (hi := 40) (v := c_done c - 1) (by omega))) (fun b38 => ?_)
    refine ew_iaload i146_41 rfl (by omega) (by omega) (by omega) (by first | exact hC.2.2.2.1 _ (by omega) (by omega) | exact hC.2.2.1 _ (by omega) (by omega) | exact hC.1 | exact hM.men | exact hM.told | exact hM.road | exact hM.stand _ (by omega) (by omega) | exact hM.reach _ (by omega) (by omega) | exact hM.arm _ (by omega) (by omega) | exact hM.late _ (by omega) (by omega) | exact hM.len _ (by omega) (by omega) | exact hM.corn _ (by omega) (by omega) | exact hM.say (by omega) (by omega) _ (by omega) (by omega) | exact hM.tone _ (by omega) (by omega)) (fun b41 => ?_)
    refine ew_iastore i146_42 rfl (by omega) (by omega) (by omega) ?_
    refine ev_aloadn_0 i146_43 ?_
    refine ew_getI i146_44 g146_44 rfl ((rd_zI (lo := 0) (hi := 40) (v := c_done c - 1) (by omega))) (fun b44 => ?_)
    refine ev_ireturn i146_47 r146 ?_
    exact hK _ (by repeat' (first | exact fr_rfl _ _ | refine fr_up ?_ (by omega))) (RM.put (hM.co72 rfl rfl rfl rfl) o2.1 o2.2.1) ⟨rd_zI (by omega), hC.2.1, hC.2.2⟩
  · refine ew_bipush i146_7 (by decide) ?_
    refine ev_ireturn i146_9 r146 ?_
    rw [if_pos c4, if_pos c4, if_pos c4] at hK
    exact hK I (fr_rfl _ _) hM hC
theorem m_redo (hM : RM I f) (hC : RMc I c) (hO : ROc f c) (hK : ∀ J, fr fmc I J → RM J (g_redoF f c) → RMc J (g_redoC c) → K (some (.int (zI (g_redoA c)))) (J, L, ts_P0 sw, ts_S0)) : ts_Cal X (d + 1) 147 [.ref 72] (I, L, ts_P0 sw, ts_S0) K := by
  have b0 := hC.1.2
  have o1 := hO.1
  have b3 := hC.2.1.2
  unfold g_redoF g_redoC g_redoA at hK
  refine ev_enter (lv := [.ref 72]) l147 rfl (Nat.le_of_ble_eq_true rfl) ?_
  refine ev_aloadn_0 i147_0 ?_
  refine ew_getI i147_1 g147_1 rfl (by first | exact hC.2.2.2.2 _ (by omega) (by omega) | exact hC.2.2.1 _ (by omega) (by omega) | exact hC.1 | exact hC.2.1 | exact hM.men | exact hM.told | exact hM.road | exact hM.stand _ (by omega) (by omega) | exact hM.reach _ (by omega) (by omega) | exact hM.arm _ (by omega) (by omega) | exact hM.late _ (by omega) (by omega) | exact hM.len _ (by omega) (by omega) | exact hM.corn _ (by omega) (by omega) | exact hM.say (by omega) (by omega) _ (by omega) (by omega) | exact hM.tone _ (by omega) (by omega)) (fun b1 => ?_)
  refine ev_aloadn_0 i147_4 ?_
  refine ew_getI i147_5 g147_5 rfl (by first | exact hC.2.2.2.2 _ (by omega) (by omega) | exact hC.2.2.1 _ (by omega) (by omega) | exact hC.1 | exact hC.2.1 | exact hM.men | exact hM.told | exact hM.road | exact hM.stand _ (by omega) (by omega) | exact hM.reach _ (by omega) (by omega) | exact hM.arm _ (by omega) (by omega) | exact hM.late _ (by omega) (by omega) | exact hM.len _ (by omega) (by omega) | exact hM.corn _ (by omega) (by omega) | exact hM.say (by omega) (by omega) _ (by omega) (by omega) | exact hM.tone _ (by omega) (by omega)) (fun b5 => ?_)
  refine ew_icmpne i147_8 (by omega) (fun c8 => ?_) (fun c8 => ?_)
  · have o2 := hO.2 (c_done c) (by omega) (by omega)
    rw [if_neg c8, if_neg c8, if_neg c8] at hK
    have hz := z_place_r hM.men.2.2 hM.told.2.2 (fun p h0 h1 => (hM.len p h0 h1).2.2) o2.1
    refine ev_aloadn_0 i147_14 ?_
    refine ev_getA i147_15 g147_15 rfl rfl (by decide) ?_
    refine ev_aloadn_0 i147_18 ?_
    refine ev_getA i147_19 g147_19 rfl rfl (by decide) ?_
    refine ev_aloadn_0 i147_22 ?_
    refine ew_getI i147_23 g147_23 rfl (by first | exact hC.2.2.2.2 _ (by omega) (by omega) | exact hC.2.2.1 _ (by omega) (by omega) | exact hC.1 | exact hC.2.1 | exact hM.men | exact hM.told | exact hM.road | exact hM.stand _ (by omega) (by omega) | exact hM.reach _ (by omega) (by omega) | exact hM.arm _ (by omega) (by omega) | exact hM.late _ (by omega) (by omega) | exact hM.len _ (by omega) (by omega) | exact hM.corn _ (by omega) (by omega) | exact hM.say (by omega) (by omega) _ (by omega) (by omega) | exact hM.tone _ (by omega) (by omega)) (fun b23 => ?_)
    refine ew_iaload i147_26 rfl (by omega) (by omega) (by omega) (by first | exact hC.2.2.2.2 _ (by omega) (by omega) | exact hC.2.2.1 _ (by omega) (by omega) | exact hC.1 | exact hC.2.1 | exact hM.men | exact hM.told | exact hM.road | exact hM.stand _ (by omega) (by omega) | exact hM.reach _ (by omega) (by omega) | exact hM.arm _ (by omega) (by omega) | exact hM.late _ (by omega) (by omega) | exact hM.len _ (by omega) (by omega) | exact hM.corn _ (by omega) (by omega) | exact hM.say (by omega) (by omega) _ (by omega) (by omega) | exact hM.tone _ (by omega) (by omega)) (fun b26 => ?_)
    refine ev_aloadn_0 i147_27 ?_
    refine ev_getA i147_28 g147_28 rfl rfl (by decide) ?_
    refine ev_aloadn_0 i147_31 ?_
    refine ew_getI i147_32 g147_32 rfl (by first | exact hC.2.2.2.2 _ (by omega) (by omega) | exact hC.2.2.1 _ (by omega) (by omega) | exact hC.1 | exact hC.2.1 | exact hM.men | exact hM.told | exact hM.road | exact hM.stand _ (by omega) (by omega) | exact hM.reach _ (by omega) (by omega) | exact hM.arm _ (by omega) (by omega) | exact hM.late _ (by omega) (by omega) | exact hM.len _ (by omega) (by omega) | exact hM.corn _ (by omega) (by omega) | exact hM.say (by omega) (by omega) _ (by omega) (by omega) | exact hM.tone _ (by omega) (by omega)) (fun b32 => ?_)
    refine ew_iaload i147_35 rfl (by omega) (by omega) (by omega) (by first | exact hC.2.2.2.2 _ (by omega) (by omega) | exact hC.2.2.1 _ (by omega) (by omega) | exact hC.1 | exact hC.2.1 | exact hM.men | exact hM.told | exact hM.road | exact hM.stand _ (by omega) (by omega) | exact hM.reach _ (by omega) (by omega) | exact hM.arm _ (by omega) (by omega) | exact hM.late _ (by omega) (by omega) | exact hM.len _ (by omega) (by omega) | exact hM.corn _ (by omega) (by omega) | exact hM.say (by omega) (by omega) _ (by omega) (by omega) | exact hM.tone _ (by omega) (by omega)) (fun b35 => ?_)
    refine ew_iastore i147_36 rfl (by omega) (by omega) (by omega) ?_
    refine ev_aloadn_0 i147_37 ?_
    refine ev_dup i147_38 rfl ?_
    refine ew_getI i147_39 g147_39 rfl (by first | exact hC.2.2.2.2 _ (by omega) (by omega) | exact hC.2.2.1 _ (by omega) (by omega) | exact hC.1 | exact hC.2.1 | exact hM.men | exact hM.told | exact hM.road | exact hM.stand _ (by omega) (by omega) | exact hM.reach _ (by omega) (by omega) | exact hM.arm _ (by omega) (by omega) | exact hM.late _ (by omega) (by omega) | exact hM.len _ (by omega) (by omega) | exact hM.corn _ (by omega) (by omega) | exact hM.say (by omega) (by omega) _ (by omega) (by omega) | exact hM.tone _ (by omega) (by omega)) (fun b39 => ?_)
    refine ew_iconst i147_42 ?_
    refine ew_iadd i147_43 ?_
    refine ev_putI i147_44 g147_44 rfl ?_
    refine ev_aloadn_0 i147_47 ?_
    refine ew_getI i147_48 g147_48 rfl (by first | exact hC.2.2.2.2 _ (by omega) (by omega) | exact hC.2.2.1 _ (by omega) (by omega) | exact hC.1 | exact hC.2.1 | exact hM.men | exact hM.told | exact hM.road | exact hM.stand _ (by omega) (by omega) | exact hM.reach _ (by omega) (by omega) | exact hM.arm _ (by omega) (by omega) | exact hM.late _ (by omega) (by omega) | exact hM.len _ (by omega) (by omega) | exact hM.corn _ (by omega) (by omega) | exact hM.say (by omega) (by omega) _ (by omega) (by omega) | exact hM.tone _ (by omega) (by omega)) (fun b48 => ?_)
    refine ev_aloadn_0 i147_51 ?_
    refine ew_getI i147_52 g147_52 rfl ((rd_zI (lo := 0) (hi := 40) (v := c_done c + 1) (by omega))) (fun b52 => ?_)
    refine ew_isub i147_55 ?_
    refine ev_ireturn i147_56 r147 ?_
    exact hK _ (by repeat' (first | exact fr_rfl _ _ | refine fr_up ?_ (by omega))) (RM.co72 (RM.put hM o2.1 o2.2.2) rfl rfl rfl rfl) ⟨rd_zI (by omega), hC.2.1, hC.2.2⟩
  · refine ew_bipush i147_11 (by decide) ?_
    refine ev_ireturn i147_13 r147 ?_
    rw [if_pos c8, if_pos c8, if_pos c8] at hK
    exact hK I (fr_rfl _ _) hM hC
end UN
