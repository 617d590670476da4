theorem i32_0 : ts_ins 32 0 = some (.aload_n 0, 1, 0) := by decide +kernel
theorem i32_1 : ts_ins 32 1 = some (.iload_n 1, 2, 0) := by decide +kernel
theorem i32_2 : ts_ins 32 2 = some (.invokevirtual 72, 5, 0) := by decide +kernel
theorem g32_2 : ts_cal (ts_mc 32) 72 = some (0, 20, 1) := by decide +kernel
theorem i32_5 : ts_ins 32 5 = some (.ifCond .eq 26, 8, 31) := by decide +kernel
theorem i32_8 : ts_ins 32 8 = some (.aload_n 0, 9, 0) := by decide +kernel
theorem i32_9 : ts_ins 32 9 = some (.iload_n 2, 10, 0) := by decide +kernel
theorem i32_10 : ts_ins 32 10 = some (.invokevirtual 72, 13, 0) := by decide +kernel
theorem g32_10 : ts_cal (ts_mc 32) 72 = some (0, 20, 1) := by decide +kernel
theorem i32_13 : ts_ins 32 13 = some (.ifCond .eq 18, 16, 31) := by decide +kernel
theorem i32_16 : ts_ins 32 16 = some (.aload_n 0, 17, 0) := by decide +kernel
theorem i32_17 : ts_ins 32 17 = some (.getfield 35, 20, 0) := by decide +kernel
theorem g32_17 : ts_fm 32 35 = some (3, 7, 2) := by decide +kernel
theorem i32_20 : ts_ins 32 20 = some (.iload_n 1, 21, 0) := by decide +kernel
theorem i32_21 : ts_ins 32 21 = some (.iaload, 22, 0) := by decide +kernel
theorem i32_22 : ts_ins 32 22 = some (.aload_n 0, 23, 0) := by decide +kernel
theorem i32_23 : ts_ins 32 23 = some (.getfield 35, 26, 0) := by decide +kernel
theorem g32_23 : ts_fm 32 35 = some (3, 7, 2) := by decide +kernel
theorem i32_26 : ts_ins 32 26 = some (.iload_n 2, 27, 0) := by decide +kernel
theorem i32_27 : ts_ins 32 27 = some (.iaload, 28, 0) := by decide +kernel
theorem i32_28 : ts_ins 32 28 = some (.if_icmp .eq 6, 31, 34) := by decide +kernel
theorem i32_31 : ts_ins 32 31 = some (.bipush (-2), 33, 0) := by decide +kernel
theorem i32_33 : ts_ins 32 33 = some (.ireturn, 34, 0) := by decide +kernel
theorem i32_34 : ts_ins 32 34 = some (.iconst 0, 35, 0) := by decide +kernel
theorem i32_35 : ts_ins 32 35 = some (.istore_n 3, 36, 0) := by decide +kernel
theorem i32_36 : ts_ins 32 36 = some (.iconst 0, 37, 0) := by decide +kernel
theorem i32_37 : ts_ins 32 37 = some (.istore 4, 39, 0) := by decide +kernel
theorem i32_39 : ts_ins 32 39 = some (.iload 4, 41, 0) := by decide +kernel
theorem i32_41 : ts_ins 32 41 = some (.aload_n 0, 42, 0) := by decide +kernel
theorem i32_42 : ts_ins 32 42 = some (.getfield 35, 45, 0) := by decide +kernel
theorem g32_42 : ts_fm 32 35 = some (3, 7, 2) := by decide +kernel
theorem i32_45 : ts_ins 32 45 = some (.iload_n 1, 46, 0) := by decide +kernel
theorem i32_46 : ts_ins 32 46 = some (.iaload, 47, 0) := by decide +kernel
theorem i32_47 : ts_ins 32 47 = some (.if_icmp .ge 38, 50, 85) := by decide +kernel
theorem i32_50 : ts_ins 32 50 = some (.iload_n 3, 51, 0) := by decide +kernel
theorem i32_51 : ts_ins 32 51 = some (.aload_n 0, 52, 0) := by decide +kernel
theorem i32_52 : ts_ins 32 52 = some (.getfield 32, 55, 0) := by decide +kernel
theorem g32_52 : ts_fm 32 32 = some (3, 6, 2) := by decide +kernel
theorem i32_55 : ts_ins 32 55 = some (.iload_n 1, 56, 0) := by decide +kernel
theorem i32_56 : ts_ins 32 56 = some (.aaload, 57, 0) := by decide +kernel
theorem i32_57 : ts_ins 32 57 = some (.iload 4, 59, 0) := by decide +kernel
theorem i32_59 : ts_ins 32 59 = some (.iaload, 60, 0) := by decide +kernel
theorem i32_60 : ts_ins 32 60 = some (.aload_n 0, 61, 0) := by decide +kernel
theorem i32_61 : ts_ins 32 61 = some (.getfield 32, 64, 0) := by decide +kernel
theorem g32_61 : ts_fm 32 32 = some (3, 6, 2) := by decide +kernel
theorem i32_64 : ts_ins 32 64 = some (.iload_n 2, 65, 0) := by decide +kernel
theorem i32_65 : ts_ins 32 65 = some (.aaload, 66, 0) := by decide +kernel
theorem i32_66 : ts_ins 32 66 = some (.iload 4, 68, 0) := by decide +kernel
theorem i32_68 : ts_ins 32 68 = some (.iaload, 69, 0) := by decide +kernel
theorem i32_69 : ts_ins 32 69 = some (.if_icmp .eq 7, 72, 76) := by decide +kernel
theorem i32_72 : ts_ins 32 72 = some (.iconst 1, 73, 0) := by decide +kernel
theorem i32_73 : ts_ins 32 73 = some (.goto 4, 76, 77) := by decide +kernel
theorem i32_76 : ts_ins 32 76 = some (.iconst 0, 77, 0) := by decide +kernel
theorem i32_77 : ts_ins 32 77 = some (.iadd, 78, 0) := by decide +kernel
theorem i32_78 : ts_ins 32 78 = some (.istore_n 3, 79, 0) := by decide +kernel
theorem i32_79 : ts_ins 32 79 = some (.iinc 4 1, 82, 0) := by decide +kernel
theorem i32_82 : ts_ins 32 82 = some (.goto (-43), 85, 39) := by decide +kernel
theorem i32_85 : ts_ins 32 85 = some (.iload_n 3, 86, 0) := by decide +kernel
theorem i32_86 : ts_ins 32 86 = some (.ireturn, 87, 0) := by decide +kernel
theorem r32 : ts_rt 32 = ((some .int), 0, 0) := by decide +kernel
theorem l32 : ts_ml 32 = 5 := by decide +kernel
theorem i200_0 : ts_ins 200 0 = some (.aload_n 0, 1, 0) := by decide +kernel
theorem i200_1 : ts_ins 200 1 = some (.getfield 22, 4, 0) := by decide +kernel
theorem g200_1 : ts_fm 200 22 = some (12, 8, 2) := by decide +kernel
theorem i200_4 : ts_ins 200 4 = some (.iload_n 1, 5, 0) := by decide +kernel
theorem i200_5 : ts_ins 200 5 = some (.iaload, 6, 0) := by decide +kernel
theorem i200_6 : ts_ins 200 6 = some (.aload_n 0, 7, 0) := by decide +kernel
theorem i200_7 : ts_ins 200 7 = some (.getfield 22, 10, 0) := by decide +kernel
theorem g200_7 : ts_fm 200 22 = some (12, 8, 2) := by decide +kernel
theorem i200_10 : ts_ins 200 10 = some (.iload_n 2, 11, 0) := by decide +kernel
theorem i200_11 : ts_ins 200 11 = some (.iaload, 12, 0) := by decide +kernel
theorem i200_12 : ts_ins 200 12 = some (.if_icmp .eq 6, 15, 18) := by decide +kernel
theorem i200_15 : ts_ins 200 15 = some (.bipush (-2), 17, 0) := by decide +kernel
theorem i200_17 : ts_ins 200 17 = some (.ireturn, 18, 0) := by decide +kernel
theorem i200_18 : ts_ins 200 18 = some (.iconst 0, 19, 0) := by decide +kernel
theorem i200_19 : ts_ins 200 19 = some (.istore_n 3, 20, 0) := by decide +kernel
theorem i200_20 : ts_ins 200 20 = some (.iconst 0, 21, 0) := by decide +kernel
theorem i200_21 : ts_ins 200 21 = some (.istore 4, 23, 0) := by decide +kernel
theorem i200_23 : ts_ins 200 23 = some (.iload 4, 25, 0) := by decide +kernel
theorem i200_25 : ts_ins 200 25 = some (.aload_n 0, 26, 0) := by decide +kernel
theorem i200_26 : ts_ins 200 26 = some (.getfield 22, 29, 0) := by decide +kernel
theorem g200_26 : ts_fm 200 22 = some (12, 8, 2) := by decide +kernel
theorem i200_29 : ts_ins 200 29 = some (.iload_n 1, 30, 0) := by decide +kernel
theorem i200_30 : ts_ins 200 30 = some (.iaload, 31, 0) := by decide +kernel
theorem i200_31 : ts_ins 200 31 = some (.if_icmp .ge 50, 34, 81) := by decide +kernel
theorem i200_34 : ts_ins 200 34 = some (.iload_n 3, 35, 0) := by decide +kernel
theorem i200_35 : ts_ins 200 35 = some (.aload_n 0, 36, 0) := by decide +kernel
theorem i200_36 : ts_ins 200 36 = some (.getfield 9, 39, 0) := by decide +kernel
theorem g200_36 : ts_fm 200 9 = some (12, 0, 2) := by decide +kernel
theorem i200_39 : ts_ins 200 39 = some (.bipush 49, 41, 0) := by decide +kernel
theorem i200_41 : ts_ins 200 41 = some (.bipush 6, 43, 0) := by decide +kernel
theorem i200_43 : ts_ins 200 43 = some (.iload_n 1, 44, 0) := by decide +kernel
theorem i200_44 : ts_ins 200 44 = some (.imul, 45, 0) := by decide +kernel
theorem i200_45 : ts_ins 200 45 = some (.iadd, 46, 0) := by decide +kernel
theorem i200_46 : ts_ins 200 46 = some (.iload 4, 48, 0) := by decide +kernel
theorem i200_48 : ts_ins 200 48 = some (.iadd, 49, 0) := by decide +kernel
theorem i200_49 : ts_ins 200 49 = some (.iaload, 50, 0) := by decide +kernel
theorem i200_50 : ts_ins 200 50 = some (.aload_n 0, 51, 0) := by decide +kernel
theorem i200_51 : ts_ins 200 51 = some (.getfield 9, 54, 0) := by decide +kernel
theorem g200_51 : ts_fm 200 9 = some (12, 0, 2) := by decide +kernel
theorem i200_54 : ts_ins 200 54 = some (.bipush 49, 56, 0) := by decide +kernel
theorem i200_56 : ts_ins 200 56 = some (.bipush 6, 58, 0) := by decide +kernel
theorem i200_58 : ts_ins 200 58 = some (.iload_n 2, 59, 0) := by decide +kernel
theorem i200_59 : ts_ins 200 59 = some (.imul, 60, 0) := by decide +kernel
theorem i200_60 : ts_ins 200 60 = some (.iadd, 61, 0) := by decide +kernel
theorem i200_61 : ts_ins 200 61 = some (.iload 4, 63, 0) := by decide +kernel
theorem i200_63 : ts_ins 200 63 = some (.iadd, 64, 0) := by decide +kernel
theorem i200_64 : ts_ins 200 64 = some (.iaload, 65, 0) := by decide +kernel
theorem i200_65 : ts_ins 200 65 = some (.if_icmp .eq 7, 68, 72) := by decide +kernel
theorem i200_68 : ts_ins 200 68 = some (.iconst 1, 69, 0) := by decide +kernel
theorem i200_69 : ts_ins 200 69 = some (.goto 4, 72, 73) := by decide +kernel
theorem i200_72 : ts_ins 200 72 = some (.iconst 0, 73, 0) := by decide +kernel
theorem i200_73 : ts_ins 200 73 = some (.iadd, 74, 0) := by decide +kernel
theorem i200_74 : ts_ins 200 74 = some (.istore_n 3, 75, 0) := by decide +kernel
theorem i200_75 : ts_ins 200 75 = some (.iinc 4 1, 78, 0) := by decide +kernel
theorem i200_78 : ts_ins 200 78 = some (.goto (-55), 81, 23) := by decide +kernel
theorem i200_81 : ts_ins 200 81 = some (.iload_n 3, 82, 0) := by decide +kernel
theorem i200_82 : ts_ins 200 82 = some (.ireturn, 83, 0) := by decide +kernel
theorem r200 : ts_rt 200 = ((some .int), 0, 0) := by decide +kernel
theorem l200 : ts_ml 200 = 5 := by decide +kernel
theorem i112_0 : ts_ins 112 0 = some (.iload_n 1, 1, 0) := by decide +kernel
theorem i112_1 : ts_ins 112 1 = some (.ifCond .lt 31, 4, 32) := by decide +kernel
theorem i112_4 : ts_ins 112 4 = some (.aload_n 0, 5, 0) := by decide +kernel
theorem i112_5 : ts_ins 112 5 = some (.getfield 10, 8, 0) := by decide +kernel
theorem g112_5 : ts_fm 112 10 = some (11, 0, 2) := by decide +kernel
theorem i112_8 : ts_ins 112 8 = some (.iload_n 1, 9, 0) := by decide +kernel
theorem i112_9 : ts_ins 112 9 = some (.bipush 10, 11, 0) := by decide +kernel
theorem i112_11 : ts_ins 112 11 = some (.idiv, 12, 0) := by decide +kernel
theorem i112_12 : ts_ins 112 12 = some (.invokevirtual 129, 15, 0) := by decide +kernel
theorem g112_12 : ts_cal (ts_mc 112) 129 = some (0, 20, 1) := by decide +kernel
theorem i112_15 : ts_ins 112 15 = some (.ifCond .eq 17, 18, 32) := by decide +kernel
theorem i112_18 : ts_ins 112 18 = some (.aload_n 0, 19, 0) := by decide +kernel
theorem i112_19 : ts_ins 112 19 = some (.getfield 10, 22, 0) := by decide +kernel
theorem g112_19 : ts_fm 112 10 = some (11, 0, 2) := by decide +kernel
theorem i112_22 : ts_ins 112 22 = some (.iload_n 1, 23, 0) := by decide +kernel
theorem i112_23 : ts_ins 112 23 = some (.bipush 10, 25, 0) := by decide +kernel
theorem i112_25 : ts_ins 112 25 = some (.irem, 26, 0) := by decide +kernel
theorem i112_26 : ts_ins 112 26 = some (.invokevirtual 129, 29, 0) := by decide +kernel
theorem g112_26 : ts_cal (ts_mc 112) 129 = some (0, 20, 1) := by decide +kernel
theorem i112_29 : ts_ins 112 29 = some (.ifCond .ne 5, 32, 34) := by decide +kernel
theorem i112_32 : ts_ins 112 32 = some (.iconst (-1), 33, 0) := by decide +kernel
theorem i112_33 : ts_ins 112 33 = some (.ireturn, 34, 0) := by decide +kernel
theorem i112_34 : ts_ins 112 34 = some (.aload_n 0, 35, 0) := by decide +kernel
theorem i112_35 : ts_ins 112 35 = some (.getfield 10, 38, 0) := by decide +kernel
theorem g112_35 : ts_fm 112 10 = some (11, 0, 2) := by decide +kernel
theorem i112_38 : ts_ins 112 38 = some (.iload_n 1, 39, 0) := by decide +kernel
theorem i112_39 : ts_ins 112 39 = some (.bipush 10, 41, 0) := by decide +kernel
theorem i112_41 : ts_ins 112 41 = some (.idiv, 42, 0) := by decide +kernel
theorem i112_42 : ts_ins 112 42 = some (.iload_n 1, 43, 0) := by decide +kernel
theorem i112_43 : ts_ins 112 43 = some (.bipush 10, 45, 0) := by decide +kernel
theorem i112_45 : ts_ins 112 45 = some (.irem, 46, 0) := by decide +kernel
theorem i112_46 : ts_ins 112 46 = some (.invokevirtual 258, 49, 0) := by decide +kernel
theorem g112_46 : ts_cal (ts_mc 112) 258 = some (0, 32, 2) := by decide +kernel
theorem i112_49 : ts_ins 112 49 = some (.ireturn, 50, 0) := by decide +kernel
theorem r112 : ts_rt 112 = ((some .int), 0, 0) := by decide +kernel
theorem l112 : ts_ml 112 = 2 := by decide +kernel
theorem i201_0 : ts_ins 201 0 = some (.iload_n 1, 1, 0) := by decide +kernel
theorem i201_1 : ts_ins 201 1 = some (.ifCond .lt 42, 4, 43) := by decide +kernel
theorem i201_4 : ts_ins 201 4 = some (.aload_n 0, 5, 0) := by decide +kernel
theorem i201_5 : ts_ins 201 5 = some (.iload_n 1, 6, 0) := by decide +kernel
theorem i201_6 : ts_ins 201 6 = some (.bipush 10, 8, 0) := by decide +kernel
theorem i201_8 : ts_ins 201 8 = some (.idiv, 9, 0) := by decide +kernel
theorem i201_9 : ts_ins 201 9 = some (.i2l, 10, 0) := by decide +kernel
theorem i201_10 : ts_ins 201 10 = some (.invokevirtual 131, 13, 0) := by decide +kernel
theorem g201_10 : ts_cal (ts_mc 201) 131 = some (0, 150, 1) := by decide +kernel
theorem i201_13 : ts_ins 201 13 = some (.ifCond .eq 30, 16, 43) := by decide +kernel
theorem i201_16 : ts_ins 201 16 = some (.aload_n 0, 17, 0) := by decide +kernel
theorem i201_17 : ts_ins 201 17 = some (.iload_n 1, 18, 0) := by decide +kernel
theorem i201_18 : ts_ins 201 18 = some (.bipush 10, 20, 0) := by decide +kernel
theorem i201_20 : ts_ins 201 20 = some (.irem, 21, 0) := by decide +kernel
theorem i201_21 : ts_ins 201 21 = some (.i2l, 22, 0) := by decide +kernel
theorem i201_22 : ts_ins 201 22 = some (.invokevirtual 131, 25, 0) := by decide +kernel
theorem g201_22 : ts_cal (ts_mc 201) 131 = some (0, 150, 1) := by decide +kernel
theorem i201_25 : ts_ins 201 25 = some (.ifCond .eq 18, 28, 43) := by decide +kernel
theorem i201_28 : ts_ins 201 28 = some (.aload_n 0, 29, 0) := by decide +kernel
theorem i201_29 : ts_ins 201 29 = some (.iload_n 1, 30, 0) := by decide +kernel
theorem i201_30 : ts_ins 201 30 = some (.bipush 10, 32, 0) := by decide +kernel
theorem i201_32 : ts_ins 201 32 = some (.idiv, 33, 0) := by decide +kernel
theorem i201_33 : ts_ins 201 33 = some (.iload_n 1, 34, 0) := by decide +kernel
theorem i201_34 : ts_ins 201 34 = some (.bipush 10, 36, 0) := by decide +kernel
theorem i201_36 : ts_ins 201 36 = some (.irem, 37, 0) := by decide +kernel
theorem i201_37 : ts_ins 201 37 = some (.invokevirtual 270, 40, 0) := by decide +kernel
theorem g201_37 : ts_cal (ts_mc 201) 270 = some (0, 200, 2) := by decide +kernel
theorem i201_40 : ts_ins 201 40 = some (.goto 4, 43, 44) := by decide +kernel
theorem i201_43 : ts_ins 201 43 = some (.iconst (-1), 44, 0) := by decide +kernel
theorem i201_44 : ts_ins 201 44 = some (.ireturn, 45, 0) := by decide +kernel
theorem r201 : ts_rt 201 = ((some .int), 0, 0) := by decide +kernel
theorem l201 : ts_ml 201 = 2 := by decide +kernel
theorem i113_0 : ts_ins 113 0 = some (.bipush (-2), 2, 0) := by decide +kernel
theorem i113_2 : ts_ins 113 2 = some (.istore_n 1, 3, 0) := by decide +kernel
theorem i113_3 : ts_ins 113 3 = some (.bipush 7, 5, 0) := by decide +kernel
theorem i113_5 : ts_ins 113 5 = some (.istore_n 2, 6, 0) := by decide +kernel
theorem i113_6 : ts_ins 113 6 = some (.iconst 0, 7, 0) := by decide +kernel
theorem i113_7 : ts_ins 113 7 = some (.istore_n 3, 8, 0) := by decide +kernel
theorem i113_8 : ts_ins 113 8 = some (.iload_n 3, 9, 0) := by decide +kernel
theorem i113_9 : ts_ins 113 9 = some (.aload_n 0, 10, 0) := by decide +kernel
theorem i113_10 : ts_ins 113 10 = some (.getfield 10, 13, 0) := by decide +kernel
theorem g113_10 : ts_fm 113 10 = some (11, 0, 2) := by decide +kernel
theorem i113_13 : ts_ins 113 13 = some (.getfield 261, 16, 0) := by decide +kernel
theorem g113_13 : ts_fm 113 261 = some (3, 9, 0) := by decide +kernel
theorem i113_16 : ts_ins 113 16 = some (.if_icmp .ge 68, 19, 84) := by decide +kernel
theorem i113_19 : ts_ins 113 19 = some (.iload_n 3, 20, 0) := by decide +kernel
theorem i113_20 : ts_ins 113 20 = some (.iconst 1, 21, 0) := by decide +kernel
theorem i113_21 : ts_ins 113 21 = some (.iadd, 22, 0) := by decide +kernel
theorem i113_22 : ts_ins 113 22 = some (.istore 4, 24, 0) := by decide +kernel
theorem i113_24 : ts_ins 113 24 = some (.iload 4, 26, 0) := by decide +kernel
theorem i113_26 : ts_ins 113 26 = some (.aload_n 0, 27, 0) := by decide +kernel
theorem i113_27 : ts_ins 113 27 = some (.getfield 10, 30, 0) := by decide +kernel
theorem g113_27 : ts_fm 113 10 = some (11, 0, 2) := by decide +kernel
theorem i113_30 : ts_ins 113 30 = some (.getfield 261, 33, 0) := by decide +kernel
theorem g113_30 : ts_fm 113 261 = some (3, 9, 0) := by decide +kernel
theorem i113_33 : ts_ins 113 33 = some (.if_icmp .ge 45, 36, 78) := by decide +kernel
theorem i113_36 : ts_ins 113 36 = some (.aload_n 0, 37, 0) := by decide +kernel
theorem i113_37 : ts_ins 113 37 = some (.getfield 10, 40, 0) := by decide +kernel
theorem g113_37 : ts_fm 113 10 = some (11, 0, 2) := by decide +kernel
theorem i113_40 : ts_ins 113 40 = some (.iload_n 3, 41, 0) := by decide +kernel
theorem i113_41 : ts_ins 113 41 = some (.iload 4, 43, 0) := by decide +kernel
theorem i113_43 : ts_ins 113 43 = some (.invokevirtual 258, 46, 0) := by decide +kernel
theorem g113_43 : ts_cal (ts_mc 113) 258 = some (0, 32, 2) := by decide +kernel
theorem i113_46 : ts_ins 113 46 = some (.istore 5, 48, 0) := by decide +kernel
theorem i113_48 : ts_ins 113 48 = some (.iload 5, 50, 0) := by decide +kernel
theorem i113_50 : ts_ins 113 50 = some (.bipush (-2), 52, 0) := by decide +kernel
theorem i113_52 : ts_ins 113 52 = some (.if_icmp .eq 20, 55, 72) := by decide +kernel
theorem i113_55 : ts_ins 113 55 = some (.iload 5, 57, 0) := by decide +kernel
theorem i113_57 : ts_ins 113 57 = some (.iload_n 2, 58, 0) := by decide +kernel
theorem i113_58 : ts_ins 113 58 = some (.if_icmp .ge 14, 61, 72) := by decide +kernel
theorem i113_61 : ts_ins 113 61 = some (.iload 5, 63, 0) := by decide +kernel
theorem i113_63 : ts_ins 113 63 = some (.istore_n 2, 64, 0) := by decide +kernel
theorem i113_64 : ts_ins 113 64 = some (.bipush 10, 66, 0) := by decide +kernel
theorem i113_66 : ts_ins 113 66 = some (.iload_n 3, 67, 0) := by decide +kernel
theorem i113_67 : ts_ins 113 67 = some (.imul, 68, 0) := by decide +kernel
theorem i113_68 : ts_ins 113 68 = some (.iload 4, 70, 0) := by decide +kernel
theorem i113_70 : ts_ins 113 70 = some (.iadd, 71, 0) := by decide +kernel
theorem i113_71 : ts_ins 113 71 = some (.istore_n 1, 72, 0) := by decide +kernel
theorem i113_72 : ts_ins 113 72 = some (.iinc 4 1, 75, 0) := by decide +kernel
theorem i113_75 : ts_ins 113 75 = some (.goto (-51), 78, 24) := by decide +kernel
theorem i113_78 : ts_ins 113 78 = some (.iinc 3 1, 81, 0) := by decide +kernel
theorem i113_81 : ts_ins 113 81 = some (.goto (-73), 84, 8) := by decide +kernel
theorem i113_84 : ts_ins 113 84 = some (.iload_n 1, 85, 0) := by decide +kernel
theorem i113_85 : ts_ins 113 85 = some (.ireturn, 86, 0) := by decide +kernel
theorem r113 : ts_rt 113 = ((some .int), 0, 0) := by decide +kernel
theorem l113 : ts_ml 113 = 6 := by decide +kernel
theorem i202_0 : ts_ins 202 0 = some (.bipush (-2), 2, 0) := by decide +kernel
theorem i202_2 : ts_ins 202 2 = some (.istore_n 1, 3, 0) := by decide +kernel
theorem i202_3 : ts_ins 202 3 = some (.ldc_w 273, 6, 0) := by decide +kernel
theorem g202_3 : ts_lc (ts_mc 202) 273 = some (.int (1000000)) := by decide +kernel
theorem i202_6 : ts_ins 202 6 = some (.istore_n 2, 7, 0) := by decide +kernel
theorem i202_7 : ts_ins 202 7 = some (.iconst 0, 8, 0) := by decide +kernel
theorem i202_8 : ts_ins 202 8 = some (.istore_n 3, 9, 0) := by decide +kernel
theorem i202_9 : ts_ins 202 9 = some (.iload_n 3, 10, 0) := by decide +kernel
theorem i202_10 : ts_ins 202 10 = some (.aload_n 0, 11, 0) := by decide +kernel
theorem i202_11 : ts_ins 202 11 = some (.getfield 102, 14, 0) := by decide +kernel
theorem g202_11 : ts_fm 202 102 = some (12, 7, 0) := by decide +kernel
theorem i202_14 : ts_ins 202 14 = some (.if_icmp .ge 60, 17, 74) := by decide +kernel
theorem i202_17 : ts_ins 202 17 = some (.iload_n 3, 18, 0) := by decide +kernel
theorem i202_18 : ts_ins 202 18 = some (.iconst 1, 19, 0) := by decide +kernel
theorem i202_19 : ts_ins 202 19 = some (.iadd, 20, 0) := by decide +kernel
theorem i202_20 : ts_ins 202 20 = some (.istore 4, 22, 0) := by decide +kernel
theorem i202_22 : ts_ins 202 22 = some (.iload 4, 24, 0) := by decide +kernel
theorem i202_24 : ts_ins 202 24 = some (.aload_n 0, 25, 0) := by decide +kernel
theorem i202_25 : ts_ins 202 25 = some (.getfield 102, 28, 0) := by decide +kernel
theorem g202_25 : ts_fm 202 102 = some (12, 7, 0) := by decide +kernel
theorem i202_28 : ts_ins 202 28 = some (.if_icmp .ge 40, 31, 68) := by decide +kernel
theorem i202_31 : ts_ins 202 31 = some (.aload_n 0, 32, 0) := by decide +kernel
theorem i202_32 : ts_ins 202 32 = some (.iload_n 3, 33, 0) := by decide +kernel
theorem i202_33 : ts_ins 202 33 = some (.iload 4, 35, 0) := by decide +kernel
theorem i202_35 : ts_ins 202 35 = some (.invokevirtual 270, 38, 0) := by decide +kernel
theorem g202_35 : ts_cal (ts_mc 202) 270 = some (0, 200, 2) := by decide +kernel
theorem i202_38 : ts_ins 202 38 = some (.istore 5, 40, 0) := by decide +kernel
theorem i202_40 : ts_ins 202 40 = some (.iload 5, 42, 0) := by decide +kernel
theorem i202_42 : ts_ins 202 42 = some (.ifCond .lt 20, 45, 62) := by decide +kernel
theorem i202_45 : ts_ins 202 45 = some (.iload 5, 47, 0) := by decide +kernel
theorem i202_47 : ts_ins 202 47 = some (.iload_n 2, 48, 0) := by decide +kernel
theorem i202_48 : ts_ins 202 48 = some (.if_icmp .ge 14, 51, 62) := by decide +kernel
theorem i202_51 : ts_ins 202 51 = some (.bipush 10, 53, 0) := by decide +kernel
theorem i202_53 : ts_ins 202 53 = some (.iload_n 3, 54, 0) := by decide +kernel
theorem i202_54 : ts_ins 202 54 = some (.imul, 55, 0) := by decide +kernel
theorem i202_55 : ts_ins 202 55 = some (.iload 4, 57, 0) := by decide +kernel
theorem i202_57 : ts_ins 202 57 = some (.iadd, 58, 0) := by decide +kernel
theorem i202_58 : ts_ins 202 58 = some (.istore_n 1, 59, 0) := by decide +kernel
theorem i202_59 : ts_ins 202 59 = some (.iload 5, 61, 0) := by decide +kernel
theorem i202_61 : ts_ins 202 61 = some (.istore_n 2, 62, 0) := by decide +kernel
theorem i202_62 : ts_ins 202 62 = some (.iinc 4 1, 65, 0) := by decide +kernel
theorem i202_65 : ts_ins 202 65 = some (.goto (-43), 68, 22) := by decide +kernel
theorem i202_68 : ts_ins 202 68 = some (.iinc 3 1, 71, 0) := by decide +kernel
theorem i202_71 : ts_ins 202 71 = some (.goto (-62), 74, 9) := by decide +kernel
theorem i202_74 : ts_ins 202 74 = some (.iload_n 1, 75, 0) := by decide +kernel
theorem i202_75 : ts_ins 202 75 = some (.ireturn, 76, 0) := by decide +kernel
theorem r202 : ts_rt 202 = ((some .int), 0, 0) := by decide +kernel
theorem l202 : ts_ml 202 = 6 := by decide +kernel
theorem i33_0 : ts_ins 33 0 = some (.aload_n 0, 1, 0) := by decide +kernel
theorem i33_1 : ts_ins 33 1 = some (.getfield 35, 4, 0) := by decide +kernel
theorem g33_1 : ts_fm 33 35 = some (3, 7, 2) := by decide +kernel
theorem i33_4 : ts_ins 33 4 = some (.iload_n 1, 5, 0) := by decide +kernel
theorem i33_5 : ts_ins 33 5 = some (.iaload, 6, 0) := by decide +kernel
theorem i33_6 : ts_ins 33 6 = some (.aload_n 0, 7, 0) := by decide +kernel
theorem i33_7 : ts_ins 33 7 = some (.getfield 35, 10, 0) := by decide +kernel
theorem g33_7 : ts_fm 33 35 = some (3, 7, 2) := by decide +kernel
theorem i33_10 : ts_ins 33 10 = some (.iload_n 2, 11, 0) := by decide +kernel
theorem i33_11 : ts_ins 33 11 = some (.iaload, 12, 0) := by decide +kernel
theorem i33_12 : ts_ins 33 12 = some (.if_icmp .ge 5, 15, 17) := by decide +kernel
theorem i33_15 : ts_ins 33 15 = some (.iconst 0, 16, 0) := by decide +kernel
theorem i33_16 : ts_ins 33 16 = some (.ireturn, 17, 0) := by decide +kernel
theorem i33_17 : ts_ins 33 17 = some (.iconst 0, 18, 0) := by decide +kernel
theorem i33_18 : ts_ins 33 18 = some (.istore_n 3, 19, 0) := by decide +kernel
theorem i33_19 : ts_ins 33 19 = some (.iload_n 3, 20, 0) := by decide +kernel
theorem i33_20 : ts_ins 33 20 = some (.aload_n 0, 21, 0) := by decide +kernel
theorem i33_21 : ts_ins 33 21 = some (.getfield 35, 24, 0) := by decide +kernel
theorem g33_21 : ts_fm 33 35 = some (3, 7, 2) := by decide +kernel
theorem i33_24 : ts_ins 33 24 = some (.iload_n 2, 25, 0) := by decide +kernel
theorem i33_25 : ts_ins 33 25 = some (.iaload, 26, 0) := by decide +kernel
theorem i33_26 : ts_ins 33 26 = some (.if_icmp .ge 30, 29, 56) := by decide +kernel
theorem i33_29 : ts_ins 33 29 = some (.aload_n 0, 30, 0) := by decide +kernel
theorem i33_30 : ts_ins 33 30 = some (.getfield 32, 33, 0) := by decide +kernel
theorem g33_30 : ts_fm 33 32 = some (3, 6, 2) := by decide +kernel
theorem i33_33 : ts_ins 33 33 = some (.iload_n 1, 34, 0) := by decide +kernel
theorem i33_34 : ts_ins 33 34 = some (.aaload, 35, 0) := by decide +kernel
theorem i33_35 : ts_ins 33 35 = some (.iload_n 3, 36, 0) := by decide +kernel
theorem i33_36 : ts_ins 33 36 = some (.iaload, 37, 0) := by decide +kernel
theorem i33_37 : ts_ins 33 37 = some (.aload_n 0, 38, 0) := by decide +kernel
theorem i33_38 : ts_ins 33 38 = some (.getfield 32, 41, 0) := by decide +kernel
theorem g33_38 : ts_fm 33 32 = some (3, 6, 2) := by decide +kernel
theorem i33_41 : ts_ins 33 41 = some (.iload_n 2, 42, 0) := by decide +kernel
theorem i33_42 : ts_ins 33 42 = some (.aaload, 43, 0) := by decide +kernel
theorem i33_43 : ts_ins 33 43 = some (.iload_n 3, 44, 0) := by decide +kernel
theorem i33_44 : ts_ins 33 44 = some (.iaload, 45, 0) := by decide +kernel
theorem i33_45 : ts_ins 33 45 = some (.if_icmp .eq 5, 48, 50) := by decide +kernel
theorem i33_48 : ts_ins 33 48 = some (.iconst 0, 49, 0) := by decide +kernel
theorem i33_49 : ts_ins 33 49 = some (.ireturn, 50, 0) := by decide +kernel
theorem i33_50 : ts_ins 33 50 = some (.iinc 3 1, 53, 0) := by decide +kernel
theorem i33_53 : ts_ins 33 53 = some (.goto (-34), 56, 19) := by decide +kernel
theorem i33_56 : ts_ins 33 56 = some (.iconst 1, 57, 0) := by decide +kernel
theorem i33_57 : ts_ins 33 57 = some (.ireturn, 58, 0) := by decide +kernel
theorem r33 : ts_rt 33 = ((some .boolean), 0, 0) := by decide +kernel
theorem l33 : ts_ml 33 = 4 := by decide +kernel
theorem i114_0 : ts_ins 114 0 = some (.aload_n 0, 1, 0) := by decide +kernel
theorem i114_1 : ts_ins 114 1 = some (.getfield 10, 4, 0) := by decide +kernel
theorem g114_1 : ts_fm 114 10 = some (11, 0, 2) := by decide +kernel
theorem i114_4 : ts_ins 114 4 = some (.iload_n 1, 5, 0) := by decide +kernel
theorem i114_5 : ts_ins 114 5 = some (.invokevirtual 129, 8, 0) := by decide +kernel
theorem g114_5 : ts_cal (ts_mc 114) 129 = some (0, 20, 1) := by decide +kernel
theorem i114_8 : ts_ins 114 8 = some (.ifCond .ne 5, 11, 13) := by decide +kernel
theorem i114_11 : ts_ins 114 11 = some (.iconst (-1), 12, 0) := by decide +kernel
theorem i114_12 : ts_ins 114 12 = some (.ireturn, 13, 0) := by decide +kernel
theorem i114_13 : ts_ins 114 13 = some (.iconst 0, 14, 0) := by decide +kernel
theorem i114_14 : ts_ins 114 14 = some (.istore_n 2, 15, 0) := by decide +kernel
theorem i114_15 : ts_ins 114 15 = some (.iconst 0, 16, 0) := by decide +kernel
theorem i114_16 : ts_ins 114 16 = some (.istore_n 3, 17, 0) := by decide +kernel
theorem i114_17 : ts_ins 114 17 = some (.iload_n 3, 18, 0) := by decide +kernel
theorem i114_18 : ts_ins 114 18 = some (.aload_n 0, 19, 0) := by decide +kernel
theorem i114_19 : ts_ins 114 19 = some (.getfield 10, 22, 0) := by decide +kernel
theorem g114_19 : ts_fm 114 10 = some (11, 0, 2) := by decide +kernel
theorem i114_22 : ts_ins 114 22 = some (.getfield 261, 25, 0) := by decide +kernel
theorem g114_22 : ts_fm 114 261 = some (3, 9, 0) := by decide +kernel
theorem i114_25 : ts_ins 114 25 = some (.if_icmp .ge 32, 28, 57) := by decide +kernel
theorem i114_28 : ts_ins 114 28 = some (.iload_n 3, 29, 0) := by decide +kernel
theorem i114_29 : ts_ins 114 29 = some (.iload_n 1, 30, 0) := by decide +kernel
theorem i114_30 : ts_ins 114 30 = some (.if_icmp .eq 21, 33, 51) := by decide +kernel
theorem i114_33 : ts_ins 114 33 = some (.aload_n 0, 34, 0) := by decide +kernel
theorem i114_34 : ts_ins 114 34 = some (.getfield 10, 37, 0) := by decide +kernel
theorem g114_34 : ts_fm 114 10 = some (11, 0, 2) := by decide +kernel
theorem i114_37 : ts_ins 114 37 = some (.iload_n 3, 38, 0) := by decide +kernel
theorem i114_38 : ts_ins 114 38 = some (.iload_n 1, 39, 0) := by decide +kernel
theorem i114_39 : ts_ins 114 39 = some (.invokevirtual 264, 42, 0) := by decide +kernel
theorem g114_39 : ts_cal (ts_mc 114) 264 = some (0, 33, 2) := by decide +kernel
theorem i114_42 : ts_ins 114 42 = some (.ifCond .eq 9, 45, 51) := by decide +kernel
theorem i114_45 : ts_ins 114 45 = some (.iload_n 2, 46, 0) := by decide +kernel
theorem i114_46 : ts_ins 114 46 = some (.iconst 1, 47, 0) := by decide +kernel
theorem i114_47 : ts_ins 114 47 = some (.iload_n 3, 48, 0) := by decide +kernel
theorem i114_48 : ts_ins 114 48 = some (.ishl, 49, 0) := by decide +kernel
theorem i114_49 : ts_ins 114 49 = some (.ior, 50, 0) := by decide +kernel
theorem i114_50 : ts_ins 114 50 = some (.istore_n 2, 51, 0) := by decide +kernel
theorem i114_51 : ts_ins 114 51 = some (.iinc 3 1, 54, 0) := by decide +kernel
theorem i114_54 : ts_ins 114 54 = some (.goto (-37), 57, 17) := by decide +kernel
theorem i114_57 : ts_ins 114 57 = some (.iload_n 2, 58, 0) := by decide +kernel
theorem i114_58 : ts_ins 114 58 = some (.ireturn, 59, 0) := by decide +kernel
theorem r114 : ts_rt 114 = ((some .int), 0, 0) := by decide +kernel
theorem l114 : ts_ml 114 = 4 := by decide +kernel
theorem i203_0 : ts_ins 203 0 = some (.aload_n 0, 1, 0) := by decide +kernel
theorem i203_1 : ts_ins 203 1 = some (.iload_n 1, 2, 0) := by decide +kernel
theorem i203_2 : ts_ins 203 2 = some (.i2l, 3, 0) := by decide +kernel
theorem i203_3 : ts_ins 203 3 = some (.invokevirtual 131, 6, 0) := by decide +kernel
theorem g203_3 : ts_cal (ts_mc 203) 131 = some (0, 150, 1) := by decide +kernel
theorem i203_6 : ts_ins 203 6 = some (.ifCond .ne 5, 9, 11) := by decide +kernel
theorem i203_9 : ts_ins 203 9 = some (.iconst (-1), 10, 0) := by decide +kernel
theorem i203_10 : ts_ins 203 10 = some (.ireturn, 11, 0) := by decide +kernel
theorem i203_11 : ts_ins 203 11 = some (.iconst 0, 12, 0) := by decide +kernel
theorem i203_12 : ts_ins 203 12 = some (.istore_n 2, 13, 0) := by decide +kernel
theorem i203_13 : ts_ins 203 13 = some (.iconst 0, 14, 0) := by decide +kernel
theorem i203_14 : ts_ins 203 14 = some (.istore_n 3, 15, 0) := by decide +kernel
theorem i203_15 : ts_ins 203 15 = some (.iload_n 3, 16, 0) := by decide +kernel
theorem i203_16 : ts_ins 203 16 = some (.aload_n 0, 17, 0) := by decide +kernel
theorem i203_17 : ts_ins 203 17 = some (.getfield 102, 20, 0) := by decide +kernel
theorem g203_17 : ts_fm 203 102 = some (12, 7, 0) := by decide +kernel
theorem i203_20 : ts_ins 203 20 = some (.if_icmp .ge 116, 23, 136) := by decide +kernel
theorem i203_23 : ts_ins 203 23 = some (.iload_n 3, 24, 0) := by decide +kernel
theorem i203_24 : ts_ins 203 24 = some (.iload_n 1, 25, 0) := by decide +kernel
theorem i203_25 : ts_ins 203 25 = some (.if_icmp .eq 22, 28, 47) := by decide +kernel
theorem i203_28 : ts_ins 203 28 = some (.aload_n 0, 29, 0) := by decide +kernel
theorem i203_29 : ts_ins 203 29 = some (.getfield 22, 32, 0) := by decide +kernel
theorem g203_29 : ts_fm 203 22 = some (12, 8, 2) := by decide +kernel
theorem i203_32 : ts_ins 203 32 = some (.iload_n 3, 33, 0) := by decide +kernel
theorem i203_33 : ts_ins 203 33 = some (.iaload, 34, 0) := by decide +kernel
theorem i203_34 : ts_ins 203 34 = some (.aload_n 0, 35, 0) := by decide +kernel
theorem i203_35 : ts_ins 203 35 = some (.getfield 22, 38, 0) := by decide +kernel
theorem g203_35 : ts_fm 203 22 = some (12, 8, 2) := by decide +kernel
theorem i203_38 : ts_ins 203 38 = some (.iload_n 1, 39, 0) := by decide +kernel
theorem i203_39 : ts_ins 203 39 = some (.iaload, 40, 0) := by decide +kernel
theorem i203_40 : ts_ins 203 40 = some (.if_icmp .lt 7, 43, 47) := by decide +kernel
theorem i203_43 : ts_ins 203 43 = some (.iconst 1, 44, 0) := by decide +kernel
theorem i203_44 : ts_ins 203 44 = some (.goto 4, 47, 48) := by decide +kernel
theorem i203_47 : ts_ins 203 47 = some (.iconst 0, 48, 0) := by decide +kernel
theorem i203_48 : ts_ins 203 48 = some (.istore 4, 50, 0) := by decide +kernel
theorem i203_50 : ts_ins 203 50 = some (.iconst 0, 51, 0) := by decide +kernel
theorem i203_51 : ts_ins 203 51 = some (.istore 5, 53, 0) := by decide +kernel
theorem i203_53 : ts_ins 203 53 = some (.iload 5, 55, 0) := by decide +kernel
theorem i203_55 : ts_ins 203 55 = some (.aload_n 0, 56, 0) := by decide +kernel
theorem i203_56 : ts_ins 203 56 = some (.getfield 22, 59, 0) := by decide +kernel
theorem g203_56 : ts_fm 203 22 = some (12, 8, 2) := by decide +kernel
theorem i203_59 : ts_ins 203 59 = some (.iload_n 1, 60, 0) := by decide +kernel
theorem i203_60 : ts_ins 203 60 = some (.iaload, 61, 0) := by decide +kernel
theorem i203_61 : ts_ins 203 61 = some (.if_icmp .ge 54, 64, 115) := by decide +kernel
theorem i203_64 : ts_ins 203 64 = some (.iload 4, 66, 0) := by decide +kernel
theorem i203_66 : ts_ins 203 66 = some (.ifCond .eq 40, 69, 106) := by decide +kernel
theorem i203_69 : ts_ins 203 69 = some (.aload_n 0, 70, 0) := by decide +kernel
theorem i203_70 : ts_ins 203 70 = some (.getfield 9, 73, 0) := by decide +kernel
theorem g203_70 : ts_fm 203 9 = some (12, 0, 2) := by decide +kernel
theorem i203_73 : ts_ins 203 73 = some (.bipush 49, 75, 0) := by decide +kernel
theorem i203_75 : ts_ins 203 75 = some (.bipush 6, 77, 0) := by decide +kernel
theorem i203_77 : ts_ins 203 77 = some (.iload_n 3, 78, 0) := by decide +kernel
theorem i203_78 : ts_ins 203 78 = some (.imul, 79, 0) := by decide +kernel
theorem i203_79 : ts_ins 203 79 = some (.iadd, 80, 0) := by decide +kernel
theorem i203_80 : ts_ins 203 80 = some (.iload 5, 82, 0) := by decide +kernel
theorem i203_82 : ts_ins 203 82 = some (.iadd, 83, 0) := by decide +kernel
theorem i203_83 : ts_ins 203 83 = some (.iaload, 84, 0) := by decide +kernel
theorem i203_84 : ts_ins 203 84 = some (.aload_n 0, 85, 0) := by decide +kernel
theorem i203_85 : ts_ins 203 85 = some (.getfield 9, 88, 0) := by decide +kernel
theorem g203_85 : ts_fm 203 9 = some (12, 0, 2) := by decide +kernel
theorem i203_88 : ts_ins 203 88 = some (.bipush 49, 90, 0) := by decide +kernel
theorem i203_90 : ts_ins 203 90 = some (.bipush 6, 92, 0) := by decide +kernel
theorem i203_92 : ts_ins 203 92 = some (.iload_n 1, 93, 0) := by decide +kernel
theorem i203_93 : ts_ins 203 93 = some (.imul, 94, 0) := by decide +kernel
theorem i203_94 : ts_ins 203 94 = some (.iadd, 95, 0) := by decide +kernel
theorem i203_95 : ts_ins 203 95 = some (.iload 5, 97, 0) := by decide +kernel
theorem i203_97 : ts_ins 203 97 = some (.iadd, 98, 0) := by decide +kernel
theorem i203_98 : ts_ins 203 98 = some (.iaload, 99, 0) := by decide +kernel
theorem i203_99 : ts_ins 203 99 = some (.if_icmp .ne 7, 102, 106) := by decide +kernel
theorem i203_102 : ts_ins 203 102 = some (.iconst 1, 103, 0) := by decide +kernel
theorem i203_103 : ts_ins 203 103 = some (.goto 4, 106, 107) := by decide +kernel
theorem i203_106 : ts_ins 203 106 = some (.iconst 0, 107, 0) := by decide +kernel
theorem i203_107 : ts_ins 203 107 = some (.istore 4, 109, 0) := by decide +kernel
theorem i203_109 : ts_ins 203 109 = some (.iinc 5 1, 112, 0) := by decide +kernel
theorem i203_112 : ts_ins 203 112 = some (.goto (-59), 115, 53) := by decide +kernel
theorem i203_115 : ts_ins 203 115 = some (.iload_n 2, 116, 0) := by decide +kernel
theorem i203_116 : ts_ins 203 116 = some (.iload 4, 118, 0) := by decide +kernel
theorem i203_118 : ts_ins 203 118 = some (.ifCond .eq 9, 121, 127) := by decide +kernel
theorem i203_121 : ts_ins 203 121 = some (.iconst 1, 122, 0) := by decide +kernel
theorem i203_122 : ts_ins 203 122 = some (.iload_n 3, 123, 0) := by decide +kernel
theorem i203_123 : ts_ins 203 123 = some (.ishl, 124, 0) := by decide +kernel
theorem i203_124 : ts_ins 203 124 = some (.goto 4, 127, 128) := by decide +kernel
theorem i203_127 : ts_ins 203 127 = some (.iconst 0, 128, 0) := by decide +kernel
theorem i203_128 : ts_ins 203 128 = some (.ior, 129, 0) := by decide +kernel
theorem i203_129 : ts_ins 203 129 = some (.istore_n 2, 130, 0) := by decide +kernel
theorem i203_130 : ts_ins 203 130 = some (.iinc 3 1, 133, 0) := by decide +kernel
theorem i203_133 : ts_ins 203 133 = some (.goto (-118), 136, 15) := by decide +kernel
theorem i203_136 : ts_ins 203 136 = some (.iload_n 2, 137, 0) := by decide +kernel
theorem i203_137 : ts_ins 203 137 = some (.ireturn, 138, 0) := by decide +kernel
theorem r203 : ts_rt 203 = ((some .int), 0, 0) := by decide +kernel
theorem l203 : ts_ml 203 = 6 := by decide +kernel
/-! SAYINGS against each other -/
def g_apartO (f : ts_Fl) (a b : Int) : Int := if f_len f a = f_len f b then zwh (f_len f a) (fun k n => n + if f_say f a k = f_say f b k then 0 else 1) 0 0 else -2
def g_apart (f : ts_Fl) (ab : Int) : Int := if 0 ≤ ab ∧ ab / 10 < f_told f ∧ ab % 10 < f_told f then g_apartO f (ab / 10) (ab % 10) else -1
def g_closI (f : ts_Fl) (a b : Int) (s : Int × Int) : Int × Int := if 0 ≤ g_apartO f a b ∧ g_apartO f a b < s.2 then (10 * a + b, g_apartO f a b) else s
def g_closO (f : ts_Fl) (a : Int) (s : Int × Int) : Int × Int := zwh (f_told f) (g_closI f a) (a + 1) s
def g_closest (f : ts_Fl) : Int := (zwh (f_told f) (g_closO f) 0 (-2, 7)).1
abbrev g_begs (f : ts_Fl) (s o : Int) : Prop := (¬ o = s ∧ f_len f s ≤ f_len f o) ∧ zall (fun k => f_say f o k = f_say f s k) (f_len f s).toNat = true
def g_begins (f : ts_Fl) (s : Int) : Int := if 0 ≤ s ∧ s < f_told f then zbits (g_begs f s) (f_told f).toNat else -1
section SA
variable {X : ts_X} {I : Nat → Nat → Int32} {L : Nat → Nat → Int64} {sw : Bool} {K : Option Value → ts_H → Prop} {d : Nat} {f : ts_Fl}
theorem x_tonesApart (hX : RX I f) {a b : Int} (ha : 0 ≤ a ∧ a < f_told f) (hb : 0 ≤ b ∧ b < f_told f) (hK : -2 ≤ g_apartO f a b → g_apartO f a b ≤ 6 → ¬ g_apartO f a b = -1 → K (some (.int (zI (g_apartO f a b)))) (I, L, ts_P0 sw, ts_S0)) : ts_Cal X (d + 2) 32 [.ref 2, .int (zI (a)), .int (zI (b))] (I, L, ts_P0 sw, ts_S0) K := by
  have b1 := hX.told.2
  have b2 := (hX.len a (by omega) (by omega)).2
  have b3 := (hX.len b (by omega) (by omega)).2
  unfold g_apartO at hK
  have loop : f_len f a = f_len f b → ∀ k : Int, 0 ≤ k → k ≤ f_len f a → ∀ n, 0 ≤ n → n ≤ k → zwh (f_len f a) (fun k n => n + if f_say f a k = f_say f b k then 0 else 1) k n = zwh (f_len f a) (fun k n => n + if f_say f a k = f_say f b k then 0 else 1) 0 0 → ts_Ev X (ts_Cal X (d + 1)) 32 ts_S0 K 39 [.ref 2, .int (zI (a)), .int (zI (b)), .int (zI (n)), .int (zI (k))] [] (I, L, ts_P0 sw, ts_S0) := by
    intro he
    refine ts_ind (f_len f a) (fun k ih h0 h1 n h2 h3 h4 => ?_)
    refine ev_iload_4 i32_39 ?_
    refine ev_aloadn_0 i32_41 ?_
    refine ev_getA i32_42 g32_42 rfl rfl (by decide) ?_
    refine ev_iloadn_1 i32_45 ?_
    refine ew_iaload i32_46 rfl (by omega) (by omega) (by omega) (by first | exact hX.men | exact hX.told | exact hX.road | exact hX.tone _ (by omega) (by omega) | exact hX.corn _ (by omega) (by omega) | exact hX.stand _ (by omega) (by omega) | exact hX.reach _ (by omega) (by omega) | exact hX.arm _ (by omega) (by omega) | exact hX.late _ (by omega) (by omega) | exact hX.len _ (by omega) (by omega) | exact hX.say (by omega) (by omega) _ (by omega) (by omega)) (fun b46 => ?_)
    refine ew_icmpge i32_47 (by omega) (fun c47 => ?_) (fun c47 => ?_)
    · refine ev_iloadn_3 i32_85 ?_
      refine ev_ireturn i32_86 r32 ?_
      rw [zwh_0 (by omega)] at h4
      rw [if_pos he, ← h4] at hK
      exact hK (by omega) (by omega) (by omega)
    · refine ev_iloadn_3 i32_50 ?_
      refine ev_aloadn_0 i32_51 ?_
      refine ev_getA i32_52 g32_52 rfl rfl (by decide) ?_
      refine ev_iloadn_1 i32_55 ?_
      refine ew_aaloadG i32_56 rfl (by omega) (by omega) (by omega) (floor_P (by omega) (by omega)) (by omega) ?_
      refine ev_iload_4 i32_57 ?_
      refine ew_iaload i32_59 (floor_A (by omega) (by omega)) (by omega) (by omega) (by omega) ((hX.say (by omega) (by omega) _ (by omega) (by omega))) (fun b59 => ?_)
      refine ev_aloadn_0 i32_60 ?_
      refine ev_getA i32_61 g32_61 rfl rfl (by decide) ?_
      refine ev_iloadn_2 i32_64 ?_
      refine ew_aaloadG i32_65 rfl (by omega) (by omega) (by omega) (floor_P (by omega) (by omega)) (by omega) ?_
      refine ev_iload_4 i32_66 ?_
      refine ew_iaload i32_68 (floor_A (by omega) (by omega)) (by omega) (by omega) (by omega) ((hX.say (by omega) (by omega) _ (by omega) (by omega))) (fun b68 => ?_)
      refine ew_icmpeq i32_69 (by omega) (fun c69 => ?_) (fun c69 => ?_)
      · refine ew_iconst i32_76 ?_
        refine ew_iadd i32_77 ?_
        refine ev_istoren_3 i32_78 rfl ?_
        refine ew_iinc_4 i32_79 rfl ?_
        refine ev_goto i32_82 ?_
        rw [zwh_1 (by omega)] at h4
        first
          | (rw [if_pos c69] at h4
             exact ih (by omega) (by omega) (by omega) _ (by omega) (by omega) h4)
          | (rw [if_neg c69] at h4
             exact ih (by omega) (by omega) (by omega) _ (by omega) (by omega) h4)
      · refine ew_iconst i32_72 ?_
        refine ev_goto i32_73 ?_
        refine ew_iadd i32_77 ?_
        refine ev_istoren_3 i32_78 rfl ?_
        refine ew_iinc_4 i32_79 rfl ?_
        refine ev_goto i32_82 ?_
        rw [zwh_1 (by omega)] at h4
        first
          | (rw [if_pos c69] at h4
             exact ih (by omega) (by omega) (by omega) _ (by omega) (by omega) h4)
          | (rw [if_neg c69] at h4
             exact ih (by omega) (by omega) (by omega) _ (by omega) (by omega) h4)
  refine ev_enter (lv := [.ref 2, .int (zI (a)), .int (zI (b)), .null, .null]) l32 rfl (Nat.le_of_ble_eq_true rfl) ?_
  refine ev_aloadn_0 i32_0 ?_
  refine ev_iloadn_1 i32_1 ?_
  refine ev_virt1 i32_2 g32_2 rfl (by decide +kernel) (Nat.le_of_ble_eq_true rfl) (x_hasSaying hX (by omega) ?_)
  first
  | refine ew_ifeqB i32_5 (fun c5 => ?_) (fun c5 => ?_)
  | refine ew_ifeq i32_5 (by omega) (fun c5 => ?_) (fun c5 => ?_)
  · refine ew_bipush i32_31 (by decide) ?_
    refine ev_ireturn i32_33 r32 ?_
    first
    | (exfalso; omega)
    | (rw [if_neg (by omega)] at hK
       exact hK (by decide) (by decide) (by decide))
  · refine ev_aloadn_0 i32_8 ?_
    refine ev_iloadn_2 i32_9 ?_
    refine ev_virt1 i32_10 g32_10 rfl (by decide +kernel) (Nat.le_of_ble_eq_true rfl) (x_hasSaying hX (by omega) ?_)
    first
    | refine ew_ifeqB i32_13 (fun c13 => ?_) (fun c13 => ?_)
    | refine ew_ifeq i32_13 (by omega) (fun c13 => ?_) (fun c13 => ?_)
    · refine ew_bipush i32_31 (by decide) ?_
      refine ev_ireturn i32_33 r32 ?_
      first
      | (exfalso; omega)
      | (rw [if_neg (by omega)] at hK
         exact hK (by decide) (by decide) (by decide))
    · refine ev_aloadn_0 i32_16 ?_
      refine ev_getA i32_17 g32_17 rfl rfl (by decide) ?_
      refine ev_iloadn_1 i32_20 ?_
      refine ew_iaload i32_21 rfl (by omega) (by omega) (by omega) (by first | exact hX.men | exact hX.told | exact hX.road | exact hX.tone _ (by omega) (by omega) | exact hX.corn _ (by omega) (by omega) | exact hX.stand _ (by omega) (by omega) | exact hX.reach _ (by omega) (by omega) | exact hX.arm _ (by omega) (by omega) | exact hX.late _ (by omega) (by omega) | exact hX.len _ (by omega) (by omega) | exact hX.say (by omega) (by omega) _ (by omega) (by omega)) (fun b21 => ?_)
      refine ev_aloadn_0 i32_22 ?_
      refine ev_getA i32_23 g32_23 rfl rfl (by decide) ?_
      refine ev_iloadn_2 i32_26 ?_
      refine ew_iaload i32_27 rfl (by omega) (by omega) (by omega) (by first | exact hX.men | exact hX.told | exact hX.road | exact hX.tone _ (by omega) (by omega) | exact hX.corn _ (by omega) (by omega) | exact hX.stand _ (by omega) (by omega) | exact hX.reach _ (by omega) (by omega) | exact hX.arm _ (by omega) (by omega) | exact hX.late _ (by omega) (by omega) | exact hX.len _ (by omega) (by omega) | exact hX.say (by omega) (by omega) _ (by omega) (by omega)) (fun b27 => ?_)
      refine ew_icmpeq i32_28 (by omega) (fun c28 => ?_) (fun c28 => ?_)
      · refine ew_iconst i32_34 ?_
        refine ev_istoren_3 i32_35 rfl ?_
        refine ew_iconst i32_36 ?_
        refine ev_istore_4 i32_37 rfl ?_
        exact loop (by omega) 0 (by decide) (by omega) 0 (by decide) (by decide) rfl
      · refine ew_bipush i32_31 (by decide) ?_
        refine ev_ireturn i32_33 r32 ?_
        first
        | (exfalso; omega)
        | (rw [if_neg (by omega)] at hK
           exact hK (by decide) (by decide) (by decide))
theorem m_apartOf (hM : RM I f) {a b : Int} (ha : 0 ≤ a ∧ a < f_told f) (hb : 0 ≤ b ∧ b < f_told f) (hK : -2 ≤ g_apartO f a b → g_apartO f a b ≤ 6 → ¬ g_apartO f a b = -1 → K (some (.int (zI (g_apartO f a b)))) (I, L, ts_P0 sw, ts_S0)) : ts_Cal X (d + 2) 200 [.ref 72, .int (zI (a)), .int (zI (b))] (I, L, ts_P0 sw, ts_S0) K := by
  have b1 := hM.told.2
  have b2 := (hM.len a (by omega) (by omega)).2
  have b3 := (hM.len b (by omega) (by omega)).2
  unfold g_apartO at hK
  have loop : f_len f a = f_len f b → ∀ k : Int, 0 ≤ k → k ≤ f_len f a → ∀ n, 0 ≤ n → n ≤ k → zwh (f_len f a) (fun k n => n + if f_say f a k = f_say f b k then 0 else 1) k n = zwh (f_len f a) (fun k n => n + if f_say f a k = f_say f b k then 0 else 1) 0 0 → ts_Ev X (ts_Cal X (d + 1)) 200 ts_S0 K 23 [.ref 72, .int (zI (a)), .int (zI (b)), .int (zI (n)), .int (zI (k))] [] (I, L, ts_P0 sw, ts_S0) := by
    intro he
    refine ts_ind (f_len f a) (fun k ih h0 h1 n h2 h3 h4 => ?_)
    refine ev_iload_4 i200_23 ?_
    refine ev_aloadn_0 i200_25 ?_
    refine ev_getA i200_26 g200_26 rfl rfl (by decide) ?_
    refine ev_iloadn_1 i200_29 ?_
    refine ew_iaload i200_30 rfl (by omega) (by omega) (by omega) (by first | exact hM.len _ (by omega) (by omega) | exact hM.men | exact hM.told | exact hM.road | exact hM.stand _ (by omega) (by omega) | exact hM.reach _ (by omega) (by omega) | exact hM.arm _ (by omega) (by omega) | exact hM.late _ (by omega) (by omega) | exact hM.len _ (by omega) (by omega) | exact hM.corn _ (by omega) (by omega) | exact hM.say (by omega) (by omega) _ (by omega) (by omega) | exact hM.tone _ (by omega) (by omega)) (fun b30 => ?_)
    refine ew_icmpge i200_31 (by omega) (fun c31 => ?_) (fun c31 => ?_)
    · refine ev_iloadn_3 i200_81 ?_
      refine ev_ireturn i200_82 r200 ?_
      rw [zwh_0 (by omega)] at h4
      rw [if_pos he, ← h4] at hK
      exact hK (by omega) (by omega) (by omega)
    · refine ev_iloadn_3 i200_34 ?_
      refine ev_aloadn_0 i200_35 ?_
      refine ev_getA i200_36 g200_36 rfl rfl (by decide) ?_
      refine ew_bipush i200_39 (by decide) ?_
      refine ew_bipush i200_41 (by decide) ?_
      refine ev_iloadn_1 i200_43 ?_
      refine ew_imul i200_44 ?_
      refine ew_iadd i200_45 ?_
      refine ev_iload_4 i200_46 ?_
      refine ew_iadd i200_48 ?_
      refine ew_iaload i200_49 rfl (by omega) (by omega) (by omega) ((hM.say (by omega) (by omega) _ (by omega) (by omega))) (fun b49 => ?_)
      refine ev_aloadn_0 i200_50 ?_
      refine ev_getA i200_51 g200_51 rfl rfl (by decide) ?_
      refine ew_bipush i200_54 (by decide) ?_
      refine ew_bipush i200_56 (by decide) ?_
      refine ev_iloadn_2 i200_58 ?_
      refine ew_imul i200_59 ?_
      refine ew_iadd i200_60 ?_
      refine ev_iload_4 i200_61 ?_
      refine ew_iadd i200_63 ?_
      refine ew_iaload i200_64 rfl (by omega) (by omega) (by omega) ((hM.say (by omega) (by omega) _ (by omega) (by omega))) (fun b64 => ?_)
      refine ew_icmpeq i200_65 (by omega) (fun c65 => ?_) (fun c65 => ?_)
      · refine ew_iconst i200_72 ?_
        refine ew_iadd i200_73 ?_
        refine ev_istoren_3 i200_74 rfl ?_
        refine ew_iinc_4 i200_75 rfl ?_
        refine ev_goto i200_78 ?_
        rw [zwh_1 (by omega)] at h4
        first
          | (rw [if_pos c65] at h4
             exact ih (by omega) (by omega) (by omega) _ (by omega) (by omega) h4)
          | (rw [if_neg c65] at h4
             exact ih (by omega) (by omega) (by omega) _ (by omega) (by omega) h4)
      · refine ew_iconst i200_68 ?_
        refine ev_goto i200_69 ?_
        refine ew_iadd i200_73 ?_
        refine ev_istoren_3 i200_74 rfl ?_
        refine ew_iinc_4 i200_75 rfl ?_
        refine ev_goto i200_78 ?_
        rw [zwh_1 (by omega)] at h4
        first
          | (rw [if_pos c65] at h4
             exact ih (by omega) (by omega) (by omega) _ (by omega) (by omega) h4)
          | (rw [if_neg c65] at h4
             exact ih (by omega) (by omega) (by omega) _ (by omega) (by omega) h4)
  refine ev_enter (lv := [.ref 72, .int (zI (a)), .int (zI (b)), .null, .null]) l200 rfl (Nat.le_of_ble_eq_true rfl) ?_
  refine ev_aloadn_0 i200_0 ?_
  refine ev_getA i200_1 g200_1 rfl rfl (by decide) ?_
  refine ev_iloadn_1 i200_4 ?_
  refine ew_iaload i200_5 rfl (by omega) (by omega) (by omega) (by first | exact hM.len _ (by omega) (by omega) | exact hM.men | exact hM.told | exact hM.road | exact hM.stand _ (by omega) (by omega) | exact hM.reach _ (by omega) (by omega) | exact hM.arm _ (by omega) (by omega) | exact hM.late _ (by omega) (by omega) | exact hM.len _ (by omega) (by omega) | exact hM.corn _ (by omega) (by omega) | exact hM.say (by omega) (by omega) _ (by omega) (by omega) | exact hM.tone _ (by omega) (by omega)) (fun b5 => ?_)
  refine ev_aloadn_0 i200_6 ?_
  refine ev_getA i200_7 g200_7 rfl rfl (by decide) ?_
  refine ev_iloadn_2 i200_10 ?_
  refine ew_iaload i200_11 rfl (by omega) (by omega) (by omega) (by first | exact hM.len _ (by omega) (by omega) | exact hM.men | exact hM.told | exact hM.road | exact hM.stand _ (by omega) (by omega) | exact hM.reach _ (by omega) (by omega) | exact hM.arm _ (by omega) (by omega) | exact hM.late _ (by omega) (by omega) | exact hM.len _ (by omega) (by omega) | exact hM.corn _ (by omega) (by omega) | exact hM.say (by omega) (by omega) _ (by omega) (by omega) | exact hM.tone _ (by omega) (by omega)) (fun b11 => ?_)
  refine ew_icmpeq i200_12 (by omega) (fun c12 => ?_) (fun c12 => ?_)
  · refine ew_iconst i200_18 ?_
    refine ev_istoren_3 i200_19 rfl ?_
    refine ew_iconst i200_20 ?_
    refine ev_istore_4 i200_21 rfl ?_
    exact loop (by omega) 0 (by decide) (by omega) 0 (by decide) (by decide) rfl
  · refine ew_bipush i200_15 (by decide) ?_
    refine ev_ireturn i200_17 r200 ?_
    rw [if_neg (by omega)] at hK
    exact hK (by decide) (by decide) (by decide)
theorem x_apart (hX : RX I f) {x : Int} (hx : -2147483648 ≤ x ∧ x ≤ 2147483647) (hK : K (some (.int (zI (g_apart f x)))) (I, L, ts_P0 sw, ts_S0)) : ts_Cal X (d + 3) 112 [.ref 1, .int (zI (x))] (I, L, ts_P0 sw, ts_S0) K := by
  unfold g_apart at hK
  refine ev_enter (lv := [.ref 1, .int (zI (x))]) l112 rfl (Nat.le_of_ble_eq_true rfl) ?_
  refine ev_iloadn_1 i112_0 ?_
  refine ew_iflt i112_1 (by omega) (fun c1 => ?_) (fun c1 => ?_)
  · refine ew_iconst i112_32 ?_
    refine ev_ireturn i112_33 r112 ?_
    rw [if_neg (by omega)] at hK
    exact hK
  · refine ev_aloadn_0 i112_4 ?_
    refine ev_getA i112_5 g112_5 rfl rfl (by decide) ?_
    refine ev_iloadn_1 i112_8 ?_
    refine ew_bipush i112_9 (by decide) ?_
    refine ew_idiv i112_11 (by omega) (by omega) ?_
    refine ev_virt1 i112_12 g112_12 rfl (by decide +kernel) (Nat.le_of_ble_eq_true rfl) (x_hasSaying hX (by omega) ?_)
    first
    | refine ew_ifeqB i112_15 (fun c15 => ?_) (fun c15 => ?_)
    | refine ew_ifeq i112_15 (by omega) (fun c15 => ?_) (fun c15 => ?_)
    · refine ew_iconst i112_32 ?_
      refine ev_ireturn i112_33 r112 ?_
      rw [if_neg (by omega)] at hK
      exact hK
    · refine ev_aloadn_0 i112_18 ?_
      refine ev_getA i112_19 g112_19 rfl rfl (by decide) ?_
      refine ev_iloadn_1 i112_22 ?_
      refine ew_bipush i112_23 (by decide) ?_
      refine ew_irem i112_25 (by omega) (by omega) ?_
      refine ev_virt1 i112_26 g112_26 rfl (by decide +kernel) (Nat.le_of_ble_eq_true rfl) (x_hasSaying hX (by omega) ?_)
      first
      | refine ew_ifneB i112_29 (fun c29 => ?_) (fun c29 => ?_)
      | refine ew_ifne i112_29 (by omega) (fun c29 => ?_) (fun c29 => ?_)
      · refine ev_aloadn_0 i112_34 ?_
        refine ev_getA i112_35 g112_35 rfl rfl (by decide) ?_
        refine ev_iloadn_1 i112_38 ?_
        refine ew_bipush i112_39 (by decide) ?_
        refine ew_idiv i112_41 (by omega) (by omega) ?_
        refine ev_iloadn_1 i112_42 ?_
        refine ew_bipush i112_43 (by decide) ?_
        refine ew_irem i112_45 (by omega) (by omega) ?_
        refine ev_virt2 i112_46 g112_46 rfl (by decide +kernel) (Nat.le_of_ble_eq_true rfl) (x_tonesApart hX (by omega) (by omega) (fun _ _ _ => ?_))
        refine ev_ireturn i112_49 r112 ?_
        rw [if_pos (by omega)] at hK
        exact hK
      · refine ew_iconst i112_32 ?_
        refine ev_ireturn i112_33 r112 ?_
        rw [if_neg (by omega)] at hK
        exact hK
theorem m_apart (hM : RM I f) {x : Int} (hx : -2147483648 ≤ x ∧ x ≤ 2147483647) (hK : K (some (.int (zI (g_apart f x)))) (I, L, ts_P0 sw, ts_S0)) : ts_Cal X (d + 3) 201 [.ref 72, .int (zI (x))] (I, L, ts_P0 sw, ts_S0) K := by
  unfold g_apart at hK
  refine ev_enter (lv := [.ref 72, .int (zI (x))]) l201 rfl (Nat.le_of_ble_eq_true rfl) ?_
  refine ev_iloadn_1 i201_0 ?_
  refine ew_iflt i201_1 (by omega) (fun c1 => ?_) (fun c1 => ?_)
  · refine ew_iconst i201_43 ?_
    refine ev_ireturn i201_44 r201 ?_
    first
    | (rw [if_neg (by omega)] at hK
       exact hK)
    | (rw [if_pos (by omega)] at hK
       exact hK)
  · refine ev_aloadn_0 i201_4 ?_
    refine ev_iloadn_1 i201_5 ?_
    refine ew_bipush i201_6 (by decide) ?_
    refine ew_idiv i201_8 (by omega) (by omega) ?_
    refine ew_i2l i201_9 (by omega) ?_
    refine ev_virt1 i201_10 g201_10 rfl (by decide +kernel) (Nat.le_of_ble_eq_true rfl) (m_isSaying hM (by omega) ?_)
    first
    | refine ew_ifeqB i201_13 (fun c13 => ?_) (fun c13 => ?_)
    | refine ew_ifeq i201_13 (by omega) (fun c13 => ?_) (fun c13 => ?_)
    · refine ew_iconst i201_43 ?_
      refine ev_ireturn i201_44 r201 ?_
      first
      | (rw [if_neg (by omega)] at hK
         exact hK)
      | (rw [if_pos (by omega)] at hK
         exact hK)
    · refine ev_aloadn_0 i201_16 ?_
      refine ev_iloadn_1 i201_17 ?_
      refine ew_bipush i201_18 (by decide) ?_
      refine ew_irem i201_20 (by omega) (by omega) ?_
      refine ew_i2l i201_21 (by omega) ?_
      refine ev_virt1 i201_22 g201_22 rfl (by decide +kernel) (Nat.le_of_ble_eq_true rfl) (m_isSaying hM (by omega) ?_)
      first
      | refine ew_ifeqB i201_25 (fun c25 => ?_) (fun c25 => ?_)
      | refine ew_ifeq i201_25 (by omega) (fun c25 => ?_) (fun c25 => ?_)
      · refine ew_iconst i201_43 ?_
        refine ev_ireturn i201_44 r201 ?_
        first
        | (rw [if_neg (by omega)] at hK
           exact hK)
        | (rw [if_pos (by omega)] at hK
           exact hK)
      · refine ev_aloadn_0 i201_28 ?_
        refine ev_iloadn_1 i201_29 ?_
        refine ew_bipush i201_30 (by decide) ?_
        refine ew_idiv i201_32 (by omega) (by omega) ?_
        refine ev_iloadn_1 i201_33 ?_
        refine ew_bipush i201_34 (by decide) ?_
        refine ew_irem i201_36 (by omega) (by omega) ?_
        refine ev_virt2 i201_37 g201_37 rfl (by decide +kernel) (Nat.le_of_ble_eq_true rfl) (m_apartOf hM (by omega) (by omega) (fun _ _ _ => ?_))
        refine ev_goto i201_40 ?_
        refine ev_ireturn i201_44 r201 ?_
        first
        | (rw [if_neg (by omega)] at hK
           exact hK)
        | (rw [if_pos (by omega)] at hK
           exact hK)
theorem x_closest (hX : RX I f) (hK : K (some (.int (zI (g_closest f)))) (I, L, ts_P0 sw, ts_S0)) : ts_Cal X (d + 3) 113 [.ref 1] (I, L, ts_P0 sw, ts_S0) K := by
  have b1 := hX.told.2
  unfold g_closest at hK
  have outer : ∀ a : Int, 0 ≤ a → a ≤ f_told f → ∀ l n o o2, 0 ≤ n → n ≤ 7 → zwh (f_told f) (g_closO f) a (l, n) = zwh (f_told f) (g_closO f) 0 (-2, 7) → ts_Ev X (ts_Cal X (d + 2)) 113 ts_S0 K 8 [.ref 1, .int (zI (l)), .int (zI (n)), .int (zI (a)), o, o2] [] (I, L, ts_P0 sw, ts_S0) := by
    refine ts_ind (f_told f) (fun a ih h0 h00 l n o o2 h1 h2 h6 => ?_)
    have inner : ∀ b : Int, a + 1 ≤ b → b ≤ f_told f → ∀ l' n' o2, 0 ≤ n' → n' ≤ 7 → zwh (f_told f) (g_closI f a) b (l', n') = g_closO f a (l, n) → ts_Ev X (ts_Cal X (d + 2)) 113 ts_S0 K 24 [.ref 1, .int (zI (l')), .int (zI (n')), .int (zI (a)), .int (zI (b)), o2] [] (I, L, ts_P0 sw, ts_S0) := by
      refine ts_ind (f_told f) (fun b ihb k0 k1 l' n' o2 k2 k3 k7 => ?_)
      refine ev_iload_4 i113_24 ?_
      refine ev_aloadn_0 i113_26 ?_
      refine ev_getA i113_27 g113_27 rfl rfl (by decide) ?_
      refine ew_getI i113_30 g113_30 rfl (by first | exact hX.men | exact hX.told | exact hX.road | exact hX.tone _ (by omega) (by omega) | exact hX.corn _ (by omega) (by omega) | exact hX.stand _ (by omega) (by omega) | exact hX.reach _ (by omega) (by omega) | exact hX.arm _ (by omega) (by omega) | exact hX.late _ (by omega) (by omega) | exact hX.len _ (by omega) (by omega) | exact hX.say (by omega) (by omega) _ (by omega) (by omega)) (fun b30 => ?_)
      refine ew_icmpge i113_33 (by omega) (fun c33 => ?_) (fun c33 => ?_)
      · refine ew_iinc_3 i113_78 rfl ?_
        refine ev_goto i113_81 ?_
        rw [zwh_0 (by omega)] at k7
        rw [zwh_1 (by omega), ← k7] at h6
        exact ih (by omega) (by omega) (by omega) _ _ _ _ (by omega) (by omega) h6
      · refine ev_aloadn_0 i113_36 ?_
        refine ev_getA i113_37 g113_37 rfl rfl (by decide) ?_
        refine ev_iloadn_3 i113_40 ?_
        refine ev_iload_4 i113_41 ?_
        refine ev_virt2 i113_43 g113_43 rfl (by decide +kernel) (Nat.le_of_ble_eq_true rfl) (x_tonesApart hX (by omega) (by omega) (fun q0 q1 q2 => ?_))
        refine ev_istore_5 i113_46 rfl ?_
        refine ev_iload_5 i113_48 ?_
        refine ew_bipush i113_50 (by decide) ?_
        refine ew_icmpeq i113_52 (by omega) (fun c52 => ?_) (fun c52 => ?_)
        · refine ew_iinc_4 i113_72 rfl ?_
          refine ev_goto i113_75 ?_
          rw [zwh_1 (by omega)] at k7
          unfold g_closI at k7
          first
            | (rw [if_pos (by omega)] at k7
               exact ihb (by omega) (by omega) (by omega) _ _ _ (by omega) (by omega) k7)
            | (rw [if_neg (by omega)] at k7
               exact ihb (by omega) (by omega) (by omega) _ _ _ (by omega) (by omega) k7)
        · refine ev_iload_5 i113_55 ?_
          refine ev_iloadn_2 i113_57 ?_
          refine ew_icmpge i113_58 (by omega) (fun c58 => ?_) (fun c58 => ?_)
          · refine ew_iinc_4 i113_72 rfl ?_
            refine ev_goto i113_75 ?_
            rw [zwh_1 (by omega)] at k7
            unfold g_closI at k7
            first
              | (rw [if_pos (by omega)] at k7
                 exact ihb (by omega) (by omega) (by omega) _ _ _ (by omega) (by omega) k7)
              | (rw [if_neg (by omega)] at k7
                 exact ihb (by omega) (by omega) (by omega) _ _ _ (by omega) (by omega) k7)
          · refine ev_iload_5 i113_61 ?_
            refine ev_istoren_2 i113_63 rfl ?_
            refine ew_bipush i113_64 (by decide) ?_
            refine ev_iloadn_3 i113_66 ?_
            refine ew_imul i113_67 ?_
            refine ev_iload_4 i113_68 ?_
            refine ew_iadd i113_70 ?_
            refine ev_istoren_1 i113_71 rfl ?_
            refine ew_iinc_4 i113_72 rfl ?_
            refine ev_goto i113_75 ?_
            rw [zwh_1 (by omega)] at k7
            unfold g_closI at k7
            first
              | (rw [if_pos (by omega)] at k7
                 exact ihb (by omega) (by omega) (by omega) _ _ _ (by omega) (by omega) k7)
              | (rw [if_neg (by omega)] at k7
                 exact ihb (by omega) (by omega) (by omega) _ _ _ (by omega) (by omega) k7)
    refine ev_iloadn_3 i113_8 ?_
    refine ev_aloadn_0 i113_9 ?_
    refine ev_getA i113_10 g113_10 rfl rfl (by decide) ?_
    refine ew_getI i113_13 g113_13 rfl (by first | exact hX.men | exact hX.told | exact hX.road | exact hX.tone _ (by omega) (by omega) | exact hX.corn _ (by omega) (by omega) | exact hX.stand _ (by omega) (by omega) | exact hX.reach _ (by omega) (by omega) | exact hX.arm _ (by omega) (by omega) | exact hX.late _ (by omega) (by omega) | exact hX.len _ (by omega) (by omega) | exact hX.say (by omega) (by omega) _ (by omega) (by omega)) (fun b13 => ?_)
    refine ew_icmpge i113_16 (by omega) (fun c16 => ?_) (fun c16 => ?_)
    · refine ev_iloadn_1 i113_84 ?_
      refine ev_ireturn i113_85 r113 ?_
      rw [zwh_0 (by omega)] at h6
      rw [← h6] at hK
      exact hK
    · refine ev_iloadn_3 i113_19 ?_
      refine ew_iconst i113_20 ?_
      refine ew_iadd i113_21 ?_
      refine ev_istore_4 i113_22 rfl ?_
      exact inner (a + 1) (by omega) (by omega) l n _ h1 (by omega) rfl
  refine ev_enter (lv := [.ref 1, .null, .null, .null, .null, .null]) l113 rfl (Nat.le_of_ble_eq_true rfl) ?_
  refine ew_bipush i113_0 (by decide) ?_
  refine ev_istoren_1 i113_2 rfl ?_
  refine ew_bipush i113_3 (by decide) ?_
  refine ev_istoren_2 i113_5 rfl ?_
  refine ew_iconst i113_6 ?_
  refine ev_istoren_3 i113_7 rfl ?_
  exact outer 0 (by decide) (by omega) _ _ _ _ (by decide) (by decide) rfl
theorem m_closest (hM : RM I f) (hK : K (some (.int (zI (g_closest f)))) (I, L, ts_P0 sw, ts_S0)) : ts_Cal X (d + 3) 202 [.ref 72] (I, L, ts_P0 sw, ts_S0) K := by
  have b1 := hM.told.2
  unfold g_closest at hK
  have outer : ∀ a : Int, 0 ≤ a → a ≤ f_told f → ∀ l n m o o2, 0 ≤ n → n ≤ 7 → (m = n ∨ (n = 7 ∧ m = 1000000)) → zwh (f_told f) (g_closO f) a (l, n) = zwh (f_told f) (g_closO f) 0 (-2, 7) → ts_Ev X (ts_Cal X (d + 2)) 202 ts_S0 K 9 [.ref 72, .int (zI (l)), .int (zI (m)), .int (zI (a)), o, o2] [] (I, L, ts_P0 sw, ts_S0) := by
    refine ts_ind (f_told f) (fun a ih h0 h00 l n m o o2 h1 h2 h3 h6 => ?_)
    have inner : ∀ b : Int, a + 1 ≤ b → b ≤ f_told f → ∀ l' n' m' o2, 0 ≤ n' → n' ≤ 7 → (m' = n' ∨ (n' = 7 ∧ m' = 1000000)) → zwh (f_told f) (g_closI f a) b (l', n') = g_closO f a (l, n) → ts_Ev X (ts_Cal X (d + 2)) 202 ts_S0 K 22 [.ref 72, .int (zI (l')), .int (zI (m')), .int (zI (a)), .int (zI (b)), o2] [] (I, L, ts_P0 sw, ts_S0) := by
      refine ts_ind (f_told f) (fun b ihb k0 k1 l' n' m' o2 k2 k3 k4 k7 => ?_)
      refine ev_iload_4 i202_22 ?_
      refine ev_aloadn_0 i202_24 ?_
      refine ew_getI i202_25 g202_25 rfl (by first | exact hM.men | exact hM.told | exact hM.road | exact hM.stand _ (by omega) (by omega) | exact hM.reach _ (by omega) (by omega) | exact hM.arm _ (by omega) (by omega) | exact hM.late _ (by omega) (by omega) | exact hM.len _ (by omega) (by omega) | exact hM.corn _ (by omega) (by omega) | exact hM.say (by omega) (by omega) _ (by omega) (by omega) | exact hM.tone _ (by omega) (by omega)) (fun b25 => ?_)
      refine ew_icmpge i202_28 (by omega) (fun c28 => ?_) (fun c28 => ?_)
      · refine ew_iinc_3 i202_68 rfl ?_
        refine ev_goto i202_71 ?_
        rw [zwh_0 (by omega)] at k7
        rw [zwh_1 (by omega), ← k7] at h6
        exact ih (by omega) (by omega) (by omega) _ _ _ _ _ (by omega) (by omega) k4 h6
      · refine ev_aloadn_0 i202_31 ?_
        refine ev_iloadn_3 i202_32 ?_
        refine ev_iload_4 i202_33 ?_
        refine ev_virt2 i202_35 g202_35 rfl (by decide +kernel) (Nat.le_of_ble_eq_true rfl) (m_apartOf hM (by omega) (by omega) (fun q0 q1 q2 => ?_))
        refine ev_istore_5 i202_38 rfl ?_
        refine ev_iload_5 i202_40 ?_
        refine ew_iflt i202_42 (by omega) (fun c42 => ?_) (fun c42 => ?_)
        · refine ew_iinc_4 i202_62 rfl ?_
          refine ev_goto i202_65 ?_
          rw [zwh_1 (by omega)] at k7
          unfold g_closI at k7
          first
            | (rw [if_pos (by omega)] at k7
               exact ihb (by omega) (by omega) (by omega) _ _ _ _ (by omega) (by omega) (Or.inl rfl) k7)
            | (rw [if_neg (by omega)] at k7
               exact ihb (by omega) (by omega) (by omega) _ _ _ _ (by omega) (by omega) k4 k7)
        · refine ev_iload_5 i202_45 ?_
          refine ev_iloadn_2 i202_47 ?_
          refine ew_icmpge i202_48 (by omega) (fun c48 => ?_) (fun c48 => ?_)
          · refine ew_iinc_4 i202_62 rfl ?_
            refine ev_goto i202_65 ?_
            rw [zwh_1 (by omega)] at k7
            unfold g_closI at k7
            first
              | (rw [if_pos (by omega)] at k7
                 exact ihb (by omega) (by omega) (by omega) _ _ _ _ (by omega) (by omega) (Or.inl rfl) k7)
              | (rw [if_neg (by omega)] at k7
                 exact ihb (by omega) (by omega) (by omega) _ _ _ _ (by omega) (by omega) k4 k7)
          · refine ew_bipush i202_51 (by decide) ?_
            refine ev_iloadn_3 i202_53 ?_
            refine ew_imul i202_54 ?_
            refine ev_iload_4 i202_55 ?_
            refine ew_iadd i202_57 ?_
            refine ev_istoren_1 i202_58 rfl ?_
            refine ev_iload_5 i202_59 ?_
            refine ev_istoren_2 i202_61 rfl ?_
            refine ew_iinc_4 i202_62 rfl ?_
            refine ev_goto i202_65 ?_
            rw [zwh_1 (by omega)] at k7
            unfold g_closI at k7
            first
              | (rw [if_pos (by omega)] at k7
                 exact ihb (by omega) (by omega) (by omega) _ _ _ _ (by omega) (by omega) (Or.inl rfl) k7)
              | (rw [if_neg (by omega)] at k7
                 exact ihb (by omega) (by omega) (by omega) _ _ _ _ (by omega) (by omega) k4 k7)
    refine ev_iloadn_3 i202_9 ?_
    refine ev_aloadn_0 i202_10 ?_
    refine ew_getI i202_11 g202_11 rfl (by first | exact hM.men | exact hM.told | exact hM.road | exact hM.stand _ (by omega) (by omega) | exact hM.reach _ (by omega) (by omega) | exact hM.arm _ (by omega) (by omega) | exact hM.late _ (by omega) (by omega) | exact hM.len _ (by omega) (by omega) | exact hM.corn _ (by omega) (by omega) | exact hM.say (by omega) (by omega) _ (by omega) (by omega) | exact hM.tone _ (by omega) (by omega)) (fun b11 => ?_)
    refine ew_icmpge i202_14 (by omega) (fun c14 => ?_) (fun c14 => ?_)
    · refine ev_iloadn_1 i202_74 ?_
      refine ev_ireturn i202_75 r202 ?_
      rw [zwh_0 (by omega)] at h6
      rw [← h6] at hK
      exact hK
    · refine ev_iloadn_3 i202_17 ?_
      refine ew_iconst i202_18 ?_
      refine ew_iadd i202_19 ?_
      refine ev_istore_4 i202_20 rfl ?_
      exact inner (a + 1) (by omega) (by omega) l n m _ h1 (by omega) h3 rfl
  refine ev_enter (lv := [.ref 72, .null, .null, .null, .null, .null]) l202 rfl (Nat.le_of_ble_eq_true rfl) ?_
  refine ew_bipush i202_0 (by decide) ?_
  refine ev_istoren_1 i202_2 rfl ?_
  refine ew_ldc_w (z := (1000000)) i202_3 g202_3 (by decide) ?_
  refine ev_istoren_2 i202_6 rfl ?_
  refine ew_iconst i202_7 ?_
  refine ev_istoren_3 i202_8 rfl ?_
  exact outer 0 (by decide) (by omega) _ 7 _ _ _ (by decide) (by decide) (Or.inr ⟨rfl, rfl⟩) rfl
theorem x_startsWith (hX : RX I f) {o s : Int} (ho : 0 ≤ o ∧ o < f_told f) (hs : 0 ≤ s ∧ s < f_told f) (hK : K (some (.int (zI (if f_len f s ≤ f_len f o ∧ zall (fun k => f_say f o k = f_say f s k) (f_len f s).toNat = true then 1 else 0)))) (I, L, ts_P0 sw, ts_S0)) : ts_Cal X (d + 1) 33 [.ref 2, .int (zI (o)), .int (zI (s))] (I, L, ts_P0 sw, ts_S0) K := by
  have b1 := hX.told.2
  have b2 := (hX.len o (by omega) (by omega)).2
  have b3 := (hX.len s (by omega) (by omega)).2
  have loop : f_len f s ≤ f_len f o → ∀ k : Int, 0 ≤ k → k ≤ f_len f s → zall (fun k => f_say f o k = f_say f s k) k.toNat = true → ts_Ev X (ts_Cal X (d + 0)) 33 ts_S0 K 19 [.ref 2, .int (zI (o)), .int (zI (s)), .int (zI (k))] [] (I, L, ts_P0 sw, ts_S0) := by
    intro he
    refine ts_ind (f_len f s) (fun k ih h0 h1 h2 => ?_)
    refine ev_iloadn_3 i33_19 ?_
    refine ev_aloadn_0 i33_20 ?_
    refine ev_getA i33_21 g33_21 rfl rfl (by decide) ?_
    refine ev_iloadn_2 i33_24 ?_
    refine ew_iaload i33_25 rfl (by omega) (by omega) (by omega) (by first | exact hX.men | exact hX.told | exact hX.road | exact hX.tone _ (by omega) (by omega) | exact hX.corn _ (by omega) (by omega) | exact hX.stand _ (by omega) (by omega) | exact hX.reach _ (by omega) (by omega) | exact hX.arm _ (by omega) (by omega) | exact hX.late _ (by omega) (by omega) | exact hX.len _ (by omega) (by omega) | exact hX.say (by omega) (by omega) _ (by omega) (by omega)) (fun b25 => ?_)
    refine ew_icmpge i33_26 (by omega) (fun c26 => ?_) (fun c26 => ?_)
    · refine ew_iconst i33_56 ?_
      obtain rfl : k = f_len f s := by omega
      exact ew_zreturn i33_57 r33 (Or.inl ⟨rfl, he, h2⟩) hK
    · refine ev_aloadn_0 i33_29 ?_
      refine ev_getA i33_30 g33_30 rfl rfl (by decide) ?_
      refine ev_iloadn_1 i33_33 ?_
      refine ew_aaloadG i33_34 rfl (by omega) (by omega) (by omega) (floor_P (by omega) (by omega)) (by omega) ?_
      refine ev_iloadn_3 i33_35 ?_
      refine ew_iaload i33_36 (floor_A (by omega) (by omega)) (by omega) (by omega) (by omega) ((hX.say (by omega) (by omega) _ (by omega) (by omega))) (fun b36 => ?_)
      refine ev_aloadn_0 i33_37 ?_
      refine ev_getA i33_38 g33_38 rfl rfl (by decide) ?_
      refine ev_iloadn_2 i33_41 ?_
      refine ew_aaloadG i33_42 rfl (by omega) (by omega) (by omega) (floor_P (by omega) (by omega)) (by omega) ?_
      refine ev_iloadn_3 i33_43 ?_
      refine ew_iaload i33_44 (floor_A (by omega) (by omega)) (by omega) (by omega) (by omega) ((hX.say (by omega) (by omega) _ (by omega) (by omega))) (fun b44 => ?_)
      refine ew_icmpeq i33_45 (by omega) (fun c45 => ?_) (fun c45 => ?_)
      · refine ew_iinc_3 i33_50 rfl ?_
        refine ev_goto i33_53 ?_
        exact ih (by omega) (by omega) (by omega) ((zall_s h0).mpr ⟨h2, c45⟩)
      · refine ew_iconst i33_48 ?_
        exact ew_zreturn i33_49 r33 (Or.inr ⟨rfl, fun r => c45 (zall_t.mp r.2 k h0 (by omega))⟩) hK
  refine ev_enter (lv := [.ref 2, .int (zI (o)), .int (zI (s)), .null]) l33 rfl (Nat.le_of_ble_eq_true rfl) ?_
  refine ev_aloadn_0 i33_0 ?_
  refine ev_getA i33_1 g33_1 rfl rfl (by decide) ?_
  refine ev_iloadn_1 i33_4 ?_
  refine ew_iaload i33_5 rfl (by omega) (by omega) (by omega) (by first | exact hX.men | exact hX.told | exact hX.road | exact hX.tone _ (by omega) (by omega) | exact hX.corn _ (by omega) (by omega) | exact hX.stand _ (by omega) (by omega) | exact hX.reach _ (by omega) (by omega) | exact hX.arm _ (by omega) (by omega) | exact hX.late _ (by omega) (by omega) | exact hX.len _ (by omega) (by omega) | exact hX.say (by omega) (by omega) _ (by omega) (by omega)) (fun b5 => ?_)
  refine ev_aloadn_0 i33_6 ?_
  refine ev_getA i33_7 g33_7 rfl rfl (by decide) ?_
  refine ev_iloadn_2 i33_10 ?_
  refine ew_iaload i33_11 rfl (by omega) (by omega) (by omega) (by first | exact hX.men | exact hX.told | exact hX.road | exact hX.tone _ (by omega) (by omega) | exact hX.corn _ (by omega) (by omega) | exact hX.stand _ (by omega) (by omega) | exact hX.reach _ (by omega) (by omega) | exact hX.arm _ (by omega) (by omega) | exact hX.late _ (by omega) (by omega) | exact hX.len _ (by omega) (by omega) | exact hX.say (by omega) (by omega) _ (by omega) (by omega)) (fun b11 => ?_)
  refine ew_icmpge i33_12 (by omega) (fun c12 => ?_) (fun c12 => ?_)
  · refine ew_iconst i33_17 ?_
    refine ev_istoren_3 i33_18 rfl ?_
    exact loop (by omega) 0 (by decide) (by omega) rfl
  · refine ew_iconst i33_15 ?_
    exact ew_zreturn i33_16 r33 (Or.inr ⟨rfl, fun r => by have r1 := r.1; omega⟩) hK
theorem x_begins (hX : RX I f) {s : Int} (hs : -2147483648 ≤ s ∧ s ≤ 2147483647) (hK : K (some (.int (zI (g_begins f s)))) (I, L, ts_P0 sw, ts_S0)) : ts_Cal X (d + 2) 114 [.ref 1, .int (zI (s))] (I, L, ts_P0 sw, ts_S0) K := by
  have b1 := hX.told.2
  unfold g_begins at hK
  have loop : (0 ≤ s ∧ s < f_told f) → ∀ j : Int, 0 ≤ j → j ≤ f_told f → ts_Ev X (ts_Cal X (d + 1)) 114 ts_S0 K 17 [.ref 1, .int (zI (s)), .int (zI (zbits (g_begs f s) j.toNat)), .int (zI (j))] [] (I, L, ts_P0 sw, ts_S0) := by
    intro hs2
    refine ts_ind (f_told f) (fun j ih h0 h1 => ?_)
    refine ev_iloadn_3 i114_17 ?_
    refine ev_aloadn_0 i114_18 ?_
    refine ev_getA i114_19 g114_19 rfl rfl (by decide) ?_
    refine ew_getI i114_22 g114_22 rfl (by first | exact hX.men | exact hX.told | exact hX.road | exact hX.tone _ (by omega) (by omega) | exact hX.corn _ (by omega) (by omega) | exact hX.stand _ (by omega) (by omega) | exact hX.reach _ (by omega) (by omega) | exact hX.arm _ (by omega) (by omega) | exact hX.late _ (by omega) (by omega) | exact hX.len _ (by omega) (by omega) | exact hX.say (by omega) (by omega) _ (by omega) (by omega)) (fun b22 => ?_)
    refine ew_icmpge i114_25 (by omega) (fun c25 => ?_) (fun c25 => ?_)
    · refine ev_iloadn_2 i114_57 ?_
      refine ev_ireturn i114_58 r114 ?_
      obtain rfl : j = f_told f := by omega
      rw [if_pos hs2] at hK
      exact hK
    · refine ev_iloadn_3 i114_28 ?_
      refine ev_iloadn_1 i114_29 ?_
      refine ew_icmpeq i114_30 (by omega) (fun c30 => ?_) (fun c30 => ?_)
      · refine ew_iinc_3 i114_51 rfl ?_
        refine ev_goto i114_54 ?_
        have e := ih (by omega) (by omega) (by omega)
        rw [zbits_s h0] at e
        first
          | (rw [if_pos ⟨⟨c30, c42.1⟩, c42.2⟩] at e; exact e)
          | (rw [if_neg (fun r => c42 ⟨r.1.2, r.2⟩)] at e; exact e)
          | (rw [if_neg (fun r => r.1.1 c30)] at e; exact e)
      · refine ev_aloadn_0 i114_33 ?_
        refine ev_getA i114_34 g114_34 rfl rfl (by decide) ?_
        refine ev_iloadn_3 i114_37 ?_
        refine ev_iloadn_1 i114_38 ?_
        refine ev_virt2 i114_39 g114_39 rfl (by decide +kernel) (Nat.le_of_ble_eq_true rfl) (x_startsWith hX (by omega) (by omega) ?_)
        first
        | refine ew_ifeqB i114_42 (fun c42 => ?_) (fun c42 => ?_)
        | refine ew_ifeq i114_42 (by omega) (fun c42 => ?_) (fun c42 => ?_)
        · refine ew_iinc_3 i114_51 rfl ?_
          refine ev_goto i114_54 ?_
          have e := ih (by omega) (by omega) (by omega)
          rw [zbits_s h0] at e
          first
            | (rw [if_pos ⟨⟨c30, c42.1⟩, c42.2⟩] at e; exact e)
            | (rw [if_neg (fun r => c42 ⟨r.1.2, r.2⟩)] at e; exact e)
            | (rw [if_neg (fun r => r.1.1 c30)] at e; exact e)
        · refine ev_iloadn_2 i114_45 ?_
          refine ew_iconst i114_46 ?_
          refine ev_iloadn_3 i114_47 ?_
          refine ew_ishl i114_48 ?_
          refine ew_ior i114_49 ?_
          refine ev_istoren_2 i114_50 rfl ?_
          refine ew_iinc_3 i114_51 rfl ?_
          refine ev_goto i114_54 ?_
          have e := ih (by omega) (by omega) (by omega)
          rw [zbits_s h0] at e
          first
            | (rw [if_pos ⟨⟨c30, c42.1⟩, c42.2⟩] at e; exact e)
            | (rw [if_neg (fun r => c42 ⟨r.1.2, r.2⟩)] at e; exact e)
            | (rw [if_neg (fun r => r.1.1 c30)] at e; exact e)
  refine ev_enter (lv := [.ref 1, .int (zI (s)), .null, .null]) l114 rfl (Nat.le_of_ble_eq_true rfl) ?_
  refine ev_aloadn_0 i114_0 ?_
  refine ev_getA i114_1 g114_1 rfl rfl (by decide) ?_
  refine ev_iloadn_1 i114_4 ?_
  refine ev_virt1 i114_5 g114_5 rfl (by decide +kernel) (Nat.le_of_ble_eq_true rfl) (x_hasSaying hX hs ?_)
  first
  | refine ew_ifneB i114_8 (fun c8 => ?_) (fun c8 => ?_)
  | refine ew_ifne i114_8 (by omega) (fun c8 => ?_) (fun c8 => ?_)
  · refine ew_iconst i114_13 ?_
    refine ev_istoren_2 i114_14 rfl ?_
    refine ew_iconst i114_15 ?_
    refine ev_istoren_3 i114_16 rfl ?_
    exact loop c8 0 (by decide) (by omega)
  · refine ew_iconst i114_11 ?_
    refine ev_ireturn i114_12 r114 ?_
    rw [if_neg c8] at hK
    exact hK
theorem m_begins (hM : RM I f) {s : Int} (hs : -2147483648 ≤ s ∧ s ≤ 2147483647) (hK : K (some (.int (zI (g_begins f s)))) (I, L, ts_P0 sw, ts_S0)) : ts_Cal X (d + 3) 203 [.ref 72, .int (zI (s))] (I, L, ts_P0 sw, ts_S0) K := by
  have b1 := hM.told.2
  unfold g_begins at hK
  have loop : (0 ≤ s ∧ s < f_told f) → ∀ j : Int, 0 ≤ j → j ≤ f_told f → ∀ o o2, ts_Ev X (ts_Cal X (d + 2)) 203 ts_S0 K 15 [.ref 72, .int (zI (s)), .int (zI (zbits (g_begs f s) j.toNat)), .int (zI (j)), o, o2] [] (I, L, ts_P0 sw, ts_S0) := by
    intro hs2
    refine ts_ind (f_told f) (fun j ih h0 h1 o o2 => ?_)
    have b3 := (hM.len s (by omega) (by omega)).2
    have inner : j < f_told f → ∀ k : Int, 0 ≤ k → k ≤ f_len f s → ts_Ev X (ts_Cal X (d + 2)) 203 ts_S0 K 53 [.ref 72, .int (zI (s)), .int (zI (zbits (g_begs f s) j.toNat)), .int (zI (j)), .int (zI (if (¬ j = s ∧ f_len f s ≤ f_len f j) ∧ zall (fun k => f_say f j k = f_say f s k) k.toNat = true then 1 else 0)), .int (zI (k))] [] (I, L, ts_P0 sw, ts_S0) := by
      intro hj
      refine ts_ind (f_len f s) (fun k ihk k0 k1 => ?_)
      refine ev_iload_5 i203_53 ?_
      refine ev_aloadn_0 i203_55 ?_
      refine ev_getA i203_56 g203_56 rfl rfl (by decide) ?_
      refine ev_iloadn_1 i203_59 ?_
      refine ew_iaload i203_60 rfl (by omega) (by omega) (by omega) (by first | exact hM.len _ (by omega) (by omega) | exact hM.men | exact hM.told | exact hM.road | exact hM.stand _ (by omega) (by omega) | exact hM.reach _ (by omega) (by omega) | exact hM.arm _ (by omega) (by omega) | exact hM.late _ (by omega) (by omega) | exact hM.len _ (by omega) (by omega) | exact hM.corn _ (by omega) (by omega) | exact hM.say (by omega) (by omega) _ (by omega) (by omega) | exact hM.tone _ (by omega) (by omega)) (fun b60 => ?_)
      refine ew_icmpge i203_61 (by omega) (fun c61 => ?_) (fun c61 => ?_)
      · refine ev_iloadn_2 i203_115 ?_
        refine ev_iload_4 i203_116 ?_
        first
        | refine ew_ifeqB i203_118 (fun c118 => ?_) (fun c118 => ?_)
        | refine ew_ifeq i203_118 (by omega) (fun c118 => ?_) (fun c118 => ?_)
        · refine ew_iconst i203_127 ?_
          refine ew_ior i203_128 ?_
          refine ev_istoren_2 i203_129 rfl ?_
          refine ew_iinc_3 i203_130 rfl ?_
          refine ev_goto i203_133 ?_
          have e := ih (by omega) (by omega) (by omega)
          rw [zbits_s h0] at e
          obtain rfl : k = f_len f s := by omega
          first
            | (rw [if_pos c118] at e; exact e _ _)
            | (rw [if_neg c118] at e; rw [zor_0 (zbits_r _ _)]; exact e _ _)
        · refine ew_iconst i203_121 ?_
          refine ev_iloadn_3 i203_122 ?_
          refine ew_ishl i203_123 ?_
          refine ev_goto i203_124 ?_
          refine ew_ior i203_128 ?_
          refine ev_istoren_2 i203_129 rfl ?_
          refine ew_iinc_3 i203_130 rfl ?_
          refine ev_goto i203_133 ?_
          have e := ih (by omega) (by omega) (by omega)
          rw [zbits_s h0] at e
          obtain rfl : k = f_len f s := by omega
          first
            | (rw [if_pos c118] at e; exact e _ _)
            | (rw [if_neg c118] at e; rw [zor_0 (zbits_r _ _)]; exact e _ _)
      · refine ev_iload_4 i203_64 ?_
        first
        | refine ew_ifeqB i203_66 (fun c66 => ?_) (fun c66 => ?_)
        | refine ew_ifeq i203_66 (by omega) (fun c66 => ?_) (fun c66 => ?_)
        · refine ew_iconst i203_106 ?_
          refine ev_istore_4 i203_107 rfl ?_
          refine ew_iinc_5 i203_109 rfl ?_
          refine ev_goto i203_112 ?_
          have e := ihk (by omega) (by omega) (by omega)
          first
            | (rw [if_pos ⟨c66.1, (zall_s k0).mpr ⟨c66.2, c99⟩⟩] at e; exact e)
            | (rw [if_neg (fun r => c99 ((zall_s k0).mp r.2).2)] at e; exact e)
            | (rw [if_neg (fun r => c66 ⟨r.1, ((zall_s k0).mp r.2).1⟩)] at e; exact e)
        · refine ev_aloadn_0 i203_69 ?_
          refine ev_getA i203_70 g203_70 rfl rfl (by decide) ?_
          refine ew_bipush i203_73 (by decide) ?_
          refine ew_bipush i203_75 (by decide) ?_
          refine ev_iloadn_3 i203_77 ?_
          refine ew_imul i203_78 ?_
          refine ew_iadd i203_79 ?_
          refine ev_iload_5 i203_80 ?_
          refine ew_iadd i203_82 ?_
          refine ew_iaload i203_83 rfl (by omega) (by omega) (by omega) ((hM.say (by omega) (by omega) _ (by omega) (by omega))) (fun b83 => ?_)
          refine ev_aloadn_0 i203_84 ?_
          refine ev_getA i203_85 g203_85 rfl rfl (by decide) ?_
          refine ew_bipush i203_88 (by decide) ?_
          refine ew_bipush i203_90 (by decide) ?_
          refine ev_iloadn_1 i203_92 ?_
          refine ew_imul i203_93 ?_
          refine ew_iadd i203_94 ?_
          refine ev_iload_5 i203_95 ?_
          refine ew_iadd i203_97 ?_
          refine ew_iaload i203_98 rfl (by omega) (by omega) (by omega) ((hM.say (by omega) (by omega) _ (by omega) (by omega))) (fun b98 => ?_)
          refine ew_icmpne i203_99 (by omega) (fun c99 => ?_) (fun c99 => ?_)
          · refine ew_iconst i203_106 ?_
            refine ev_istore_4 i203_107 rfl ?_
            refine ew_iinc_5 i203_109 rfl ?_
            refine ev_goto i203_112 ?_
            have e := ihk (by omega) (by omega) (by omega)
            first
              | (rw [if_pos ⟨c66.1, (zall_s k0).mpr ⟨c66.2, c99⟩⟩] at e; exact e)
              | (rw [if_neg (fun r => c99 ((zall_s k0).mp r.2).2)] at e; exact e)
              | (rw [if_neg (fun r => c66 ⟨r.1, ((zall_s k0).mp r.2).1⟩)] at e; exact e)
          · refine ew_iconst i203_102 ?_
            refine ev_goto i203_103 ?_
            refine ev_istore_4 i203_107 rfl ?_
            refine ew_iinc_5 i203_109 rfl ?_
            refine ev_goto i203_112 ?_
            have e := ihk (by omega) (by omega) (by omega)
            first
              | (rw [if_pos ⟨c66.1, (zall_s k0).mpr ⟨c66.2, c99⟩⟩] at e; exact e)
              | (rw [if_neg (fun r => c99 ((zall_s k0).mp r.2).2)] at e; exact e)
              | (rw [if_neg (fun r => c66 ⟨r.1, ((zall_s k0).mp r.2).1⟩)] at e; exact e)
    refine ev_iloadn_3 i203_15 ?_
    refine ev_aloadn_0 i203_16 ?_
    refine ew_getI i203_17 g203_17 rfl (by first | exact hM.len _ (by omega) (by omega) | exact hM.men | exact hM.told | exact hM.road | exact hM.stand _ (by omega) (by omega) | exact hM.reach _ (by omega) (by omega) | exact hM.arm _ (by omega) (by omega) | exact hM.late _ (by omega) (by omega) | exact hM.len _ (by omega) (by omega) | exact hM.corn _ (by omega) (by omega) | exact hM.say (by omega) (by omega) _ (by omega) (by omega) | exact hM.tone _ (by omega) (by omega)) (fun b17 => ?_)
    refine ew_icmpge i203_20 (by omega) (fun c20 => ?_) (fun c20 => ?_)
    · refine ev_iloadn_2 i203_136 ?_
      refine ev_ireturn i203_137 r203 ?_
      obtain rfl : j = f_told f := by omega
      rw [if_pos hs2] at hK
      exact hK
    · refine ev_iloadn_3 i203_23 ?_
      refine ev_iloadn_1 i203_24 ?_
      refine ew_icmpeq i203_25 (by omega) (fun c25 => ?_) (fun c25 => ?_)
      · refine ew_iconst i203_47 ?_
        refine ev_istore_4 i203_48 rfl ?_
        refine ew_iconst i203_50 ?_
        refine ev_istore_5 i203_51 rfl ?_
        have e := inner (by omega) 0 (by decide) (by omega)
        first
          | (rw [if_pos ⟨⟨by omega, by omega⟩, rfl⟩] at e; exact e)
          | (rw [if_neg (fun r => by have r1 := r.1.1; have r2 := r.1.2; omega)] at e; exact e)
      · refine ev_aloadn_0 i203_28 ?_
        refine ev_getA i203_29 g203_29 rfl rfl (by decide) ?_
        refine ev_iloadn_3 i203_32 ?_
        refine ew_iaload i203_33 rfl (by omega) (by omega) (by omega) (by first | exact hM.len _ (by omega) (by omega) | exact hM.men | exact hM.told | exact hM.road | exact hM.stand _ (by omega) (by omega) | exact hM.reach _ (by omega) (by omega) | exact hM.arm _ (by omega) (by omega) | exact hM.late _ (by omega) (by omega) | exact hM.len _ (by omega) (by omega) | exact hM.corn _ (by omega) (by omega) | exact hM.say (by omega) (by omega) _ (by omega) (by omega) | exact hM.tone _ (by omega) (by omega)) (fun b33 => ?_)
        refine ev_aloadn_0 i203_34 ?_
        refine ev_getA i203_35 g203_35 rfl rfl (by decide) ?_
        refine ev_iloadn_1 i203_38 ?_
        refine ew_iaload i203_39 rfl (by omega) (by omega) (by omega) (by first | exact hM.len _ (by omega) (by omega) | exact hM.men | exact hM.told | exact hM.road | exact hM.stand _ (by omega) (by omega) | exact hM.reach _ (by omega) (by omega) | exact hM.arm _ (by omega) (by omega) | exact hM.late _ (by omega) (by omega) | exact hM.len _ (by omega) (by omega) | exact hM.corn _ (by omega) (by omega) | exact hM.say (by omega) (by omega) _ (by omega) (by omega) | exact hM.tone _ (by omega) (by omega)) (fun b39 => ?_)
        refine ew_icmplt i203_40 (by omega) (fun c40 => ?_) (fun c40 => ?_)
        · refine ew_iconst i203_47 ?_
          refine ev_istore_4 i203_48 rfl ?_
          refine ew_iconst i203_50 ?_
          refine ev_istore_5 i203_51 rfl ?_
          have e := inner (by omega) 0 (by decide) (by omega)
          first
            | (rw [if_pos ⟨⟨by omega, by omega⟩, rfl⟩] at e; exact e)
            | (rw [if_neg (fun r => by have r1 := r.1.1; have r2 := r.1.2; omega)] at e; exact e)
        · refine ew_iconst i203_43 ?_
          refine ev_goto i203_44 ?_
          refine ev_istore_4 i203_48 rfl ?_
          refine ew_iconst i203_50 ?_
          refine ev_istore_5 i203_51 rfl ?_
          have e := inner (by omega) 0 (by decide) (by omega)
          first
            | (rw [if_pos ⟨⟨by omega, by omega⟩, rfl⟩] at e; exact e)
            | (rw [if_neg (fun r => by have r1 := r.1.1; have r2 := r.1.2; omega)] at e; exact e)
  refine ev_enter (lv := [.ref 72, .int (zI (s)), .null, .null, .null, .null]) l203 rfl (Nat.le_of_ble_eq_true rfl) ?_
  refine ev_aloadn_0 i203_0 ?_
  refine ev_iloadn_1 i203_1 ?_
  refine ew_i2l i203_2 (by omega) ?_
  refine ev_virt1 i203_3 g203_3 rfl (by decide +kernel) (Nat.le_of_ble_eq_true rfl) (m_isSaying hM (by omega) ?_)
  first
  | refine ew_ifneB i203_6 (fun c6 => ?_) (fun c6 => ?_)
  | refine ew_ifne i203_6 (by omega) (fun c6 => ?_) (fun c6 => ?_)
  · refine ew_iconst i203_11 ?_
    refine ev_istoren_2 i203_12 rfl ?_
    refine ew_iconst i203_13 ?_
    refine ev_istoren_3 i203_14 rfl ?_
    exact loop c6 0 (by decide) (by omega) _ _
  · refine ew_iconst i203_9 ?_
    refine ev_ireturn i203_10 r203 ?_
    rw [if_neg c6] at hK
    exact hK
end SA
