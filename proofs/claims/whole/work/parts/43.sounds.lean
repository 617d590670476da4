theorem i69_0 : ts_ins 69 0 = some (.aload_n 0, 1, 0) := by decide +kernel
theorem i69_1 : ts_ins 69 1 = some (.iconst 0, 2, 0) := by decide +kernel
theorem i69_2 : ts_ins 69 2 = some (.putfield 15, 5, 0) := by decide +kernel
theorem g69_2 : ts_fmm 69 15 = some (8, 2, 0, false) := by decide +kernel
theorem i69_5 : ts_ins 69 5 = some (.bipush 6, 7, 0) := by decide +kernel
theorem i69_7 : ts_ins 69 7 = some (.aload_n 1, 8, 0) := by decide +kernel
theorem i69_8 : ts_ins 69 8 = some (.getfield 23, 11, 0) := by decide +kernel
theorem g69_8 : ts_fm 69 23 = some (7, 4, 0) := by decide +kernel
theorem i69_11 : ts_ins 69 11 = some (.invokestatic 28, 14, 0) := by decide +kernel
theorem g69_11 : ts_cal (ts_mc 69) 28 = some (6, 0, 2) := by decide +kernel
theorem i69_14 : ts_ins 69 14 = some (.istore_n 2, 15, 0) := by decide +kernel
theorem i69_15 : ts_ins 69 15 = some (.iconst 0, 16, 0) := by decide +kernel
theorem i69_16 : ts_ins 69 16 = some (.istore_n 3, 17, 0) := by decide +kernel
theorem i69_17 : ts_ins 69 17 = some (.iload_n 3, 18, 0) := by decide +kernel
theorem i69_18 : ts_ins 69 18 = some (.iload_n 2, 19, 0) := by decide +kernel
theorem i69_19 : ts_ins 69 19 = some (.if_icmp .ge 41, 22, 60) := by decide +kernel
theorem i69_22 : ts_ins 69 22 = some (.aload_n 1, 23, 0) := by decide +kernel
theorem i69_23 : ts_ins 69 23 = some (.iload_n 3, 24, 0) := by decide +kernel
theorem i69_24 : ts_ins 69 24 = some (.iconst 1, 25, 0) := by decide +kernel
theorem i69_25 : ts_ins 69 25 = some (.invokevirtual 34, 28, 0) := by decide +kernel
theorem g69_25 : ts_cal (ts_mc 69) 34 = some (0, 65, 2) := by decide +kernel
theorem i69_28 : ts_ins 69 28 = some (.ifCond .eq 32, 31, 60) := by decide +kernel
theorem i69_31 : ts_ins 69 31 = some (.aload_n 0, 32, 0) := by decide +kernel
theorem i69_32 : ts_ins 69 32 = some (.getfield 9, 35, 0) := by decide +kernel
theorem g69_32 : ts_fm 69 9 = some (8, 1, 2) := by decide +kernel
theorem i69_35 : ts_ins 69 35 = some (.iload_n 3, 36, 0) := by decide +kernel
theorem i69_36 : ts_ins 69 36 = some (.aload_n 1, 37, 0) := by decide +kernel
theorem i69_37 : ts_ins 69 37 = some (.getfield 38, 40, 0) := by decide +kernel
theorem g69_37 : ts_fm 69 38 = some (7, 0, 2) := by decide +kernel
theorem i69_40 : ts_ins 69 40 = some (.iload_n 3, 41, 0) := by decide +kernel
theorem i69_41 : ts_ins 69 41 = some (.laload, 42, 0) := by decide +kernel
theorem i69_42 : ts_ins 69 42 = some (.l2i, 43, 0) := by decide +kernel
theorem i69_43 : ts_ins 69 43 = some (.iastore, 44, 0) := by decide +kernel
theorem i69_44 : ts_ins 69 44 = some (.aload_n 0, 45, 0) := by decide +kernel
theorem i69_45 : ts_ins 69 45 = some (.dup, 46, 0) := by decide +kernel
theorem i69_46 : ts_ins 69 46 = some (.getfield 15, 49, 0) := by decide +kernel
theorem g69_46 : ts_fm 69 15 = some (8, 2, 0) := by decide +kernel
theorem i69_49 : ts_ins 69 49 = some (.iconst 1, 50, 0) := by decide +kernel
theorem i69_50 : ts_ins 69 50 = some (.iadd, 51, 0) := by decide +kernel
theorem i69_51 : ts_ins 69 51 = some (.putfield 15, 54, 0) := by decide +kernel
theorem g69_51 : ts_fmm 69 15 = some (8, 2, 0, false) := by decide +kernel
theorem i69_54 : ts_ins 69 54 = some (.iinc 3 1, 57, 0) := by decide +kernel
theorem i69_57 : ts_ins 69 57 = some (.goto (-40), 60, 17) := by decide +kernel
theorem i69_60 : ts_ins 69 60 = some (.return_, 61, 0) := by decide +kernel
theorem r69 : ts_rt 69 = (none, 0, 0) := by decide +kernel
theorem l69 : ts_ml 69 = 4 := by decide +kernel
theorem i191_0 : ts_ins 191 0 = some (.aload_n 0, 1, 0) := by decide +kernel
theorem i191_1 : ts_ins 191 1 = some (.iconst 0, 2, 0) := by decide +kernel
theorem i191_2 : ts_ins 191 2 = some (.putfield 247, 5, 0) := by decide +kernel
theorem g191_2 : ts_fmm 191 247 = some (12, 25, 0, false) := by decide +kernel
theorem i191_5 : ts_ins 191 5 = some (.aload_n 0, 6, 0) := by decide +kernel
theorem i191_6 : ts_ins 191 6 = some (.getfield 247, 9, 0) := by decide +kernel
theorem g191_6 : ts_fm 191 247 = some (12, 25, 0) := by decide +kernel
theorem i191_9 : ts_ins 191 9 = some (.bipush 6, 11, 0) := by decide +kernel
theorem i191_11 : ts_ins 191 11 = some (.if_icmp .ge 73, 14, 84) := by decide +kernel
theorem i191_14 : ts_ins 191 14 = some (.aload_n 0, 15, 0) := by decide +kernel
theorem i191_15 : ts_ins 191 15 = some (.getfield 247, 18, 0) := by decide +kernel
theorem g191_15 : ts_fm 191 247 = some (12, 25, 0) := by decide +kernel
theorem i191_18 : ts_ins 191 18 = some (.aload_n 0, 19, 0) := by decide +kernel
theorem i191_19 : ts_ins 191 19 = some (.getfield 73, 22, 0) := by decide +kernel
theorem g191_19 : ts_fm 191 73 = some (12, 39, 2) := by decide +kernel
theorem i191_22 : ts_ins 191 22 = some (.iload_n 1, 23, 0) := by decide +kernel
theorem i191_23 : ts_ins 191 23 = some (.iaload, 24, 0) := by decide +kernel
theorem i191_24 : ts_ins 191 24 = some (.if_icmp .ge 60, 27, 84) := by decide +kernel
theorem i191_27 : ts_ins 191 27 = some (.aload_n 0, 28, 0) := by decide +kernel
theorem i191_28 : ts_ins 191 28 = some (.getfield 76, 31, 0) := by decide +kernel
theorem g191_28 : ts_fm 191 76 = some (12, 40, 2) := by decide +kernel
theorem i191_31 : ts_ins 191 31 = some (.bipush 60, 33, 0) := by decide +kernel
theorem i191_33 : ts_ins 191 33 = some (.iload_n 1, 34, 0) := by decide +kernel
theorem i191_34 : ts_ins 191 34 = some (.imul, 35, 0) := by decide +kernel
theorem i191_35 : ts_ins 191 35 = some (.aload_n 0, 36, 0) := by decide +kernel
theorem i191_36 : ts_ins 191 36 = some (.getfield 247, 39, 0) := by decide +kernel
theorem g191_36 : ts_fm 191 247 = some (12, 25, 0) := by decide +kernel
theorem i191_39 : ts_ins 191 39 = some (.iadd, 40, 0) := by decide +kernel
theorem i191_40 : ts_ins 191 40 = some (.laload, 41, 0) := by decide +kernel
theorem i191_41 : ts_ins 191 41 = some (.invokestatic 121, 44, 0) := by decide +kernel
theorem g191_41 : ts_cal (ts_mc 191) 121 = some (1, 151, 1) := by decide +kernel
theorem i191_44 : ts_ins 191 44 = some (.ifCond .eq 40, 47, 84) := by decide +kernel
theorem i191_47 : ts_ins 191 47 = some (.aload_n 0, 48, 0) := by decide +kernel
theorem i191_48 : ts_ins 191 48 = some (.getfield 46, 51, 0) := by decide +kernel
theorem g191_48 : ts_fm 191 46 = some (12, 24, 2) := by decide +kernel
theorem i191_51 : ts_ins 191 51 = some (.aload_n 0, 52, 0) := by decide +kernel
theorem i191_52 : ts_ins 191 52 = some (.getfield 247, 55, 0) := by decide +kernel
theorem g191_52 : ts_fm 191 247 = some (12, 25, 0) := by decide +kernel
theorem i191_55 : ts_ins 191 55 = some (.aload_n 0, 56, 0) := by decide +kernel
theorem i191_56 : ts_ins 191 56 = some (.getfield 76, 59, 0) := by decide +kernel
theorem g191_56 : ts_fm 191 76 = some (12, 40, 2) := by decide +kernel
theorem i191_59 : ts_ins 191 59 = some (.bipush 60, 61, 0) := by decide +kernel
theorem i191_61 : ts_ins 191 61 = some (.iload_n 1, 62, 0) := by decide +kernel
theorem i191_62 : ts_ins 191 62 = some (.imul, 63, 0) := by decide +kernel
theorem i191_63 : ts_ins 191 63 = some (.aload_n 0, 64, 0) := by decide +kernel
theorem i191_64 : ts_ins 191 64 = some (.getfield 247, 67, 0) := by decide +kernel
theorem g191_64 : ts_fm 191 247 = some (12, 25, 0) := by decide +kernel
theorem i191_67 : ts_ins 191 67 = some (.iadd, 68, 0) := by decide +kernel
theorem i191_68 : ts_ins 191 68 = some (.laload, 69, 0) := by decide +kernel
theorem i191_69 : ts_ins 191 69 = some (.l2i, 70, 0) := by decide +kernel
theorem i191_70 : ts_ins 191 70 = some (.iastore, 71, 0) := by decide +kernel
theorem i191_71 : ts_ins 191 71 = some (.aload_n 0, 72, 0) := by decide +kernel
theorem i191_72 : ts_ins 191 72 = some (.dup, 73, 0) := by decide +kernel
theorem i191_73 : ts_ins 191 73 = some (.getfield 247, 76, 0) := by decide +kernel
theorem g191_73 : ts_fm 191 247 = some (12, 25, 0) := by decide +kernel
theorem i191_76 : ts_ins 191 76 = some (.iconst 1, 77, 0) := by decide +kernel
theorem i191_77 : ts_ins 191 77 = some (.iadd, 78, 0) := by decide +kernel
theorem i191_78 : ts_ins 191 78 = some (.putfield 247, 81, 0) := by decide +kernel
theorem g191_78 : ts_fmm 191 247 = some (12, 25, 0, false) := by decide +kernel
theorem i191_81 : ts_ins 191 81 = some (.goto (-76), 84, 5) := by decide +kernel
theorem i191_84 : ts_ins 191 84 = some (.return_, 85, 0) := by decide +kernel
theorem r191 : ts_rt 191 = (none, 0, 0) := by decide +kernel
theorem l191 : ts_ml 191 = 2 := by decide +kernel
theorem i71_0 : ts_ins 71 0 = some (.aload_n 0, 1, 0) := by decide +kernel
theorem i71_1 : ts_ins 71 1 = some (.getfield 19, 4, 0) := by decide +kernel
theorem g71_1 : ts_fm 71 19 = some (8, 0, 2) := by decide +kernel
theorem i71_4 : ts_ins 71 4 = some (.iload_n 1, 5, 0) := by decide +kernel
theorem i71_5 : ts_ins 71 5 = some (.invokevirtual 59, 8, 0) := by decide +kernel
theorem g71_5 : ts_cal (ts_mc 71) 59 = some (0, 20, 1) := by decide +kernel
theorem i71_8 : ts_ins 71 8 = some (.ifCond .eq 19, 11, 27) := by decide +kernel
theorem i71_11 : ts_ins 71 11 = some (.aload_n 0, 12, 0) := by decide +kernel
theorem i71_12 : ts_ins 71 12 = some (.getfield 19, 15, 0) := by decide +kernel
theorem g71_12 : ts_fm 71 19 = some (8, 0, 2) := by decide +kernel
theorem i71_15 : ts_ins 71 15 = some (.getfield 42, 18, 0) := by decide +kernel
theorem g71_15 : ts_fm 71 42 = some (3, 7, 2) := by decide +kernel
theorem i71_18 : ts_ins 71 18 = some (.iload_n 1, 19, 0) := by decide +kernel
theorem i71_19 : ts_ins 71 19 = some (.iaload, 20, 0) := by decide +kernel
theorem i71_20 : ts_ins 71 20 = some (.aload_n 0, 21, 0) := by decide +kernel
theorem i71_21 : ts_ins 71 21 = some (.getfield 15, 24, 0) := by decide +kernel
theorem g71_21 : ts_fm 71 15 = some (8, 2, 0) := by decide +kernel
theorem i71_24 : ts_ins 71 24 = some (.if_icmp .eq 6, 27, 30) := by decide +kernel
theorem i71_27 : ts_ins 71 27 = some (.bipush (-2), 29, 0) := by decide +kernel
theorem i71_29 : ts_ins 71 29 = some (.ireturn, 30, 0) := by decide +kernel
theorem i71_30 : ts_ins 71 30 = some (.iconst 0, 31, 0) := by decide +kernel
theorem i71_31 : ts_ins 71 31 = some (.istore_n 2, 32, 0) := by decide +kernel
theorem i71_32 : ts_ins 71 32 = some (.iconst 0, 33, 0) := by decide +kernel
theorem i71_33 : ts_ins 71 33 = some (.istore_n 3, 34, 0) := by decide +kernel
theorem i71_34 : ts_ins 71 34 = some (.iload_n 3, 35, 0) := by decide +kernel
theorem i71_35 : ts_ins 71 35 = some (.aload_n 0, 36, 0) := by decide +kernel
theorem i71_36 : ts_ins 71 36 = some (.getfield 15, 39, 0) := by decide +kernel
theorem g71_36 : ts_fm 71 15 = some (8, 2, 0) := by decide +kernel
theorem i71_39 : ts_ins 71 39 = some (.if_icmp .ge 39, 42, 78) := by decide +kernel
theorem i71_42 : ts_ins 71 42 = some (.iload_n 2, 43, 0) := by decide +kernel
theorem i71_43 : ts_ins 71 43 = some (.aload_n 0, 44, 0) := by decide +kernel
theorem i71_44 : ts_ins 71 44 = some (.getfield 9, 47, 0) := by decide +kernel
theorem g71_44 : ts_fm 71 9 = some (8, 1, 2) := by decide +kernel
theorem i71_47 : ts_ins 71 47 = some (.iload_n 3, 48, 0) := by decide +kernel
theorem i71_48 : ts_ins 71 48 = some (.iaload, 49, 0) := by decide +kernel
theorem i71_49 : ts_ins 71 49 = some (.aload_n 0, 50, 0) := by decide +kernel
theorem i71_50 : ts_ins 71 50 = some (.getfield 19, 53, 0) := by decide +kernel
theorem g71_50 : ts_fm 71 19 = some (8, 0, 2) := by decide +kernel
theorem i71_53 : ts_ins 71 53 = some (.getfield 55, 56, 0) := by decide +kernel
theorem g71_53 : ts_fm 71 55 = some (3, 6, 2) := by decide +kernel
theorem i71_56 : ts_ins 71 56 = some (.iload_n 1, 57, 0) := by decide +kernel
theorem i71_57 : ts_ins 71 57 = some (.aaload, 58, 0) := by decide +kernel
theorem i71_58 : ts_ins 71 58 = some (.iload_n 3, 59, 0) := by decide +kernel
theorem i71_59 : ts_ins 71 59 = some (.iaload, 60, 0) := by decide +kernel
theorem i71_60 : ts_ins 71 60 = some (.if_icmp .eq 9, 63, 69) := by decide +kernel
theorem i71_63 : ts_ins 71 63 = some (.iconst 1, 64, 0) := by decide +kernel
theorem i71_64 : ts_ins 71 64 = some (.iload_n 3, 65, 0) := by decide +kernel
theorem i71_65 : ts_ins 71 65 = some (.ishl, 66, 0) := by decide +kernel
theorem i71_66 : ts_ins 71 66 = some (.goto 4, 69, 70) := by decide +kernel
theorem i71_69 : ts_ins 71 69 = some (.iconst 0, 70, 0) := by decide +kernel
theorem i71_70 : ts_ins 71 70 = some (.ior, 71, 0) := by decide +kernel
theorem i71_71 : ts_ins 71 71 = some (.istore_n 2, 72, 0) := by decide +kernel
theorem i71_72 : ts_ins 71 72 = some (.iinc 3 1, 75, 0) := by decide +kernel
theorem i71_75 : ts_ins 71 75 = some (.goto (-41), 78, 34) := by decide +kernel
theorem i71_78 : ts_ins 71 78 = some (.iload_n 2, 79, 0) := by decide +kernel
theorem i71_79 : ts_ins 71 79 = some (.ireturn, 80, 0) := by decide +kernel
theorem r71 : ts_rt 71 = ((some .int), 0, 0) := by decide +kernel
theorem l71 : ts_ml 71 = 4 := by decide +kernel
theorem i192_0 : ts_ins 192 0 = some (.iconst 0, 1, 0) := by decide +kernel
theorem i192_1 : ts_ins 192 1 = some (.istore_n 2, 2, 0) := by decide +kernel
theorem i192_2 : ts_ins 192 2 = some (.iconst 0, 3, 0) := by decide +kernel
theorem i192_3 : ts_ins 192 3 = some (.istore_n 3, 4, 0) := by decide +kernel
theorem i192_4 : ts_ins 192 4 = some (.iload_n 3, 5, 0) := by decide +kernel
theorem i192_5 : ts_ins 192 5 = some (.aload_n 0, 6, 0) := by decide +kernel
theorem i192_6 : ts_ins 192 6 = some (.getfield 247, 9, 0) := by decide +kernel
theorem g192_6 : ts_fm 192 247 = some (12, 25, 0) := by decide +kernel
theorem i192_9 : ts_ins 192 9 = some (.if_icmp .ge 42, 12, 51) := by decide +kernel
theorem i192_12 : ts_ins 192 12 = some (.iload_n 2, 13, 0) := by decide +kernel
theorem i192_13 : ts_ins 192 13 = some (.aload_n 0, 14, 0) := by decide +kernel
theorem i192_14 : ts_ins 192 14 = some (.getfield 46, 17, 0) := by decide +kernel
theorem g192_14 : ts_fm 192 46 = some (12, 24, 2) := by decide +kernel
theorem i192_17 : ts_ins 192 17 = some (.iload_n 3, 18, 0) := by decide +kernel
theorem i192_18 : ts_ins 192 18 = some (.iaload, 19, 0) := by decide +kernel
theorem i192_19 : ts_ins 192 19 = some (.aload_n 0, 20, 0) := by decide +kernel
theorem i192_20 : ts_ins 192 20 = some (.getfield 9, 23, 0) := by decide +kernel
theorem g192_20 : ts_fm 192 9 = some (12, 0, 2) := by decide +kernel
theorem i192_23 : ts_ins 192 23 = some (.bipush 49, 25, 0) := by decide +kernel
theorem i192_25 : ts_ins 192 25 = some (.bipush 6, 27, 0) := by decide +kernel
theorem i192_27 : ts_ins 192 27 = some (.iload_n 1, 28, 0) := by decide +kernel
theorem i192_28 : ts_ins 192 28 = some (.imul, 29, 0) := by decide +kernel
theorem i192_29 : ts_ins 192 29 = some (.iadd, 30, 0) := by decide +kernel
theorem i192_30 : ts_ins 192 30 = some (.iload_n 3, 31, 0) := by decide +kernel
theorem i192_31 : ts_ins 192 31 = some (.iadd, 32, 0) := by decide +kernel
theorem i192_32 : ts_ins 192 32 = some (.iaload, 33, 0) := by decide +kernel
theorem i192_33 : ts_ins 192 33 = some (.if_icmp .eq 9, 36, 42) := by decide +kernel
theorem i192_36 : ts_ins 192 36 = some (.iconst 1, 37, 0) := by decide +kernel
theorem i192_37 : ts_ins 192 37 = some (.iload_n 3, 38, 0) := by decide +kernel
theorem i192_38 : ts_ins 192 38 = some (.ishl, 39, 0) := by decide +kernel
theorem i192_39 : ts_ins 192 39 = some (.goto 4, 42, 43) := by decide +kernel
theorem i192_42 : ts_ins 192 42 = some (.iconst 0, 43, 0) := by decide +kernel
theorem i192_43 : ts_ins 192 43 = some (.ior, 44, 0) := by decide +kernel
theorem i192_44 : ts_ins 192 44 = some (.istore_n 2, 45, 0) := by decide +kernel
theorem i192_45 : ts_ins 192 45 = some (.iinc 3 1, 48, 0) := by decide +kernel
theorem i192_48 : ts_ins 192 48 = some (.goto (-44), 51, 4) := by decide +kernel
theorem i192_51 : ts_ins 192 51 = some (.iload_n 2, 52, 0) := by decide +kernel
theorem i192_52 : ts_ins 192 52 = some (.ireturn, 53, 0) := by decide +kernel
theorem r192 : ts_rt 192 = ((some .int), 0, 0) := by decide +kernel
theorem l192 : ts_ml 192 = 4 := by decide +kernel
theorem i72_0 : ts_ins 72 0 = some (.aload_n 0, 1, 0) := by decide +kernel
theorem i72_1 : ts_ins 72 1 = some (.iload_n 1, 2, 0) := by decide +kernel
theorem i72_2 : ts_ins 72 2 = some (.invokevirtual 63, 5, 0) := by decide +kernel
theorem g72_2 : ts_cal (ts_mc 72) 63 = some (0, 71, 1) := by decide +kernel
theorem i72_5 : ts_ins 72 5 = some (.istore_n 2, 6, 0) := by decide +kernel
theorem i72_6 : ts_ins 72 6 = some (.iload_n 2, 7, 0) := by decide +kernel
theorem i72_7 : ts_ins 72 7 = some (.bipush (-2), 9, 0) := by decide +kernel
theorem i72_9 : ts_ins 72 9 = some (.if_icmp .ne 8, 12, 17) := by decide +kernel
theorem i72_12 : ts_ins 72 12 = some (.bipush (-2), 14, 0) := by decide +kernel
theorem i72_14 : ts_ins 72 14 = some (.goto 7, 17, 21) := by decide +kernel
theorem i72_17 : ts_ins 72 17 = some (.iload_n 2, 18, 0) := by decide +kernel
theorem i72_18 : ts_ins 72 18 = some (.invokestatic 66, 21, 0) := by decide +kernel
theorem g72_18 : ts_cal (ts_mc 72) 66 = some (1, 239, 1) := by decide +kernel
theorem i72_21 : ts_ins 72 21 = some (.ireturn, 22, 0) := by decide +kernel
theorem r72 : ts_rt 72 = ((some .int), 0, 0) := by decide +kernel
theorem l72 : ts_ml 72 = 3 := by decide +kernel
theorem i73_0 : ts_ins 73 0 = some (.bipush (-2), 2, 0) := by decide +kernel
theorem i73_2 : ts_ins 73 2 = some (.istore_n 1, 3, 0) := by decide +kernel
theorem i73_3 : ts_ins 73 3 = some (.bipush 7, 5, 0) := by decide +kernel
theorem i73_5 : ts_ins 73 5 = some (.istore_n 2, 6, 0) := by decide +kernel
theorem i73_6 : ts_ins 73 6 = some (.iconst 0, 7, 0) := by decide +kernel
theorem i73_7 : ts_ins 73 7 = some (.istore_n 3, 8, 0) := by decide +kernel
theorem i73_8 : ts_ins 73 8 = some (.iload_n 3, 9, 0) := by decide +kernel
theorem i73_9 : ts_ins 73 9 = some (.aload_n 0, 10, 0) := by decide +kernel
theorem i73_10 : ts_ins 73 10 = some (.getfield 19, 13, 0) := by decide +kernel
theorem g73_10 : ts_fm 73 19 = some (8, 0, 2) := by decide +kernel
theorem i73_13 : ts_ins 73 13 = some (.getfield 71, 16, 0) := by decide +kernel
theorem g73_13 : ts_fm 73 71 = some (3, 9, 0) := by decide +kernel
theorem i73_16 : ts_ins 73 16 = some (.if_icmp .ge 34, 19, 50) := by decide +kernel
theorem i73_19 : ts_ins 73 19 = some (.aload_n 0, 20, 0) := by decide +kernel
theorem i73_20 : ts_ins 73 20 = some (.iload_n 3, 21, 0) := by decide +kernel
theorem i73_21 : ts_ins 73 21 = some (.invokevirtual 74, 24, 0) := by decide +kernel
theorem g73_21 : ts_cal (ts_mc 73) 74 = some (0, 72, 1) := by decide +kernel
theorem i73_24 : ts_ins 73 24 = some (.istore 4, 26, 0) := by decide +kernel
theorem i73_26 : ts_ins 73 26 = some (.iload 4, 28, 0) := by decide +kernel
theorem i73_28 : ts_ins 73 28 = some (.bipush (-2), 30, 0) := by decide +kernel
theorem i73_30 : ts_ins 73 30 = some (.if_icmp .eq 14, 33, 44) := by decide +kernel
theorem i73_33 : ts_ins 73 33 = some (.iload 4, 35, 0) := by decide +kernel
theorem i73_35 : ts_ins 73 35 = some (.iload_n 2, 36, 0) := by decide +kernel
theorem i73_36 : ts_ins 73 36 = some (.if_icmp .ge 8, 39, 44) := by decide +kernel
theorem i73_39 : ts_ins 73 39 = some (.iload 4, 41, 0) := by decide +kernel
theorem i73_41 : ts_ins 73 41 = some (.istore_n 2, 42, 0) := by decide +kernel
theorem i73_42 : ts_ins 73 42 = some (.iload_n 3, 43, 0) := by decide +kernel
theorem i73_43 : ts_ins 73 43 = some (.istore_n 1, 44, 0) := by decide +kernel
theorem i73_44 : ts_ins 73 44 = some (.iinc 3 1, 47, 0) := by decide +kernel
theorem i73_47 : ts_ins 73 47 = some (.goto (-39), 50, 8) := by decide +kernel
theorem i73_50 : ts_ins 73 50 = some (.iload_n 1, 51, 0) := by decide +kernel
theorem i73_51 : ts_ins 73 51 = some (.ireturn, 52, 0) := by decide +kernel
theorem r73 : ts_rt 73 = ((some .int), 0, 0) := by decide +kernel
theorem l73 : ts_ml 73 = 5 := by decide +kernel
theorem i194_0 : ts_ins 194 0 = some (.bipush (-2), 2, 0) := by decide +kernel
theorem i194_2 : ts_ins 194 2 = some (.istore_n 1, 3, 0) := by decide +kernel
theorem i194_3 : ts_ins 194 3 = some (.iconst 0, 4, 0) := by decide +kernel
theorem i194_4 : ts_ins 194 4 = some (.istore_n 2, 5, 0) := by decide +kernel
theorem i194_5 : ts_ins 194 5 = some (.iload_n 2, 6, 0) := by decide +kernel
theorem i194_6 : ts_ins 194 6 = some (.aload_n 0, 7, 0) := by decide +kernel
theorem i194_7 : ts_ins 194 7 = some (.getfield 102, 10, 0) := by decide +kernel
theorem g194_7 : ts_fm 194 102 = some (12, 7, 0) := by decide +kernel
theorem i194_10 : ts_ins 194 10 = some (.if_icmp .ge 47, 13, 57) := by decide +kernel
theorem i194_13 : ts_ins 194 13 = some (.aload_n 0, 14, 0) := by decide +kernel
theorem i194_14 : ts_ins 194 14 = some (.getfield 22, 17, 0) := by decide +kernel
theorem g194_14 : ts_fm 194 22 = some (12, 8, 2) := by decide +kernel
theorem i194_17 : ts_ins 194 17 = some (.iload_n 2, 18, 0) := by decide +kernel
theorem i194_18 : ts_ins 194 18 = some (.iaload, 19, 0) := by decide +kernel
theorem i194_19 : ts_ins 194 19 = some (.aload_n 0, 20, 0) := by decide +kernel
theorem i194_20 : ts_ins 194 20 = some (.getfield 247, 23, 0) := by decide +kernel
theorem g194_20 : ts_fm 194 247 = some (12, 25, 0) := by decide +kernel
theorem i194_23 : ts_ins 194 23 = some (.if_icmp .ne 28, 26, 51) := by decide +kernel
theorem i194_26 : ts_ins 194 26 = some (.iload_n 1, 27, 0) := by decide +kernel
theorem i194_27 : ts_ins 194 27 = some (.ifCond .lt 22, 30, 49) := by decide +kernel
theorem i194_30 : ts_ins 194 30 = some (.aload_n 0, 31, 0) := by decide +kernel
theorem i194_31 : ts_ins 194 31 = some (.iload_n 2, 32, 0) := by decide +kernel
theorem i194_32 : ts_ins 194 32 = some (.invokevirtual 250, 35, 0) := by decide +kernel
theorem g194_32 : ts_cal (ts_mc 194) 250 = some (0, 192, 1) := by decide +kernel
theorem i194_35 : ts_ins 194 35 = some (.invokestatic 253, 38, 0) := by decide +kernel
theorem g194_35 : ts_cal (ts_mc 194) 253 = some (1, 193, 1) := by decide +kernel
theorem i194_38 : ts_ins 194 38 = some (.aload_n 0, 39, 0) := by decide +kernel
theorem i194_39 : ts_ins 194 39 = some (.iload_n 1, 40, 0) := by decide +kernel
theorem i194_40 : ts_ins 194 40 = some (.invokevirtual 250, 43, 0) := by decide +kernel
theorem g194_40 : ts_cal (ts_mc 194) 250 = some (0, 192, 1) := by decide +kernel
theorem i194_43 : ts_ins 194 43 = some (.invokestatic 253, 46, 0) := by decide +kernel
theorem g194_43 : ts_cal (ts_mc 194) 253 = some (1, 193, 1) := by decide +kernel
theorem i194_46 : ts_ins 194 46 = some (.if_icmp .ge 5, 49, 51) := by decide +kernel
theorem i194_49 : ts_ins 194 49 = some (.iload_n 2, 50, 0) := by decide +kernel
theorem i194_50 : ts_ins 194 50 = some (.istore_n 1, 51, 0) := by decide +kernel
theorem i194_51 : ts_ins 194 51 = some (.iinc 2 1, 54, 0) := by decide +kernel
theorem i194_54 : ts_ins 194 54 = some (.goto (-49), 57, 5) := by decide +kernel
theorem i194_57 : ts_ins 194 57 = some (.iload_n 1, 58, 0) := by decide +kernel
theorem i194_58 : ts_ins 194 58 = some (.ireturn, 59, 0) := by decide +kernel
theorem r194 : ts_rt 194 = ((some .int), 0, 0) := by decide +kernel
theorem l194 : ts_ml 194 = 3 := by decide +kernel
/-! SOUNDS -/
abbrev fox : Nat → Nat → Prop := fun a k => (a = 40 ∧ k = 2) ∨ a = 41
abbrev fom : Nat → Nat → Prop := fun a k => (a = 72 ∧ k = 25) ∨ a = 85
def RXo (I : Nat → Nat → Int32) (n : Int) (g : Int → Int) : Prop := rd (I 40 2) 0 6 n ∧ ar I 41 n 0 7 g
def RMo (I : Nat → Nat → Int32) (n : Int) (g : Int → Int) : Prop := rd (I 72 25) 0 6 n ∧ ar I 85 n 0 7 g
def g_hm (s : ts_Sh) (x : Int) : Int := if s.2.1 x < 6 then s.2.1 x else 6
/-- how many tones are heard -/
def g_heard (s : ts_Sh) (x : Int) : Int := zfd (g_hm s x) (fun k => ¬ (0 ≤ s.2.2 x k ∧ s.2.2 x k < 8)) (g_hm s x) 0
abbrev g_dif (f : ts_Fl) (g : Int → Int) (s k : Int) : Prop := ¬ g k = f_say f s k
def g_sb (f : ts_Fl) (n : Int) (g : Int → Int) (s : Int) : Int := zbits (g_dif f g s) n.toNat
def g_sc (f : ts_Fl) (n : Int) (g : Int → Int) (s : Int) : Int := zcnt (g_dif f g s) n.toNat
theorem g_sb_r {f : ts_Fl} {n : Int} (hn : 0 ≤ n ∧ n ≤ 6) (g : Int → Int) (s : Int) : 0 ≤ g_sb f n g s ∧ g_sb f n g s < 64 := by
  have q := zbits_8 (g_dif f g s) (n := n.toNat) (by omega)
  exact ⟨q.1, q.2.2 (by omega)⟩
theorem g_sc_r {f : ts_Fl} {n : Int} (hn : 0 ≤ n ∧ n ≤ 6) (g : Int → Int) (s : Int) : 0 ≤ g_sc f n g s ∧ g_sc f n g s ≤ 6 := by
  have q := zcnt_r (g_dif f g s) n.toNat
  unfold g_sc
  omega
def g_near (f : ts_Fl) (n : Int) (g : Int → Int) : Int := zwh (f_told f) (fun s b => if f_len f s = n ∧ (b < 0 ∨ g_sc f n g s < g_sc f n g b) then s else b) 0 (-2)
section SO
variable {X : ts_X} {I J : Nat → Nat → Int32} {L : Nat → Nat → Int64} {sw : Bool} {K : Option Value → ts_H → Prop} {d : Nat} {f : ts_Fl} {s : ts_Sh} {n : Int} {g : Int → Int} {q : Nat}
theorem RXo.co (h : RXo I n g) (e1 : J 40 2 = I 40 2) (e2 : J 41 = I 41) : RXo J n g := ⟨by rw [e1]; exact h.1, ar_co h.2 e2⟩
theorem RMo.co (h : RMo I n g) (e1 : J 72 25 = I 72 25) (e2 : J 85 = I 85) : RMo J n g := ⟨by rw [e1]; exact h.1, ar_co h.2 e2⟩
theorem ar_ext {a : Nat} {lo hi v : Int} (h : ar I a n lo hi g) (hn : 0 ≤ n) (hv : lo ≤ v ∧ v ≤ hi) : ar (ts_up I a n.toNat (zI v)) a (n + 1) lo hi (zu g n v) := by
  intro p p0 p1
  by_cases c : p = n
  · subst c
    rw [ts_up_e, zu_e]
    exact rd_zI hv
  · rw [ts_up_nj (by omega), zu_n c]
    exact h p p0 (by omega)
theorem ar_ext2 {a : Nat} {lo hi : Int} (h : ar I a n lo hi g) (hn : 0 ≤ n) (hv : lo ≤ g n ∧ g n ≤ hi) : ar (ts_up I a n.toNat (zI (g n))) a (n + 1) lo hi g := by
  have e := ar_ext h hn hv
  have e2 : zu g n (g n) = g := by
    funext p
    unfold zu
    by_cases c : p = n
    · rw [if_pos c, c]
    · rw [if_neg c]
  rw [e2] at e
  exact e
theorem x_hear (hS : RXs I L s) (hq : q < 6) (hK : ∀ J, fr fox I J → RXo J (g_heard s q) (s.2.2 q) → K none (J, L, ts_P0 sw, ts_S0)) : ts_Cal X (d + 3) 69 [.ref 40, .ref (60 + 2 * q)] (I, L, ts_P0 sw, ts_S0) K := by
  have hz := (hS.size hq).2
  have hh : g_hm s q ≤ 6 ∧ g_hm s q ≤ s.2.1 q ∧ 0 ≤ g_hm s q := by unfold g_hm; omega
  have loop : ∀ k : Int, 0 ≤ k → k ≤ g_hm s q → ∀ J, fr fox I J → rd (J 40 2) 0 6 k → ar J 41 k 0 7 (s.2.2 q) → zfd (g_hm s q) (fun k => ¬ (0 ≤ s.2.2 q k ∧ s.2.2 q k < 8)) (g_hm s q) k = g_heard s q → ts_Ev X (ts_Cal X (d + 2)) 69 ts_S0 K 17 [.ref 40, .ref (60 + 2 * q), .int (zI (g_hm s q)), .int (zI (k))] [] (J, L, ts_P0 sw, ts_S0) := by
    refine ts_ind (g_hm s q) (fun k ih h0 h1 J hJ r2 ra h4 => ?_)
    have hS2 : RXs J L s := hS.co (fun a p0 p1 => ⟨fr_row hJ (fun k => by omega), rfl⟩)
    refine ev_iloadn_3 i69_17 ?_
    refine ev_iloadn_2 i69_18 ?_
    refine ew_icmpge i69_19 (by omega) (fun c19 => ?_) (fun c19 => ?_)
    · refine ev_return i69_60 r69 ?_
      refine hK J hJ ?_
      first
        | (rw [zfd_0 (by omega)] at h4
           rw [← h4]
           obtain rfl : k = g_hm s q := by omega
           exact ⟨r2, ra⟩)
        | (have t : ¬ (0 ≤ s.2.2 q k ∧ s.2.2 q k < 8) := fun r => c28 ⟨by omega, by omega, by omega, zall_t.mpr (fun k2 q0 q1 => by
             obtain rfl : k2 = 0 := by omega
             rw [Int.add_zero]
             exact r)⟩
           rw [zfd_1 (by omega), if_pos t] at h4
           rw [← h4]
           exact ⟨r2, ra⟩)
    · refine ev_aloadn_1 i69_22 ?_
      refine ev_iloadn_3 i69_23 ?_
      refine ew_iconst i69_24 ?_
      refine ev_virt2 i69_25 g69_25 (she_R hq (by decide +kernel)) (by decide +kernel) (Nat.le_of_ble_eq_true rfl) (x_hasTones hS2 hq (by omega) (by omega) ?_)
      first
      | refine ew_ifeqB i69_28 (fun c28 => ?_) (fun c28 => ?_)
      | refine ew_ifeq i69_28 (by omega) (fun c28 => ?_) (fun c28 => ?_)
      · refine ev_return i69_60 r69 ?_
        refine hK J hJ ?_
        first
          | (rw [zfd_0 (by omega)] at h4
             rw [← h4]
             obtain rfl : k = g_hm s q := by omega
             exact ⟨r2, ra⟩)
          | (have t : ¬ (0 ≤ s.2.2 q k ∧ s.2.2 q k < 8) := fun r => c28 ⟨by omega, by omega, by omega, zall_t.mpr (fun k2 q0 q1 => by
               obtain rfl : k2 = 0 := by omega
               rw [Int.add_zero]
               exact r)⟩
             rw [zfd_1 (by omega), if_pos t] at h4
             rw [← h4]
             exact ⟨r2, ra⟩)
      · have t := zall_t.mp c28.2.2.2 0 (by decide) (by decide)
        rw [Int.add_zero] at t
        refine ev_aloadn_0 i69_31 ?_
        refine ev_getA i69_32 g69_32 rfl rfl (by decide) ?_
        refine ev_iloadn_3 i69_35 ?_
        refine ev_aloadn_1 i69_36 ?_
        refine ev_getA i69_37 g69_37 (she_I hq) (she_P hq) (by omega) ?_
        refine ev_iloadn_3 i69_40 ?_
        refine ew_laload i69_41 (she_A hq) (by omega) (by omega) (by omega) ((hS2.it hq (by omega) (by omega))) (fun b41 => ?_)
        refine ew_l2i i69_42 ?_
        refine ew_iastore i69_43 rfl (by omega) (by omega) (by omega) ?_
        refine ev_aloadn_0 i69_44 ?_
        refine ev_dup i69_45 rfl ?_
        refine ew_getI i69_46 g69_46 rfl (by first | exact r2 | exact hX.men | exact hX.told | exact hX.road | exact hX.tone _ (by omega) (by omega) | exact hX.corn _ (by omega) (by omega) | exact hX.stand _ (by omega) (by omega) | exact hX.reach _ (by omega) (by omega) | exact hX.arm _ (by omega) (by omega) | exact hX.late _ (by omega) (by omega) | exact hX.len _ (by omega) (by omega) | exact hX.say (by omega) (by omega) _ (by omega) (by omega)) (fun b46 => ?_)
        refine ew_iconst i69_49 ?_
        refine ew_iadd i69_50 ?_
        refine ev_putI i69_51 g69_51 rfl ?_
        refine ew_iinc_3 i69_54 rfl ?_
        refine ev_goto i69_57 ?_
        rw [zfd_1 (by omega), if_neg (fun r => r t)] at h4
        exact ih (by omega) (by omega) (by omega) _ (fr_up (fr_up hJ (by omega)) (by omega)) (rd_zI (by omega)) (ar_co (ar_ext2 ra h0 (by omega)) rfl) h4
  refine ev_enter (lv := [.ref 40, .ref (60 + 2 * q), .null, .null]) l69 rfl (Nat.le_of_ble_eq_true rfl) ?_
  refine ev_aloadn_0 i69_0 ?_
  refine ew_iconst i69_1 ?_
  refine ev_putI i69_2 g69_2 rfl ?_
  refine ew_bipush i69_5 (by decide) ?_
  refine ev_aloadn_1 i69_7 ?_
  refine ew_getI i69_8 g69_8 (she_I hq) ((by rw [ts_up_na (by omega)]; exact hS.size hq)) (fun b8 => ?_)
  refine ew_mmin i69_11 g69_11 (Nat.le_of_ble_eq_true rfl) (by omega) ?_
  refine ev_istoren_2 i69_14 rfl ?_
  refine ew_iconst i69_15 ?_
  refine ev_istoren_3 i69_16 rfl ?_
  rw [show (if s.2.1 q < 6 then s.2.1 q else 6) = g_hm s q from rfl]
  exact loop 0 (by decide) hh.2.2 _ (fr_up (fr_rfl _ _) (by omega)) (rd_zI (by decide)) (fun p p0 p1 => by omega) rfl
theorem m_takesSound (hS : RMs I L s) {x : Int} (hx : 0 ≤ x ∧ x < 6) (hK : ∀ J, fr fom I J → RMo J (g_heard s x) (s.2.2 x) → K none (J, L, ts_P0 sw, ts_S0)) : ts_Cal X (d + 3) 191 [.ref 72, .int (zI (x))] (I, L, ts_P0 sw, ts_S0) K := by
  have hz := (hS.2.1 x hx.1 hx.2).2
  have hh : g_hm s x ≤ 6 ∧ g_hm s x ≤ s.2.1 x ∧ 0 ≤ g_hm s x ∧ (g_hm s x < 6 → g_hm s x = s.2.1 x) := by unfold g_hm; omega
  have loop : ∀ k : Int, 0 ≤ k → k ≤ g_hm s x → ∀ J, fr fom I J → rd (J 72 25) 0 6 k → ar J 85 k 0 7 (s.2.2 x) → zfd (g_hm s x) (fun k => ¬ (0 ≤ s.2.2 x k ∧ s.2.2 x k < 8)) (g_hm s x) k = g_heard s x → ts_Ev X (ts_Cal X (d + 2)) 191 ts_S0 K 5 [.ref 72, .int (zI (x))] [] (J, L, ts_P0 sw, ts_S0) := by
    refine ts_ind (g_hm s x) (fun k ih h0 h1 J hJ r2 ra h4 => ?_)
    have hS2 : RMs J L s := hS.co (fun a p0 p1 => ⟨fr_row hJ (fun k => by omega), rfl⟩)
    refine ev_aloadn_0 i191_5 ?_
    refine ew_getI i191_6 g191_6 rfl (by first | exact r2 | exact hS2.2.1 _ (by omega) (by omega) | exact hS2.2.2 _ (by omega) (by omega) _ (by omega) (by omega) | exact hM.men | exact hM.told | exact hM.road | exact hM.stand _ (by omega) (by omega) | exact hM.reach _ (by omega) (by omega) | exact hM.arm _ (by omega) (by omega) | exact hM.late _ (by omega) (by omega) | exact hM.len _ (by omega) (by omega) | exact hM.corn _ (by omega) (by omega) | exact hM.say (by omega) (by omega) _ (by omega) (by omega) | exact hM.tone _ (by omega) (by omega)) (fun b6 => ?_)
    refine ew_bipush i191_9 (by decide) ?_
    refine ew_icmpge i191_11 (by omega) (fun c11 => ?_) (fun c11 => ?_)
    · refine ev_return i191_84 r191 ?_
      refine hK J hJ ?_
      first
        | (rw [zfd_0 (by omega)] at h4
           rw [← h4]
           obtain rfl : k = g_hm s x := by omega
           exact ⟨r2, ra⟩)
        | (rw [zfd_1 (by omega), if_pos c44] at h4
           rw [← h4]
           exact ⟨r2, ra⟩)
    · refine ev_aloadn_0 i191_14 ?_
      refine ew_getI i191_15 g191_15 rfl (by first | exact r2 | exact hS2.2.1 _ (by omega) (by omega) | exact hS2.2.2 _ (by omega) (by omega) _ (by omega) (by omega) | exact hM.men | exact hM.told | exact hM.road | exact hM.stand _ (by omega) (by omega) | exact hM.reach _ (by omega) (by omega) | exact hM.arm _ (by omega) (by omega) | exact hM.late _ (by omega) (by omega) | exact hM.len _ (by omega) (by omega) | exact hM.corn _ (by omega) (by omega) | exact hM.say (by omega) (by omega) _ (by omega) (by omega) | exact hM.tone _ (by omega) (by omega)) (fun b15 => ?_)
      refine ev_aloadn_0 i191_18 ?_
      refine ev_getA i191_19 g191_19 rfl rfl (by decide) ?_
      refine ev_iloadn_1 i191_22 ?_
      refine ew_iaload i191_23 rfl (by omega) (by omega) (by omega) (by first | exact r2 | exact hS2.2.1 _ (by omega) (by omega) | exact hS2.2.2 _ (by omega) (by omega) _ (by omega) (by omega) | exact hM.men | exact hM.told | exact hM.road | exact hM.stand _ (by omega) (by omega) | exact hM.reach _ (by omega) (by omega) | exact hM.arm _ (by omega) (by omega) | exact hM.late _ (by omega) (by omega) | exact hM.len _ (by omega) (by omega) | exact hM.corn _ (by omega) (by omega) | exact hM.say (by omega) (by omega) _ (by omega) (by omega) | exact hM.tone _ (by omega) (by omega)) (fun b23 => ?_)
      refine ew_icmpge i191_24 (by omega) (fun c24 => ?_) (fun c24 => ?_)
      · refine ev_return i191_84 r191 ?_
        refine hK J hJ ?_
        first
          | (rw [zfd_0 (by omega)] at h4
             rw [← h4]
             obtain rfl : k = g_hm s x := by omega
             exact ⟨r2, ra⟩)
          | (rw [zfd_1 (by omega), if_pos c44] at h4
             rw [← h4]
             exact ⟨r2, ra⟩)
      · refine ev_aloadn_0 i191_27 ?_
        refine ev_getA i191_28 g191_28 rfl rfl (by decide) ?_
        refine ew_bipush i191_31 (by decide) ?_
        refine ev_iloadn_1 i191_33 ?_
        refine ew_imul i191_34 ?_
        refine ev_aloadn_0 i191_35 ?_
        refine ew_getI i191_36 g191_36 rfl (by first | exact r2 | exact hS2.2.1 _ (by omega) (by omega) | exact hS2.2.2 _ (by omega) (by omega) _ (by omega) (by omega) | exact hM.men | exact hM.told | exact hM.road | exact hM.stand _ (by omega) (by omega) | exact hM.reach _ (by omega) (by omega) | exact hM.arm _ (by omega) (by omega) | exact hM.late _ (by omega) (by omega) | exact hM.len _ (by omega) (by omega) | exact hM.corn _ (by omega) (by omega) | exact hM.say (by omega) (by omega) _ (by omega) (by omega) | exact hM.tone _ (by omega) (by omega)) (fun b36 => ?_)
        refine ew_iadd i191_39 ?_
        refine ew_laload i191_40 rfl (by omega) (by omega) (by omega) (by first | exact r2 | exact hS2.2.1 _ (by omega) (by omega) | exact hS2.2.2 _ (by omega) (by omega) _ (by omega) (by omega) | exact hM.men | exact hM.told | exact hM.road | exact hM.stand _ (by omega) (by omega) | exact hM.reach _ (by omega) (by omega) | exact hM.arm _ (by omega) (by omega) | exact hM.late _ (by omega) (by omega) | exact hM.len _ (by omega) (by omega) | exact hM.corn _ (by omega) (by omega) | exact hM.say (by omega) (by omega) _ (by omega) (by omega) | exact hM.tone _ (by omega) (by omega)) (fun b40 => ?_)
        refine ev_stat1 i191_41 g191_41 (by decide +kernel) (Nat.le_of_ble_eq_true rfl) (m_isTone (by omega) ?_)
        first
        | refine ew_ifeqB i191_44 (fun c44 => ?_) (fun c44 => ?_)
        | refine ew_ifeq i191_44 (by omega) (fun c44 => ?_) (fun c44 => ?_)
        · refine ev_return i191_84 r191 ?_
          refine hK J hJ ?_
          first
            | (rw [zfd_0 (by omega)] at h4
               rw [← h4]
               obtain rfl : k = g_hm s x := by omega
               exact ⟨r2, ra⟩)
            | (rw [zfd_1 (by omega), if_pos c44] at h4
               rw [← h4]
               exact ⟨r2, ra⟩)
        · refine ev_aloadn_0 i191_47 ?_
          refine ev_getA i191_48 g191_48 rfl rfl (by decide) ?_
          refine ev_aloadn_0 i191_51 ?_
          refine ew_getI i191_52 g191_52 rfl (by first | exact r2 | exact hS2.2.1 _ (by omega) (by omega) | exact hS2.2.2 _ (by omega) (by omega) _ (by omega) (by omega) | exact hM.men | exact hM.told | exact hM.road | exact hM.stand _ (by omega) (by omega) | exact hM.reach _ (by omega) (by omega) | exact hM.arm _ (by omega) (by omega) | exact hM.late _ (by omega) (by omega) | exact hM.len _ (by omega) (by omega) | exact hM.corn _ (by omega) (by omega) | exact hM.say (by omega) (by omega) _ (by omega) (by omega) | exact hM.tone _ (by omega) (by omega)) (fun b52 => ?_)
          refine ev_aloadn_0 i191_55 ?_
          refine ev_getA i191_56 g191_56 rfl rfl (by decide) ?_
          refine ew_bipush i191_59 (by decide) ?_
          refine ev_iloadn_1 i191_61 ?_
          refine ew_imul i191_62 ?_
          refine ev_aloadn_0 i191_63 ?_
          refine ew_getI i191_64 g191_64 rfl (by first | exact r2 | exact hS2.2.1 _ (by omega) (by omega) | exact hS2.2.2 _ (by omega) (by omega) _ (by omega) (by omega) | exact hM.men | exact hM.told | exact hM.road | exact hM.stand _ (by omega) (by omega) | exact hM.reach _ (by omega) (by omega) | exact hM.arm _ (by omega) (by omega) | exact hM.late _ (by omega) (by omega) | exact hM.len _ (by omega) (by omega) | exact hM.corn _ (by omega) (by omega) | exact hM.say (by omega) (by omega) _ (by omega) (by omega) | exact hM.tone _ (by omega) (by omega)) (fun b64 => ?_)
          refine ew_iadd i191_67 ?_
          refine ew_laload i191_68 rfl (by omega) (by omega) (by omega) (by first | exact r2 | exact hS2.2.1 _ (by omega) (by omega) | exact hS2.2.2 _ (by omega) (by omega) _ (by omega) (by omega) | exact hM.men | exact hM.told | exact hM.road | exact hM.stand _ (by omega) (by omega) | exact hM.reach _ (by omega) (by omega) | exact hM.arm _ (by omega) (by omega) | exact hM.late _ (by omega) (by omega) | exact hM.len _ (by omega) (by omega) | exact hM.corn _ (by omega) (by omega) | exact hM.say (by omega) (by omega) _ (by omega) (by omega) | exact hM.tone _ (by omega) (by omega)) (fun b68 => ?_)
          refine ew_l2i i191_69 ?_
          refine ew_iastore i191_70 rfl (by omega) (by omega) (by omega) ?_
          refine ev_aloadn_0 i191_71 ?_
          refine ev_dup i191_72 rfl ?_
          refine ew_getI i191_73 g191_73 rfl (by first | exact r2 | exact hS2.2.1 _ (by omega) (by omega) | exact hS2.2.2 _ (by omega) (by omega) _ (by omega) (by omega) | exact hM.men | exact hM.told | exact hM.road | exact hM.stand _ (by omega) (by omega) | exact hM.reach _ (by omega) (by omega) | exact hM.arm _ (by omega) (by omega) | exact hM.late _ (by omega) (by omega) | exact hM.len _ (by omega) (by omega) | exact hM.corn _ (by omega) (by omega) | exact hM.say (by omega) (by omega) _ (by omega) (by omega) | exact hM.tone _ (by omega) (by omega)) (fun b73 => ?_)
          refine ew_iconst i191_76 ?_
          refine ew_iadd i191_77 ?_
          refine ev_putI i191_78 g191_78 rfl ?_
          refine ev_goto i191_81 ?_
          rw [zfd_1 (by omega), if_neg (fun r => r c44)] at h4
          exact ih (by omega) (by omega) (by omega) _ (fr_up (fr_up hJ (by omega)) (by omega)) (rd_zI (by omega)) (ar_co (ar_ext2 ra h0 (by omega)) rfl) h4
  refine ev_enter (lv := [.ref 72, .int (zI (x))]) l191 rfl (Nat.le_of_ble_eq_true rfl) ?_
  refine ev_aloadn_0 i191_0 ?_
  refine ew_iconst i191_1 ?_
  refine ev_putI i191_2 g191_2 rfl ?_
  exact loop 0 (by decide) hh.2.2.1 _ (fr_up (fr_rfl _ _) (by omega)) (rd_zI (by decide)) (fun p p0 p1 => by omega) rfl
theorem x_slipBits (hX : RX I f) (hO : RXo I n g) {s : Int} (hs : 0 ≤ s ∧ s < f_told f) (hK : K (some (.int (zI (if f_len f s = n then g_sb f n g s else -2)))) (I, L, ts_P0 sw, ts_S0)) : ts_Cal X (d + 2) 71 [.ref 40, .int (zI (s))] (I, L, ts_P0 sw, ts_S0) K := by
  have b1 := hX.told.2
  have b2 := (hX.len s (by omega) (by omega)).2
  have b3 := hO.1.2
  have loop : f_len f s = n → ∀ k : Int, 0 ≤ k → k ≤ n → ts_Ev X (ts_Cal X (d + 1)) 71 ts_S0 K 34 [.ref 40, .int (zI (s)), .int (zI (zbits (g_dif f g s) k.toNat)), .int (zI (k))] [] (I, L, ts_P0 sw, ts_S0) := by
    intro he
    refine ts_ind n (fun k ih h0 h1 => ?_)
    refine ev_iloadn_3 i71_34 ?_
    refine ev_aloadn_0 i71_35 ?_
    refine ew_getI i71_36 g71_36 rfl (by first | exact hO.1 | exact hO.2 _ (by omega) (by omega) | exact hX.men | exact hX.told | exact hX.road | exact hX.tone _ (by omega) (by omega) | exact hX.corn _ (by omega) (by omega) | exact hX.stand _ (by omega) (by omega) | exact hX.reach _ (by omega) (by omega) | exact hX.arm _ (by omega) (by omega) | exact hX.late _ (by omega) (by omega) | exact hX.len _ (by omega) (by omega) | exact hX.say (by omega) (by omega) _ (by omega) (by omega)) (fun b36 => ?_)
    refine ew_icmpge i71_39 (by omega) (fun c39 => ?_) (fun c39 => ?_)
    · refine ev_iloadn_2 i71_78 ?_
      refine ev_ireturn i71_79 r71 ?_
      obtain rfl : k = n := by omega
      rw [if_pos he] at hK
      exact hK
    · refine ev_iloadn_2 i71_42 ?_
      refine ev_aloadn_0 i71_43 ?_
      refine ev_getA i71_44 g71_44 rfl rfl (by decide) ?_
      refine ev_iloadn_3 i71_47 ?_
      refine ew_iaload i71_48 rfl (by omega) (by omega) (by omega) (by first | exact hO.1 | exact hO.2 _ (by omega) (by omega) | exact hX.men | exact hX.told | exact hX.road | exact hX.tone _ (by omega) (by omega) | exact hX.corn _ (by omega) (by omega) | exact hX.stand _ (by omega) (by omega) | exact hX.reach _ (by omega) (by omega) | exact hX.arm _ (by omega) (by omega) | exact hX.late _ (by omega) (by omega) | exact hX.len _ (by omega) (by omega) | exact hX.say (by omega) (by omega) _ (by omega) (by omega)) (fun b48 => ?_)
      refine ev_aloadn_0 i71_49 ?_
      refine ev_getA i71_50 g71_50 rfl rfl (by decide) ?_
      refine ev_getA i71_53 g71_53 rfl rfl (by decide) ?_
      refine ev_iloadn_1 i71_56 ?_
      refine ew_aaloadG i71_57 rfl (by omega) (by omega) (by omega) (floor_P (by omega) (by omega)) (by omega) ?_
      refine ev_iloadn_3 i71_58 ?_
      refine ew_iaload i71_59 (floor_A (by omega) (by omega)) (by omega) (by omega) (by omega) ((hX.say (by omega) (by omega) _ (by omega) (by omega))) (fun b59 => ?_)
      refine ew_icmpeq i71_60 (by omega) (fun c60 => ?_) (fun c60 => ?_)
      · refine ew_iconst i71_69 ?_
        refine ew_ior i71_70 ?_
        refine ev_istoren_2 i71_71 rfl ?_
        refine ew_iinc_3 i71_72 rfl ?_
        refine ev_goto i71_75 ?_
        have e := ih (by omega) (by omega) (by omega)
        rw [zbits_s h0] at e
        first
          | (rw [if_pos c60] at e; exact e)
          | (rw [if_neg (fun r => r c60)] at e; rw [zor_0 (zbits_r _ _)]; exact e)
      · refine ew_iconst i71_63 ?_
        refine ev_iloadn_3 i71_64 ?_
        refine ew_ishl i71_65 ?_
        refine ev_goto i71_66 ?_
        refine ew_ior i71_70 ?_
        refine ev_istoren_2 i71_71 rfl ?_
        refine ew_iinc_3 i71_72 rfl ?_
        refine ev_goto i71_75 ?_
        have e := ih (by omega) (by omega) (by omega)
        rw [zbits_s h0] at e
        first
          | (rw [if_pos c60] at e; exact e)
          | (rw [if_neg (fun r => r c60)] at e; rw [zor_0 (zbits_r _ _)]; exact e)
  refine ev_enter (lv := [.ref 40, .int (zI (s)), .null, .null]) l71 rfl (Nat.le_of_ble_eq_true rfl) ?_
  refine ev_aloadn_0 i71_0 ?_
  refine ev_getA i71_1 g71_1 rfl rfl (by decide) ?_
  refine ev_iloadn_1 i71_4 ?_
  refine ev_virt1 i71_5 g71_5 rfl (by decide +kernel) (Nat.le_of_ble_eq_true rfl) (x_hasSaying hX (by omega) ?_)
  first
  | refine ew_ifeqB i71_8 (fun c8 => ?_) (fun c8 => ?_)
  | refine ew_ifeq i71_8 (by omega) (fun c8 => ?_) (fun c8 => ?_)
  · refine ew_bipush i71_27 (by decide) ?_
    refine ev_ireturn i71_29 r71 ?_
    first | (exfalso; omega) | (rw [if_neg (by omega)] at hK; exact hK)
  · refine ev_aloadn_0 i71_11 ?_
    refine ev_getA i71_12 g71_12 rfl rfl (by decide) ?_
    refine ev_getA i71_15 g71_15 rfl rfl (by decide) ?_
    refine ev_iloadn_1 i71_18 ?_
    refine ew_iaload i71_19 rfl (by omega) (by omega) (by omega) (by first | exact hO.1 | exact hX.men | exact hX.told | exact hX.road | exact hX.tone _ (by omega) (by omega) | exact hX.corn _ (by omega) (by omega) | exact hX.stand _ (by omega) (by omega) | exact hX.reach _ (by omega) (by omega) | exact hX.arm _ (by omega) (by omega) | exact hX.late _ (by omega) (by omega) | exact hX.len _ (by omega) (by omega) | exact hX.say (by omega) (by omega) _ (by omega) (by omega)) (fun b19 => ?_)
    refine ev_aloadn_0 i71_20 ?_
    refine ew_getI i71_21 g71_21 rfl (by first | exact hO.1 | exact hX.men | exact hX.told | exact hX.road | exact hX.tone _ (by omega) (by omega) | exact hX.corn _ (by omega) (by omega) | exact hX.stand _ (by omega) (by omega) | exact hX.reach _ (by omega) (by omega) | exact hX.arm _ (by omega) (by omega) | exact hX.late _ (by omega) (by omega) | exact hX.len _ (by omega) (by omega) | exact hX.say (by omega) (by omega) _ (by omega) (by omega)) (fun b21 => ?_)
    refine ew_icmpeq i71_24 (by omega) (fun c24 => ?_) (fun c24 => ?_)
    · refine ew_iconst i71_30 ?_
      refine ev_istoren_2 i71_31 rfl ?_
      refine ew_iconst i71_32 ?_
      refine ev_istoren_3 i71_33 rfl ?_
      exact loop (by omega) 0 (by decide) (by omega)
    · refine ew_bipush i71_27 (by decide) ?_
      refine ev_ireturn i71_29 r71 ?_
      first | (exfalso; omega) | (rw [if_neg (by omega)] at hK; exact hK)
theorem m_slipsOf (hM : RM I f) (hO : RMo I n g) {s : Int} (hs : 0 ≤ s ∧ s < f_told f) (hK : K (some (.int (zI (g_sb f n g s)))) (I, L, ts_P0 sw, ts_S0)) : ts_Cal X (d + 1) 192 [.ref 72, .int (zI (s))] (I, L, ts_P0 sw, ts_S0) K := by
  have b1 := hM.told.2
  have b3 := hO.1.2
  have loop : ∀ k : Int, 0 ≤ k → k ≤ n → ts_Ev X (ts_Cal X (d + 0)) 192 ts_S0 K 4 [.ref 72, .int (zI (s)), .int (zI (zbits (g_dif f g s) k.toNat)), .int (zI (k))] [] (I, L, ts_P0 sw, ts_S0) := by
    refine ts_ind n (fun k ih h0 h1 => ?_)
    refine ev_iloadn_3 i192_4 ?_
    refine ev_aloadn_0 i192_5 ?_
    refine ew_getI i192_6 g192_6 rfl (by first | exact hO.1 | exact hO.2 _ (by omega) (by omega) | exact hM.men | exact hM.told | exact hM.road | exact hM.stand _ (by omega) (by omega) | exact hM.reach _ (by omega) (by omega) | exact hM.arm _ (by omega) (by omega) | exact hM.late _ (by omega) (by omega) | exact hM.len _ (by omega) (by omega) | exact hM.corn _ (by omega) (by omega) | exact hM.say (by omega) (by omega) _ (by omega) (by omega) | exact hM.tone _ (by omega) (by omega)) (fun b6 => ?_)
    refine ew_icmpge i192_9 (by omega) (fun c9 => ?_) (fun c9 => ?_)
    · refine ev_iloadn_2 i192_51 ?_
      refine ev_ireturn i192_52 r192 ?_
      obtain rfl : k = n := by omega
      exact hK
    · refine ev_iloadn_2 i192_12 ?_
      refine ev_aloadn_0 i192_13 ?_
      refine ev_getA i192_14 g192_14 rfl rfl (by decide) ?_
      refine ev_iloadn_3 i192_17 ?_
      refine ew_iaload i192_18 rfl (by omega) (by omega) (by omega) (by first | exact hO.1 | exact hO.2 _ (by omega) (by omega) | exact hM.men | exact hM.told | exact hM.road | exact hM.stand _ (by omega) (by omega) | exact hM.reach _ (by omega) (by omega) | exact hM.arm _ (by omega) (by omega) | exact hM.late _ (by omega) (by omega) | exact hM.len _ (by omega) (by omega) | exact hM.corn _ (by omega) (by omega) | exact hM.say (by omega) (by omega) _ (by omega) (by omega) | exact hM.tone _ (by omega) (by omega)) (fun b18 => ?_)
      refine ev_aloadn_0 i192_19 ?_
      refine ev_getA i192_20 g192_20 rfl rfl (by decide) ?_
      refine ew_bipush i192_23 (by decide) ?_
      refine ew_bipush i192_25 (by decide) ?_
      refine ev_iloadn_1 i192_27 ?_
      refine ew_imul i192_28 ?_
      refine ew_iadd i192_29 ?_
      refine ev_iloadn_3 i192_30 ?_
      refine ew_iadd i192_31 ?_
      refine ew_iaload i192_32 rfl (by omega) (by omega) (by omega) ((hM.say (by omega) (by omega) _ (by omega) (by omega))) (fun b32 => ?_)
      refine ew_icmpeq i192_33 (by omega) (fun c33 => ?_) (fun c33 => ?_)
      · refine ew_iconst i192_42 ?_
        refine ew_ior i192_43 ?_
        refine ev_istoren_2 i192_44 rfl ?_
        refine ew_iinc_3 i192_45 rfl ?_
        refine ev_goto i192_48 ?_
        have e := ih (by omega) (by omega) (by omega)
        rw [zbits_s h0] at e
        first
          | (rw [if_pos c33] at e; exact e)
          | (rw [if_neg (fun r => r c33)] at e; rw [zor_0 (zbits_r _ _)]; exact e)
      · refine ew_iconst i192_36 ?_
        refine ev_iloadn_3 i192_37 ?_
        refine ew_ishl i192_38 ?_
        refine ev_goto i192_39 ?_
        refine ew_ior i192_43 ?_
        refine ev_istoren_2 i192_44 rfl ?_
        refine ew_iinc_3 i192_45 rfl ?_
        refine ev_goto i192_48 ?_
        have e := ih (by omega) (by omega) (by omega)
        rw [zbits_s h0] at e
        first
          | (rw [if_pos c33] at e; exact e)
          | (rw [if_neg (fun r => r c33)] at e; rw [zor_0 (zbits_r _ _)]; exact e)
  refine ev_enter (lv := [.ref 72, .int (zI (s)), .null, .null]) l192 rfl (Nat.le_of_ble_eq_true rfl) ?_
  refine ew_iconst i192_0 ?_
  refine ev_istoren_2 i192_1 rfl ?_
  refine ew_iconst i192_2 ?_
  refine ev_istoren_3 i192_3 rfl ?_
  exact loop 0 (by decide) (by omega)
theorem x_slipsFrom (hX : RX I f) (hO : RXo I n g) {s : Int} (hs : 0 ≤ s ∧ s < f_told f) (hK : K (some (.int (zI (if f_len f s = n then g_sc f n g s else -2)))) (I, L, ts_P0 sw, ts_S0)) : ts_Cal X (d + 3) 72 [.ref 40, .int (zI (s))] (I, L, ts_P0 sw, ts_S0) K := by
  have b3 := hO.1.2
  have r1 := g_sb_r (f := f) b3 g s
  refine ev_enter (lv := [.ref 40, .int (zI (s)), .null]) l72 rfl (Nat.le_of_ble_eq_true rfl) ?_
  refine ev_aloadn_0 i72_0 ?_
  refine ev_iloadn_1 i72_1 ?_
  refine ev_virt1 i72_2 g72_2 rfl (by decide +kernel) (Nat.le_of_ble_eq_true rfl) (x_slipBits hX hO hs ?_)
  refine ev_istoren_2 i72_5 rfl ?_
  refine ev_iloadn_2 i72_6 ?_
  refine ew_bipush i72_7 (by decide) ?_
  refine ew_icmpne i72_9 (by omega) (fun c9 => ?_) (fun c9 => ?_)
  · refine ev_iloadn_2 i72_17 ?_
    refine ev_stat1 i72_18 g72_18 (by decide +kernel) (Nat.le_of_ble_eq_true rfl) (x_bitCount ?_)
    refine ev_ireturn i72_21 r72 ?_
    by_cases c : f_len f s = n
    · first
      | (exfalso; omega)
      | (rw [if_pos c] at hK ⊢
         unfold g_sb
         rw [zbits_bc _ (by omega)]
         exact hK)
    · first
      | (exfalso; omega)
      | (rw [if_neg c] at hK
         exact hK)
  · refine ew_bipush i72_12 (by decide) ?_
    refine ev_goto i72_14 ?_
    refine ev_ireturn i72_21 r72 ?_
    by_cases c : f_len f s = n
    · first
      | (exfalso; omega)
      | (rw [if_pos c] at hK ⊢
         unfold g_sb
         rw [zbits_bc _ (by omega)]
         exact hK)
    · first
      | (exfalso; omega)
      | (rw [if_neg c] at hK
         exact hK)
theorem x_nearestSaying (hX : RX I f) (hO : RXo I n g) (hK : -2 ≤ g_near f n g → g_near f n g < f_told f → ¬ g_near f n g = -1 → (0 ≤ g_near f n g → f_len f (g_near f n g) = n) → K (some (.int (zI (g_near f n g)))) (I, L, ts_P0 sw, ts_S0)) : ts_Cal X (d + 4) 73 [.ref 40] (I, L, ts_P0 sw, ts_S0) K := by
  have b1 := hX.told.2
  have b3 := hO.1.2
  have loop : ∀ j : Int, 0 ≤ j → j ≤ f_told f → ∀ b l o, (b = -2 ∧ l = 7) ∨ (0 ≤ b ∧ b < f_told f ∧ f_len f b = n ∧ l = g_sc f n g b) → zwh (f_told f) (fun s b => if f_len f s = n ∧ (b < 0 ∨ g_sc f n g s < g_sc f n g b) then s else b) j b = g_near f n g → ts_Ev X (ts_Cal X (d + 3)) 73 ts_S0 K 8 [.ref 40, .int (zI (b)), .int (zI (l)), .int (zI (j)), o] [] (I, L, ts_P0 sw, ts_S0) := by
    refine ts_ind (f_told f) (fun j ih h0 h1 b l o h2 h3 => ?_)
    have r1 := g_sc_r (f := f) b3 g j
    have r2 := g_sc_r (f := f) b3 g b
    refine ev_iloadn_3 i73_8 ?_
    refine ev_aloadn_0 i73_9 ?_
    refine ev_getA i73_10 g73_10 rfl rfl (by decide) ?_
    refine ew_getI i73_13 g73_13 rfl (by first | exact hX.men | exact hX.told | exact hX.road | exact hX.tone _ (by omega) (by omega) | exact hX.corn _ (by omega) (by omega) | exact hX.stand _ (by omega) (by omega) | exact hX.reach _ (by omega) (by omega) | exact hX.arm _ (by omega) (by omega) | exact hX.late _ (by omega) (by omega) | exact hX.len _ (by omega) (by omega) | exact hX.say (by omega) (by omega) _ (by omega) (by omega)) (fun b13 => ?_)
    refine ew_icmpge i73_16 (by omega) (fun c16 => ?_) (fun c16 => ?_)
    · refine ev_iloadn_1 i73_50 ?_
      refine ev_ireturn i73_51 r73 ?_
      rw [zwh_0 (by omega)] at h3
      rw [← h3] at hK
      refine hK (by omega) (by omega) (by omega) (fun r => ?_)
      rcases h2 with q | q
      · omega
      · exact q.2.2.1
    · refine ev_aloadn_0 i73_19 ?_
      refine ev_iloadn_3 i73_20 ?_
      refine ev_virt1 i73_21 g73_21 rfl (by decide +kernel) (Nat.le_of_ble_eq_true rfl) (x_slipsFrom hX hO (by omega) ?_)
      refine ev_istore_4 i73_24 rfl ?_
      refine ev_iload_4 i73_26 ?_
      refine ew_bipush i73_28 (by decide) ?_
      refine ew_icmpeq i73_30 (by omega) (fun c30 => ?_) (fun c30 => ?_)
      · refine ew_iinc_3 i73_44 rfl ?_
        refine ev_goto i73_47 ?_
        rw [zwh_1 (by omega)] at h3
        first
          | (rw [if_pos (by omega)] at h3
             exact ih (by omega) (by omega) (by omega) _ _ _ (Or.inr ⟨by omega, by omega, by omega, by omega⟩) h3)
          | (rw [if_neg (by omega)] at h3
             exact ih (by omega) (by omega) (by omega) _ _ _ h2 h3)
      · refine ev_iload_4 i73_33 ?_
        refine ev_iloadn_2 i73_35 ?_
        refine ew_icmpge i73_36 (by omega) (fun c36 => ?_) (fun c36 => ?_)
        · refine ew_iinc_3 i73_44 rfl ?_
          refine ev_goto i73_47 ?_
          rw [zwh_1 (by omega)] at h3
          first
            | (rw [if_pos (by omega)] at h3
               exact ih (by omega) (by omega) (by omega) _ _ _ (Or.inr ⟨by omega, by omega, by omega, by omega⟩) h3)
            | (rw [if_neg (by omega)] at h3
               exact ih (by omega) (by omega) (by omega) _ _ _ h2 h3)
        · refine ev_iload_4 i73_39 ?_
          refine ev_istoren_2 i73_41 rfl ?_
          refine ev_iloadn_3 i73_42 ?_
          refine ev_istoren_1 i73_43 rfl ?_
          refine ew_iinc_3 i73_44 rfl ?_
          refine ev_goto i73_47 ?_
          rw [zwh_1 (by omega)] at h3
          first
            | (rw [if_pos (by omega)] at h3
               exact ih (by omega) (by omega) (by omega) _ _ _ (Or.inr ⟨by omega, by omega, by omega, by omega⟩) h3)
            | (rw [if_neg (by omega)] at h3
               exact ih (by omega) (by omega) (by omega) _ _ _ h2 h3)
  refine ev_enter (lv := [.ref 40, .null, .null, .null, .null]) l73 rfl (Nat.le_of_ble_eq_true rfl) ?_
  refine ew_bipush i73_0 (by decide) ?_
  refine ev_istoren_1 i73_2 rfl ?_
  refine ew_bipush i73_3 (by decide) ?_
  refine ev_istoren_2 i73_5 rfl ?_
  refine ew_iconst i73_6 ?_
  refine ev_istoren_3 i73_7 rfl ?_
  exact loop 0 (by decide) (by omega) _ _ _ (Or.inl ⟨rfl, rfl⟩) rfl
theorem m_nearestNow (hM : RM I f) (hO : RMo I n g) (hK : -2 ≤ g_near f n g → g_near f n g < f_told f → ¬ g_near f n g = -1 → (0 ≤ g_near f n g → f_len f (g_near f n g) = n) → K (some (.int (zI (g_near f n g)))) (I, L, ts_P0 sw, ts_S0)) : ts_Cal X (d + 2) 194 [.ref 72] (I, L, ts_P0 sw, ts_S0) K := by
  have b1 := hM.told.2
  have b3 := hO.1.2
  have loop : ∀ j : Int, 0 ≤ j → j ≤ f_told f → ∀ b, b = -2 ∨ (0 ≤ b ∧ b < f_told f ∧ f_len f b = n) → zwh (f_told f) (fun s b => if f_len f s = n ∧ (b < 0 ∨ g_sc f n g s < g_sc f n g b) then s else b) j b = g_near f n g → ts_Ev X (ts_Cal X (d + 1)) 194 ts_S0 K 5 [.ref 72, .int (zI (b)), .int (zI (j))] [] (I, L, ts_P0 sw, ts_S0) := by
    refine ts_ind (f_told f) (fun j ih h0 h1 b h2 h3 => ?_)
    have r1 : -2147483648 ≤ zcnt (g_dif f g j) n.toNat ∧ zcnt (g_dif f g j) n.toNat ≤ 2147483647 := by
      have := g_sc_r (f := f) b3 g j
      unfold g_sc at this
      omega
    have r2 : -2147483648 ≤ zcnt (g_dif f g b) n.toNat ∧ zcnt (g_dif f g b) n.toNat ≤ 2147483647 := by
      have := g_sc_r (f := f) b3 g b
      unfold g_sc at this
      omega
    refine ev_iloadn_2 i194_5 ?_
    refine ev_aloadn_0 i194_6 ?_
    refine ew_getI i194_7 g194_7 rfl (by first | exact hO.1 | exact hM.men | exact hM.told | exact hM.road | exact hM.stand _ (by omega) (by omega) | exact hM.reach _ (by omega) (by omega) | exact hM.arm _ (by omega) (by omega) | exact hM.late _ (by omega) (by omega) | exact hM.len _ (by omega) (by omega) | exact hM.corn _ (by omega) (by omega) | exact hM.say (by omega) (by omega) _ (by omega) (by omega) | exact hM.tone _ (by omega) (by omega)) (fun b7 => ?_)
    refine ew_icmpge i194_10 (by omega) (fun c10 => ?_) (fun c10 => ?_)
    · refine ev_iloadn_1 i194_57 ?_
      refine ev_ireturn i194_58 r194 ?_
      rw [zwh_0 (by omega)] at h3
      rw [← h3] at hK
      refine hK (by omega) (by omega) (by omega) (fun r => ?_)
      rcases h2 with q | q
      · omega
      · exact q.2.2
    · refine ev_aloadn_0 i194_13 ?_
      refine ev_getA i194_14 g194_14 rfl rfl (by decide) ?_
      refine ev_iloadn_2 i194_17 ?_
      refine ew_iaload i194_18 rfl (by omega) (by omega) (by omega) (by first | exact hO.1 | exact hM.men | exact hM.told | exact hM.road | exact hM.stand _ (by omega) (by omega) | exact hM.reach _ (by omega) (by omega) | exact hM.arm _ (by omega) (by omega) | exact hM.late _ (by omega) (by omega) | exact hM.len _ (by omega) (by omega) | exact hM.corn _ (by omega) (by omega) | exact hM.say (by omega) (by omega) _ (by omega) (by omega) | exact hM.tone _ (by omega) (by omega)) (fun b18 => ?_)
      refine ev_aloadn_0 i194_19 ?_
      refine ew_getI i194_20 g194_20 rfl (by first | exact hO.1 | exact hM.men | exact hM.told | exact hM.road | exact hM.stand _ (by omega) (by omega) | exact hM.reach _ (by omega) (by omega) | exact hM.arm _ (by omega) (by omega) | exact hM.late _ (by omega) (by omega) | exact hM.len _ (by omega) (by omega) | exact hM.corn _ (by omega) (by omega) | exact hM.say (by omega) (by omega) _ (by omega) (by omega) | exact hM.tone _ (by omega) (by omega)) (fun b20 => ?_)
      refine ew_icmpne i194_23 (by omega) (fun c23 => ?_) (fun c23 => ?_)
      · refine ew_iinc_2 i194_51 rfl ?_
        refine ev_goto i194_54 ?_
        rw [zwh_1 (by omega)] at h3
        unfold g_sc at h3
        first
          | (rw [if_pos ⟨c23, by omega⟩] at h3
             exact ih (by omega) (by omega) (by omega) _ (Or.inr ⟨by omega, by omega, by omega⟩) h3)
          | (rw [if_neg (fun r => by have q1 := r.1; have q2 := r.2; omega)] at h3
             exact ih (by omega) (by omega) (by omega) _ h2 h3)
      · refine ev_iloadn_1 i194_26 ?_
        refine ew_iflt i194_27 (by omega) (fun c27 => ?_) (fun c27 => ?_)
        · refine ev_iloadn_2 i194_49 ?_
          refine ev_istoren_1 i194_50 rfl ?_
          refine ew_iinc_2 i194_51 rfl ?_
          refine ev_goto i194_54 ?_
          rw [zwh_1 (by omega)] at h3
          unfold g_sc at h3
          first
            | (rw [if_pos ⟨c23, by omega⟩] at h3
               exact ih (by omega) (by omega) (by omega) _ (Or.inr ⟨by omega, by omega, by omega⟩) h3)
            | (rw [if_neg (fun r => by have q1 := r.1; have q2 := r.2; omega)] at h3
               exact ih (by omega) (by omega) (by omega) _ h2 h3)
        · refine ev_aloadn_0 i194_30 ?_
          refine ev_iloadn_2 i194_31 ?_
          refine ev_virt1 i194_32 g194_32 rfl (by decide +kernel) (Nat.le_of_ble_eq_true rfl) (m_slipsOf hM hO (by omega) ?_)
          refine ev_stat1 i194_35 g194_35 (by decide +kernel) (Nat.le_of_ble_eq_true rfl) (m_bitsOf _ (by omega) ?_)
          refine ev_aloadn_0 i194_38 ?_
          refine ev_iloadn_1 i194_39 ?_
          refine ev_virt1 i194_40 g194_40 rfl (by decide +kernel) (Nat.le_of_ble_eq_true rfl) (m_slipsOf hM hO (by omega) ?_)
          refine ev_stat1 i194_43 g194_43 (by decide +kernel) (Nat.le_of_ble_eq_true rfl) (m_bitsOf _ (by omega) ?_)
          refine ew_icmpge i194_46 (by omega) (fun c46 => ?_) (fun c46 => ?_)
          · refine ew_iinc_2 i194_51 rfl ?_
            refine ev_goto i194_54 ?_
            rw [zwh_1 (by omega)] at h3
            unfold g_sc at h3
            first
              | (rw [if_pos ⟨c23, by omega⟩] at h3
                 exact ih (by omega) (by omega) (by omega) _ (Or.inr ⟨by omega, by omega, by omega⟩) h3)
              | (rw [if_neg (fun r => by have q1 := r.1; have q2 := r.2; omega)] at h3
                 exact ih (by omega) (by omega) (by omega) _ h2 h3)
          · refine ev_iloadn_2 i194_49 ?_
            refine ev_istoren_1 i194_50 rfl ?_
            refine ew_iinc_2 i194_51 rfl ?_
            refine ev_goto i194_54 ?_
            rw [zwh_1 (by omega)] at h3
            unfold g_sc at h3
            first
              | (rw [if_pos ⟨c23, by omega⟩] at h3
                 exact ih (by omega) (by omega) (by omega) _ (Or.inr ⟨by omega, by omega, by omega⟩) h3)
              | (rw [if_neg (fun r => by have q1 := r.1; have q2 := r.2; omega)] at h3
                 exact ih (by omega) (by omega) (by omega) _ h2 h3)
  refine ev_enter (lv := [.ref 72, .null, .null]) l194 rfl (Nat.le_of_ble_eq_true rfl) ?_
  refine ew_bipush i194_0 (by decide) ?_
  refine ev_istoren_1 i194_2 rfl ?_
  refine ew_iconst i194_3 ?_
  refine ev_istoren_2 i194_4 rfl ?_
  exact loop 0 (by decide) (by omega) _ (Or.inl rfl) rfl
end SO
