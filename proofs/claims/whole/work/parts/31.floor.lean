theorem i21_0 : ts_ins 21 0 = some (.iload_n 2, 1, 0) := by decide +kernel
theorem i21_1 : ts_ins 21 1 = some (.tableswitch 105 0 7 #[47, 47, 52, 52, 52, 52, 58, 68], 48, 0) := by decide +kernel
theorem i21_48 : ts_ins 21 48 = some (.iload_n 1, 49, 0) := by decide +kernel
theorem i21_49 : ts_ins 21 49 = some (.invokestatic 65, 52, 0) := by decide +kernel
theorem g21_49 : ts_cal (ts_mc 21) 65 = some (3, 137, 1) := by decide +kernel
theorem i21_52 : ts_ins 21 52 = some (.ireturn, 53, 0) := by decide +kernel
theorem i21_53 : ts_ins 21 53 = some (.aload_n 0, 54, 0) := by decide +kernel
theorem i21_54 : ts_ins 21 54 = some (.iload_n 1, 55, 0) := by decide +kernel
theorem i21_55 : ts_ins 21 55 = some (.invokevirtual 69, 58, 0) := by decide +kernel
theorem g21_55 : ts_cal (ts_mc 21) 69 = some (0, 19, 1) := by decide +kernel
theorem i21_58 : ts_ins 21 58 = some (.ireturn, 59, 0) := by decide +kernel
theorem i21_59 : ts_ins 21 59 = some (.iload_n 1, 60, 0) := by decide +kernel
theorem i21_60 : ts_ins 21 60 = some (.ifCond .ne 7, 63, 67) := by decide +kernel
theorem i21_63 : ts_ins 21 63 = some (.iconst 1, 64, 0) := by decide +kernel
theorem i21_64 : ts_ins 21 64 = some (.goto 4, 67, 68) := by decide +kernel
theorem i21_67 : ts_ins 21 67 = some (.iconst 0, 68, 0) := by decide +kernel
theorem i21_68 : ts_ins 21 68 = some (.ireturn, 69, 0) := by decide +kernel
theorem i21_69 : ts_ins 21 69 = some (.iload_n 1, 70, 0) := by decide +kernel
theorem i21_70 : ts_ins 21 70 = some (.ifCond .lt 34, 73, 104) := by decide +kernel
theorem i21_73 : ts_ins 21 73 = some (.aload_n 0, 74, 0) := by decide +kernel
theorem i21_74 : ts_ins 21 74 = some (.iload_n 1, 75, 0) := by decide +kernel
theorem i21_75 : ts_ins 21 75 = some (.bipush 10, 77, 0) := by decide +kernel
theorem i21_77 : ts_ins 21 77 = some (.idiv, 78, 0) := by decide +kernel
theorem i21_78 : ts_ins 21 78 = some (.invokevirtual 72, 81, 0) := by decide +kernel
theorem g21_78 : ts_cal (ts_mc 21) 72 = some (0, 20, 1) := by decide +kernel
theorem i21_81 : ts_ins 21 81 = some (.ifCond .eq 23, 84, 104) := by decide +kernel
theorem i21_84 : ts_ins 21 84 = some (.iload_n 1, 85, 0) := by decide +kernel
theorem i21_85 : ts_ins 21 85 = some (.bipush 10, 87, 0) := by decide +kernel
theorem i21_87 : ts_ins 21 87 = some (.irem, 88, 0) := by decide +kernel
theorem i21_88 : ts_ins 21 88 = some (.aload_n 0, 89, 0) := by decide +kernel
theorem i21_89 : ts_ins 21 89 = some (.getfield 35, 92, 0) := by decide +kernel
theorem g21_89 : ts_fm 21 35 = some (3, 7, 2) := by decide +kernel
theorem i21_92 : ts_ins 21 92 = some (.iload_n 1, 93, 0) := by decide +kernel
theorem i21_93 : ts_ins 21 93 = some (.bipush 10, 95, 0) := by decide +kernel
theorem i21_95 : ts_ins 21 95 = some (.idiv, 96, 0) := by decide +kernel
theorem i21_96 : ts_ins 21 96 = some (.iaload, 97, 0) := by decide +kernel
theorem i21_97 : ts_ins 21 97 = some (.if_icmp .ge 7, 100, 104) := by decide +kernel
theorem i21_100 : ts_ins 21 100 = some (.iconst 1, 101, 0) := by decide +kernel
theorem i21_101 : ts_ins 21 101 = some (.goto 4, 104, 105) := by decide +kernel
theorem i21_104 : ts_ins 21 104 = some (.iconst 0, 105, 0) := by decide +kernel
theorem i21_105 : ts_ins 21 105 = some (.ireturn, 106, 0) := by decide +kernel
theorem i21_106 : ts_ins 21 106 = some (.iconst 0, 107, 0) := by decide +kernel
theorem i21_107 : ts_ins 21 107 = some (.ireturn, 108, 0) := by decide +kernel
theorem r21 : ts_rt 21 = ((some .boolean), 0, 0) := by decide +kernel
theorem l21 : ts_ml 21 = 3 := by decide +kernel
theorem i24_0 : ts_ins 24 0 = some (.iload_n 1, 1, 0) := by decide +kernel
theorem i24_1 : ts_ins 24 1 = some (.tableswitch 60 0 4 #[35, 40, 45, 50, 55], 36, 0) := by decide +kernel
theorem i24_36 : ts_ins 24 36 = some (.aload_n 0, 37, 0) := by decide +kernel
theorem i24_37 : ts_ins 24 37 = some (.getfield 9, 40, 0) := by decide +kernel
theorem g24_37 : ts_fm 24 9 = some (3, 0, 2) := by decide +kernel
theorem i24_40 : ts_ins 24 40 = some (.areturn, 41, 0) := by decide +kernel
theorem i24_41 : ts_ins 24 41 = some (.aload_n 0, 42, 0) := by decide +kernel
theorem i24_42 : ts_ins 24 42 = some (.getfield 15, 45, 0) := by decide +kernel
theorem g24_42 : ts_fm 24 15 = some (3, 1, 2) := by decide +kernel
theorem i24_45 : ts_ins 24 45 = some (.areturn, 46, 0) := by decide +kernel
theorem i24_46 : ts_ins 24 46 = some (.aload_n 0, 47, 0) := by decide +kernel
theorem i24_47 : ts_ins 24 47 = some (.getfield 18, 50, 0) := by decide +kernel
theorem g24_47 : ts_fm 24 18 = some (3, 2, 2) := by decide +kernel
theorem i24_50 : ts_ins 24 50 = some (.areturn, 51, 0) := by decide +kernel
theorem i24_51 : ts_ins 24 51 = some (.aload_n 0, 52, 0) := by decide +kernel
theorem i24_52 : ts_ins 24 52 = some (.getfield 21, 55, 0) := by decide +kernel
theorem g24_52 : ts_fm 24 21 = some (3, 3, 2) := by decide +kernel
theorem i24_55 : ts_ins 24 55 = some (.areturn, 56, 0) := by decide +kernel
theorem i24_56 : ts_ins 24 56 = some (.aload_n 0, 57, 0) := by decide +kernel
theorem i24_57 : ts_ins 24 57 = some (.getfield 24, 60, 0) := by decide +kernel
theorem g24_57 : ts_fm 24 24 = some (3, 4, 2) := by decide +kernel
theorem i24_60 : ts_ins 24 60 = some (.areturn, 61, 0) := by decide +kernel
theorem i24_61 : ts_ins 24 61 = some (.aload_n 0, 62, 0) := by decide +kernel
theorem i24_62 : ts_ins 24 62 = some (.getfield 27, 65, 0) := by decide +kernel
theorem g24_62 : ts_fm 24 27 = some (3, 5, 2) := by decide +kernel
theorem i24_65 : ts_ins 24 65 = some (.areturn, 66, 0) := by decide +kernel
theorem r24 : ts_rt 24 = ((some (.array .int)), 0, 0) := by decide +kernel
theorem l24 : ts_ml 24 = 2 := by decide +kernel
theorem i22_0 : ts_ins 22 0 = some (.aload_n 0, 1, 0) := by decide +kernel
theorem i22_1 : ts_ins 22 1 = some (.iload_n 1, 2, 0) := by decide +kernel
theorem i22_2 : ts_ins 22 2 = some (.iload_n 2, 3, 0) := by decide +kernel
theorem i22_3 : ts_ins 22 3 = some (.invokevirtual 75, 6, 0) := by decide +kernel
theorem g22_3 : ts_cal (ts_mc 22) 75 = some (0, 21, 2) := by decide +kernel
theorem i22_6 : ts_ins 22 6 = some (.ifCond .ne 5, 9, 11) := by decide +kernel
theorem i22_9 : ts_ins 22 9 = some (.iconst (-1), 10, 0) := by decide +kernel
theorem i22_10 : ts_ins 22 10 = some (.ireturn, 11, 0) := by decide +kernel
theorem i22_11 : ts_ins 22 11 = some (.iload_n 2, 12, 0) := by decide +kernel
theorem i22_12 : ts_ins 22 12 = some (.bipush 6, 14, 0) := by decide +kernel
theorem i22_14 : ts_ins 22 14 = some (.if_icmp .ne 8, 17, 22) := by decide +kernel
theorem i22_17 : ts_ins 22 17 = some (.aload_n 0, 18, 0) := by decide +kernel
theorem i22_18 : ts_ins 22 18 = some (.getfield 45, 21, 0) := by decide +kernel
theorem g22_18 : ts_fm 22 45 = some (3, 10, 0) := by decide +kernel
theorem i22_21 : ts_ins 22 21 = some (.ireturn, 22, 0) := by decide +kernel
theorem i22_22 : ts_ins 22 22 = some (.iload_n 2, 23, 0) := by decide +kernel
theorem i22_23 : ts_ins 22 23 = some (.bipush 7, 25, 0) := by decide +kernel
theorem i22_25 : ts_ins 22 25 = some (.if_icmp .ne 20, 28, 45) := by decide +kernel
theorem i22_28 : ts_ins 22 28 = some (.aload_n 0, 29, 0) := by decide +kernel
theorem i22_29 : ts_ins 22 29 = some (.getfield 32, 32, 0) := by decide +kernel
theorem g22_29 : ts_fm 22 32 = some (3, 6, 2) := by decide +kernel
theorem i22_32 : ts_ins 22 32 = some (.iload_n 1, 33, 0) := by decide +kernel
theorem i22_33 : ts_ins 22 33 = some (.bipush 10, 35, 0) := by decide +kernel
theorem i22_35 : ts_ins 22 35 = some (.idiv, 36, 0) := by decide +kernel
theorem i22_36 : ts_ins 22 36 = some (.aaload, 37, 0) := by decide +kernel
theorem i22_37 : ts_ins 22 37 = some (.iload_n 1, 38, 0) := by decide +kernel
theorem i22_38 : ts_ins 22 38 = some (.bipush 10, 40, 0) := by decide +kernel
theorem i22_40 : ts_ins 22 40 = some (.irem, 41, 0) := by decide +kernel
theorem i22_41 : ts_ins 22 41 = some (.iaload, 42, 0) := by decide +kernel
theorem i22_42 : ts_ins 22 42 = some (.goto 10, 45, 52) := by decide +kernel
theorem i22_45 : ts_ins 22 45 = some (.aload_n 0, 46, 0) := by decide +kernel
theorem i22_46 : ts_ins 22 46 = some (.iload_n 2, 47, 0) := by decide +kernel
theorem i22_47 : ts_ins 22 47 = some (.invokevirtual 79, 50, 0) := by decide +kernel
theorem g22_47 : ts_cal (ts_mc 22) 79 = some (0, 24, 1) := by decide +kernel
theorem i22_50 : ts_ins 22 50 = some (.iload_n 1, 51, 0) := by decide +kernel
theorem i22_51 : ts_ins 22 51 = some (.iaload, 52, 0) := by decide +kernel
theorem i22_52 : ts_ins 22 52 = some (.ireturn, 53, 0) := by decide +kernel
theorem r22 : ts_rt 22 = ((some .int), 0, 0) := by decide +kernel
theorem l22 : ts_ml 22 = 3 := by decide +kernel
theorem i97_0 : ts_ins 97 0 = some (.iload_n 2, 1, 0) := by decide +kernel
theorem i97_1 : ts_ins 97 1 = some (.bipush 8, 3, 0) := by decide +kernel
theorem i97_3 : ts_ins 97 3 = some (.if_icmp .ne 28, 6, 31) := by decide +kernel
theorem i97_6 : ts_ins 97 6 = some (.aload_n 0, 7, 0) := by decide +kernel
theorem i97_7 : ts_ins 97 7 = some (.getfield 10, 10, 0) := by decide +kernel
theorem g97_7 : ts_fm 97 10 = some (11, 0, 2) := by decide +kernel
theorem i97_10 : ts_ins 97 10 = some (.iload_n 1, 11, 0) := by decide +kernel
theorem i97_11 : ts_ins 97 11 = some (.invokevirtual 129, 14, 0) := by decide +kernel
theorem g97_11 : ts_cal (ts_mc 97) 129 = some (0, 20, 1) := by decide +kernel
theorem i97_14 : ts_ins 97 14 = some (.ifCond .eq 15, 17, 29) := by decide +kernel
theorem i97_17 : ts_ins 97 17 = some (.aload_n 0, 18, 0) := by decide +kernel
theorem i97_18 : ts_ins 97 18 = some (.getfield 10, 21, 0) := by decide +kernel
theorem g97_18 : ts_fm 97 10 = some (11, 0, 2) := by decide +kernel
theorem i97_21 : ts_ins 97 21 = some (.getfield 132, 24, 0) := by decide +kernel
theorem g97_21 : ts_fm 97 132 = some (3, 7, 2) := by decide +kernel
theorem i97_24 : ts_ins 97 24 = some (.iload_n 1, 25, 0) := by decide +kernel
theorem i97_25 : ts_ins 97 25 = some (.iaload, 26, 0) := by decide +kernel
theorem i97_26 : ts_ins 97 26 = some (.goto 4, 29, 30) := by decide +kernel
theorem i97_29 : ts_ins 97 29 = some (.iconst (-1), 30, 0) := by decide +kernel
theorem i97_30 : ts_ins 97 30 = some (.ireturn, 31, 0) := by decide +kernel
theorem i97_31 : ts_ins 97 31 = some (.aload_n 0, 32, 0) := by decide +kernel
theorem i97_32 : ts_ins 97 32 = some (.getfield 10, 35, 0) := by decide +kernel
theorem g97_32 : ts_fm 97 10 = some (11, 0, 2) := by decide +kernel
theorem i97_35 : ts_ins 97 35 = some (.iload_n 1, 36, 0) := by decide +kernel
theorem i97_36 : ts_ins 97 36 = some (.iload_n 2, 37, 0) := by decide +kernel
theorem i97_37 : ts_ins 97 37 = some (.invokevirtual 111, 40, 0) := by decide +kernel
theorem g97_37 : ts_cal (ts_mc 97) 111 = some (0, 21, 2) := by decide +kernel
theorem i97_40 : ts_ins 97 40 = some (.ifCond .eq 15, 43, 55) := by decide +kernel
theorem i97_43 : ts_ins 97 43 = some (.aload_n 0, 44, 0) := by decide +kernel
theorem i97_44 : ts_ins 97 44 = some (.getfield 10, 47, 0) := by decide +kernel
theorem g97_44 : ts_fm 97 10 = some (11, 0, 2) := by decide +kernel
theorem i97_47 : ts_ins 97 47 = some (.iload_n 1, 48, 0) := by decide +kernel
theorem i97_48 : ts_ins 97 48 = some (.iload_n 2, 49, 0) := by decide +kernel
theorem i97_49 : ts_ins 97 49 = some (.invokevirtual 117, 52, 0) := by decide +kernel
theorem g97_49 : ts_cal (ts_mc 97) 117 = some (0, 22, 2) := by decide +kernel
theorem i97_52 : ts_ins 97 52 = some (.goto 4, 55, 56) := by decide +kernel
theorem i97_55 : ts_ins 97 55 = some (.iconst (-1), 56, 0) := by decide +kernel
theorem i97_56 : ts_ins 97 56 = some (.ireturn, 57, 0) := by decide +kernel
theorem r97 : ts_rt 97 = ((some .int), 0, 0) := by decide +kernel
theorem l97 : ts_ml 97 = 3 := by decide +kernel
theorem i155_0 : ts_ins 155 0 = some (.iload_n 2, 1, 0) := by decide +kernel
theorem i155_1 : ts_ins 155 1 = some (.i2l, 2, 0) := by decide +kernel
theorem i155_2 : ts_ins 155 2 = some (.lconst 0, 3, 0) := by decide +kernel
theorem i155_3 : ts_ins 155 3 = some (.lconst 1, 4, 0) := by decide +kernel
theorem i155_4 : ts_ins 155 4 = some (.invokestatic 95, 7, 0) := by decide +kernel
theorem g155_4 : ts_cal (ts_mc 155) 95 = some (1, 143, 3) := by decide +kernel
theorem i155_7 : ts_ins 155 7 = some (.ifCond .eq 22, 10, 29) := by decide +kernel
theorem i155_10 : ts_ins 155 10 = some (.iload_n 1, 11, 0) := by decide +kernel
theorem i155_11 : ts_ins 155 11 = some (.i2l, 12, 0) := by decide +kernel
theorem i155_12 : ts_ins 155 12 = some (.invokestatic 107, 15, 0) := by decide +kernel
theorem g155_12 : ts_cal (ts_mc 155) 107 = some (1, 148, 1) := by decide +kernel
theorem i155_15 : ts_ins 155 15 = some (.ifCond .eq 12, 18, 27) := by decide +kernel
theorem i155_18 : ts_ins 155 18 = some (.bipush 16, 20, 0) := by decide +kernel
theorem i155_20 : ts_ins 155 20 = some (.iload_n 2, 21, 0) := by decide +kernel
theorem i155_21 : ts_ins 155 21 = some (.imul, 22, 0) := by decide +kernel
theorem i155_22 : ts_ins 155 22 = some (.iload_n 1, 23, 0) := by decide +kernel
theorem i155_23 : ts_ins 155 23 = some (.iadd, 24, 0) := by decide +kernel
theorem i155_24 : ts_ins 155 24 = some (.goto 4, 27, 28) := by decide +kernel
theorem i155_27 : ts_ins 155 27 = some (.iconst (-1), 28, 0) := by decide +kernel
theorem i155_28 : ts_ins 155 28 = some (.ireturn, 29, 0) := by decide +kernel
theorem i155_29 : ts_ins 155 29 = some (.iload_n 2, 30, 0) := by decide +kernel
theorem i155_30 : ts_ins 155 30 = some (.i2l, 31, 0) := by decide +kernel
theorem i155_31 : ts_ins 155 31 = some (.ldc2_w 124, 34, 0) := by decide +kernel
theorem g155_31 : ts_lc (ts_mc 155) 124 = some (.long (2)) := by decide +kernel
theorem i155_34 : ts_ins 155 34 = some (.ldc2_w 126, 37, 0) := by decide +kernel
theorem g155_34 : ts_lc (ts_mc 155) 126 = some (.long (5)) := by decide +kernel
theorem i155_37 : ts_ins 155 37 = some (.invokestatic 95, 40, 0) := by decide +kernel
theorem g155_37 : ts_cal (ts_mc 155) 95 = some (1, 143, 3) := by decide +kernel
theorem i155_40 : ts_ins 155 40 = some (.ifCond .eq 27, 43, 67) := by decide +kernel
theorem i155_43 : ts_ins 155 43 = some (.aload_n 0, 44, 0) := by decide +kernel
theorem i155_44 : ts_ins 155 44 = some (.iload_n 1, 45, 0) := by decide +kernel
theorem i155_45 : ts_ins 155 45 = some (.i2l, 46, 0) := by decide +kernel
theorem i155_46 : ts_ins 155 46 = some (.invokevirtual 128, 49, 0) := by decide +kernel
theorem g155_46 : ts_cal (ts_mc 155) 128 = some (0, 149, 1) := by decide +kernel
theorem i155_49 : ts_ins 155 49 = some (.ifCond .eq 16, 52, 65) := by decide +kernel
theorem i155_52 : ts_ins 155 52 = some (.bipush 32, 54, 0) := by decide +kernel
theorem i155_54 : ts_ins 155 54 = some (.iconst 4, 55, 0) := by decide +kernel
theorem i155_55 : ts_ins 155 55 = some (.iload_n 2, 56, 0) := by decide +kernel
theorem i155_56 : ts_ins 155 56 = some (.iconst 2, 57, 0) := by decide +kernel
theorem i155_57 : ts_ins 155 57 = some (.isub, 58, 0) := by decide +kernel
theorem i155_58 : ts_ins 155 58 = some (.imul, 59, 0) := by decide +kernel
theorem i155_59 : ts_ins 155 59 = some (.iadd, 60, 0) := by decide +kernel
theorem i155_60 : ts_ins 155 60 = some (.iload_n 1, 61, 0) := by decide +kernel
theorem i155_61 : ts_ins 155 61 = some (.iadd, 62, 0) := by decide +kernel
theorem i155_62 : ts_ins 155 62 = some (.goto 4, 65, 66) := by decide +kernel
theorem i155_65 : ts_ins 155 65 = some (.iconst (-1), 66, 0) := by decide +kernel
theorem i155_66 : ts_ins 155 66 = some (.ireturn, 67, 0) := by decide +kernel
theorem i155_67 : ts_ins 155 67 = some (.iload_n 2, 68, 0) := by decide +kernel
theorem i155_68 : ts_ins 155 68 = some (.bipush 6, 70, 0) := by decide +kernel
theorem i155_70 : ts_ins 155 70 = some (.if_icmp .ne 14, 73, 84) := by decide +kernel
theorem i155_73 : ts_ins 155 73 = some (.iload_n 1, 74, 0) := by decide +kernel
theorem i155_74 : ts_ins 155 74 = some (.ifCond .ne 8, 77, 82) := by decide +kernel
theorem i155_77 : ts_ins 155 77 = some (.bipush 48, 79, 0) := by decide +kernel
theorem i155_79 : ts_ins 155 79 = some (.goto 4, 82, 83) := by decide +kernel
theorem i155_82 : ts_ins 155 82 = some (.iconst (-1), 83, 0) := by decide +kernel
theorem i155_83 : ts_ins 155 83 = some (.ireturn, 84, 0) := by decide +kernel
theorem i155_84 : ts_ins 155 84 = some (.iload_n 2, 85, 0) := by decide +kernel
theorem i155_85 : ts_ins 155 85 = some (.bipush 7, 87, 0) := by decide +kernel
theorem i155_87 : ts_ins 155 87 = some (.if_icmp .ne 53, 90, 140) := by decide +kernel
theorem i155_90 : ts_ins 155 90 = some (.iload_n 1, 91, 0) := by decide +kernel
theorem i155_91 : ts_ins 155 91 = some (.ifCond .lt 49, 94, 140) := by decide +kernel
theorem i155_94 : ts_ins 155 94 = some (.aload_n 0, 95, 0) := by decide +kernel
theorem i155_95 : ts_ins 155 95 = some (.iload_n 1, 96, 0) := by decide +kernel
theorem i155_96 : ts_ins 155 96 = some (.bipush 10, 98, 0) := by decide +kernel
theorem i155_98 : ts_ins 155 98 = some (.idiv, 99, 0) := by decide +kernel
theorem i155_99 : ts_ins 155 99 = some (.i2l, 100, 0) := by decide +kernel
theorem i155_100 : ts_ins 155 100 = some (.invokevirtual 131, 103, 0) := by decide +kernel
theorem g155_100 : ts_cal (ts_mc 155) 131 = some (0, 150, 1) := by decide +kernel
theorem i155_103 : ts_ins 155 103 = some (.ifCond .eq 37, 106, 140) := by decide +kernel
theorem i155_106 : ts_ins 155 106 = some (.iload_n 1, 107, 0) := by decide +kernel
theorem i155_107 : ts_ins 155 107 = some (.bipush 10, 109, 0) := by decide +kernel
theorem i155_109 : ts_ins 155 109 = some (.irem, 110, 0) := by decide +kernel
theorem i155_110 : ts_ins 155 110 = some (.aload_n 0, 111, 0) := by decide +kernel
theorem i155_111 : ts_ins 155 111 = some (.getfield 22, 114, 0) := by decide +kernel
theorem g155_111 : ts_fm 155 22 = some (12, 8, 2) := by decide +kernel
theorem i155_114 : ts_ins 155 114 = some (.iload_n 1, 115, 0) := by decide +kernel
theorem i155_115 : ts_ins 155 115 = some (.bipush 10, 117, 0) := by decide +kernel
theorem i155_117 : ts_ins 155 117 = some (.idiv, 118, 0) := by decide +kernel
theorem i155_118 : ts_ins 155 118 = some (.iaload, 119, 0) := by decide +kernel
theorem i155_119 : ts_ins 155 119 = some (.if_icmp .ge 21, 122, 140) := by decide +kernel
theorem i155_122 : ts_ins 155 122 = some (.bipush 49, 124, 0) := by decide +kernel
theorem i155_124 : ts_ins 155 124 = some (.bipush 6, 126, 0) := by decide +kernel
theorem i155_126 : ts_ins 155 126 = some (.iload_n 1, 127, 0) := by decide +kernel
theorem i155_127 : ts_ins 155 127 = some (.bipush 10, 129, 0) := by decide +kernel
theorem i155_129 : ts_ins 155 129 = some (.idiv, 130, 0) := by decide +kernel
theorem i155_130 : ts_ins 155 130 = some (.imul, 131, 0) := by decide +kernel
theorem i155_131 : ts_ins 155 131 = some (.iadd, 132, 0) := by decide +kernel
theorem i155_132 : ts_ins 155 132 = some (.iload_n 1, 133, 0) := by decide +kernel
theorem i155_133 : ts_ins 155 133 = some (.bipush 10, 135, 0) := by decide +kernel
theorem i155_135 : ts_ins 155 135 = some (.irem, 136, 0) := by decide +kernel
theorem i155_136 : ts_ins 155 136 = some (.iadd, 137, 0) := by decide +kernel
theorem i155_137 : ts_ins 155 137 = some (.goto 4, 140, 141) := by decide +kernel
theorem i155_140 : ts_ins 155 140 = some (.iconst (-1), 141, 0) := by decide +kernel
theorem i155_141 : ts_ins 155 141 = some (.ireturn, 142, 0) := by decide +kernel
theorem r155 : ts_rt 155 = ((some .int), 0, 0) := by decide +kernel
theorem l155 : ts_ml 155 = 3 := by decide +kernel
theorem i156_0 : ts_ins 156 0 = some (.iload_n 0, 1, 0) := by decide +kernel
theorem i156_1 : ts_ins 156 1 = some (.tableswitch 62 0 7 #[47, 62, 50, 53, 56, 62, 59, 47], 48, 0) := by decide +kernel
theorem i156_48 : ts_ins 156 48 = some (.bipush 7, 50, 0) := by decide +kernel
theorem i156_50 : ts_ins 156 50 = some (.ireturn, 51, 0) := by decide +kernel
theorem i156_51 : ts_ins 156 51 = some (.bipush 15, 53, 0) := by decide +kernel
theorem i156_53 : ts_ins 156 53 = some (.ireturn, 54, 0) := by decide +kernel
theorem i156_54 : ts_ins 156 54 = some (.bipush 6, 56, 0) := by decide +kernel
theorem i156_56 : ts_ins 156 56 = some (.ireturn, 57, 0) := by decide +kernel
theorem i156_57 : ts_ins 156 57 = some (.bipush 12, 59, 0) := by decide +kernel
theorem i156_59 : ts_ins 156 59 = some (.ireturn, 60, 0) := by decide +kernel
theorem i156_60 : ts_ins 156 60 = some (.bipush 20, 62, 0) := by decide +kernel
theorem i156_62 : ts_ins 156 62 = some (.ireturn, 63, 0) := by decide +kernel
theorem i156_63 : ts_ins 156 63 = some (.bipush 9, 65, 0) := by decide +kernel
theorem i156_65 : ts_ins 156 65 = some (.ireturn, 66, 0) := by decide +kernel
theorem r156 : ts_rt 156 = ((some .int), 0, 0) := by decide +kernel
theorem l156 : ts_ml 156 = 1 := by decide +kernel
theorem i158_0 : ts_ins 158 0 = some (.aload_n 0, 1, 0) := by decide +kernel
theorem i158_1 : ts_ins 158 1 = some (.iload_n 1, 2, 0) := by decide +kernel
theorem i158_2 : ts_ins 158 2 = some (.iload_n 2, 3, 0) := by decide +kernel
theorem i158_3 : ts_ins 158 3 = some (.invokevirtual 134, 6, 0) := by decide +kernel
theorem g158_3 : ts_cal (ts_mc 158) 134 = some (0, 155, 2) := by decide +kernel
theorem i158_6 : ts_ins 158 6 = some (.istore_n 3, 7, 0) := by decide +kernel
theorem i158_7 : ts_ins 158 7 = some (.iload_n 3, 8, 0) := by decide +kernel
theorem i158_8 : ts_ins 158 8 = some (.ifCond .lt 12, 11, 20) := by decide +kernel
theorem i158_11 : ts_ins 158 11 = some (.aload_n 0, 12, 0) := by decide +kernel
theorem i158_12 : ts_ins 158 12 = some (.getfield 9, 15, 0) := by decide +kernel
theorem g158_12 : ts_fm 158 9 = some (12, 0, 2) := by decide +kernel
theorem i158_15 : ts_ins 158 15 = some (.iload_n 3, 16, 0) := by decide +kernel
theorem i158_16 : ts_ins 158 16 = some (.iaload, 17, 0) := by decide +kernel
theorem i158_17 : ts_ins 158 17 = some (.goto 28, 20, 45) := by decide +kernel
theorem i158_20 : ts_ins 158 20 = some (.iload_n 2, 21, 0) := by decide +kernel
theorem i158_21 : ts_ins 158 21 = some (.bipush 8, 23, 0) := by decide +kernel
theorem i158_23 : ts_ins 158 23 = some (.if_icmp .ne 21, 26, 44) := by decide +kernel
theorem i158_26 : ts_ins 158 26 = some (.aload_n 0, 27, 0) := by decide +kernel
theorem i158_27 : ts_ins 158 27 = some (.iload_n 1, 28, 0) := by decide +kernel
theorem i158_28 : ts_ins 158 28 = some (.i2l, 29, 0) := by decide +kernel
theorem i158_29 : ts_ins 158 29 = some (.invokevirtual 131, 32, 0) := by decide +kernel
theorem g158_29 : ts_cal (ts_mc 158) 131 = some (0, 150, 1) := by decide +kernel
theorem i158_32 : ts_ins 158 32 = some (.ifCond .eq 12, 35, 44) := by decide +kernel
theorem i158_35 : ts_ins 158 35 = some (.aload_n 0, 36, 0) := by decide +kernel
theorem i158_36 : ts_ins 158 36 = some (.getfield 22, 39, 0) := by decide +kernel
theorem g158_36 : ts_fm 158 22 = some (12, 8, 2) := by decide +kernel
theorem i158_39 : ts_ins 158 39 = some (.iload_n 1, 40, 0) := by decide +kernel
theorem i158_40 : ts_ins 158 40 = some (.iaload, 41, 0) := by decide +kernel
theorem i158_41 : ts_ins 158 41 = some (.goto 4, 44, 45) := by decide +kernel
theorem i158_44 : ts_ins 158 44 = some (.iconst (-1), 45, 0) := by decide +kernel
theorem i158_45 : ts_ins 158 45 = some (.ireturn, 46, 0) := by decide +kernel
theorem r158 : ts_rt 158 = ((some .int), 0, 0) := by decide +kernel
theorem l158 : ts_ml 158 = 4 := by decide +kernel
/-! THE FLOOR'S NUMBERS: names, places, reading and writing them -/
abbrev g_names (f : ts_Fl) (n w : Int) : Prop := (0 ≤ w ∧ w ≤ 1 ∧ 0 ≤ n ∧ n < 16) ∨ (2 ≤ w ∧ w ≤ 5 ∧ 0 ≤ n ∧ n < f_men f) ∨ (w = 6 ∧ n = 0) ∨ (w = 7 ∧ 0 ≤ n ∧ n / 10 < f_told f ∧ n % 10 < f_len f (n / 10))
def g_num (f : ts_Fl) (n w : Int) : Int := if w = 0 then f_tone f n else if w = 1 then f_corn f n else if w = 2 then f_stand f n else if w = 3 then f_reach f n else if w = 4 then f_arm f n else if w = 5 then f_late f n else if w = 6 then f_road f else f_say f (n / 10) (n % 10)
def g_set (f : ts_Fl) (n w v : Int) : ts_Fl := if w = 0 then fs_tone f (zu (f_tone f) n v) else if w = 1 then fs_corn f (zu (f_corn f) n v) else if w = 2 then fs_stand f (zu (f_stand f) n v) else if w = 3 then fs_reach f (zu (f_reach f) n v) else if w = 4 then fs_arm f (zu (f_arm f) n v) else if w = 5 then fs_late f (zu (f_late f) n v) else if w = 6 then fs_road f v else fs_say f (fun s k => if s = n / 10 ∧ k = n % 10 then v else f_say f s k)
def g_most (w : Int) : Int := if w = 0 then 7 else if w = 1 then 9 else if w = 2 then 15 else if w = 3 then 6 else if w = 4 then 12 else if w = 5 then 9 else if w = 6 then 20 else 7
def g_of (f : ts_Fl) (n w : Int) : Int := if w = 8 then (if 0 ≤ n ∧ n < f_told f then f_len f n else -1) else if g_names f n w then g_num f n w else -1
def z_place (n w : Int) : Int := if w ≤ 1 then 16 * w + n else if w ≤ 5 then 32 + 4 * (w - 2) + n else if w = 6 then 48 else 49 + 6 * (n / 10) + n % 10
section FL0
variable {I : Nat → Nat → Int32} {f : ts_Fl}
theorem RX.sTone (h : RX I f) {p v : Int} (hp : 0 ≤ p) (hv : 0 ≤ v ∧ v ≤ 7) : RX (ts_up I 3 p.toNat (zI v)) (fs_tone f (zu (f_tone f) p v)) := ⟨h.men, h.told, h.road, ar_up h.tone hp hv, h.corn, h.stand, h.reach, h.arm, h.late, h.len, fun s h0 h1 => ar_co (h.say h0 h1) (ts_up_na (by omega))⟩
theorem RX.sCorn (h : RX I f) {p v : Int} (hp : 0 ≤ p) (hv : 0 ≤ v ∧ v ≤ 9) : RX (ts_up I 4 p.toNat (zI v)) (fs_corn f (zu (f_corn f) p v)) := ⟨h.men, h.told, h.road, h.tone, ar_up h.corn hp hv, h.stand, h.reach, h.arm, h.late, h.len, fun s h0 h1 => ar_co (h.say h0 h1) (ts_up_na (by omega))⟩
theorem RX.sStand (h : RX I f) {p v : Int} (hp : 0 ≤ p) (hv : 0 ≤ v ∧ v ≤ 15) : RX (ts_up I 5 p.toNat (zI v)) (fs_stand f (zu (f_stand f) p v)) := ⟨h.men, h.told, h.road, h.tone, h.corn, ar_up h.stand hp hv, h.reach, h.arm, h.late, h.len, fun s h0 h1 => ar_co (h.say h0 h1) (ts_up_na (by omega))⟩
theorem RX.sReach (h : RX I f) {p v : Int} (hp : 0 ≤ p) (hv : 0 ≤ v ∧ v ≤ 6) : RX (ts_up I 6 p.toNat (zI v)) (fs_reach f (zu (f_reach f) p v)) := ⟨h.men, h.told, h.road, h.tone, h.corn, h.stand, ar_up h.reach hp hv, h.arm, h.late, h.len, fun s h0 h1 => ar_co (h.say h0 h1) (ts_up_na (by omega))⟩
theorem RX.sArm (h : RX I f) {p v : Int} (hp : 0 ≤ p) (hv : 0 ≤ v ∧ v ≤ 12) : RX (ts_up I 7 p.toNat (zI v)) (fs_arm f (zu (f_arm f) p v)) := ⟨h.men, h.told, h.road, h.tone, h.corn, h.stand, h.reach, ar_up h.arm hp hv, h.late, h.len, fun s h0 h1 => ar_co (h.say h0 h1) (ts_up_na (by omega))⟩
theorem RX.sLate (h : RX I f) {p v : Int} (hp : 0 ≤ p) (hv : 0 ≤ v ∧ v ≤ 9) : RX (ts_up I 8 p.toNat (zI v)) (fs_late f (zu (f_late f) p v)) := ⟨h.men, h.told, h.road, h.tone, h.corn, h.stand, h.reach, h.arm, ar_up h.late hp hv, h.len, fun s h0 h1 => ar_co (h.say h0 h1) (ts_up_na (by omega))⟩
theorem RX.sLen (h : RX I f) {p v : Int} (hp : 0 ≤ p) (hv : 0 ≤ v ∧ v ≤ 6) : RX (ts_up I 18 p.toNat (zI v)) (fs_len f (zu (f_len f) p v)) := ⟨h.men, h.told, h.road, h.tone, h.corn, h.stand, h.reach, h.arm, h.late, ar_up h.len hp hv, fun s h0 h1 => ar_co (h.say h0 h1) (ts_up_na (by omega))⟩
theorem RX.sRoad (h : RX I f) {v : Int} (hv : 0 ≤ v ∧ v ≤ 20) : RX (ts_up I 2 10 (zI v)) (fs_road f v) := ⟨h.men, h.told, rd_zI hv, h.tone, h.corn, h.stand, h.reach, h.arm, h.late, h.len, fun s h0 h1 => ar_co (h.say h0 h1) (ts_up_na (by omega))⟩
theorem RX.sMen (h : RX I f) {v : Int} (hv : 0 ≤ v ∧ v ≤ 4) : RX (ts_up I 2 8 (zI v)) (fs_men f v) := ⟨rd_zI hv, h.told, h.road, h.tone, h.corn, h.stand, h.reach, h.arm, h.late, h.len, fun s h0 h1 => ar_co (h.say h0 h1) (ts_up_na (by omega))⟩
theorem RX.sTold (h : RX I f) {v : Int} (hv : 0 ≤ v ∧ v ≤ 8) : RX (ts_up I 2 9 (zI v)) (fs_told f v) := ⟨h.men, rd_zI hv, h.road, h.tone, h.corn, h.stand, h.reach, h.arm, h.late, h.len, fun s h0 h1 => ar_co (h.say h0 h1) (ts_up_na (by omega))⟩
theorem RX.sSay (h : RX I f) {s k v : Int} (hs : 0 ≤ s ∧ s < 8) (hk : 0 ≤ k) (hv : 0 ≤ v ∧ v ≤ 7) : RX (ts_up I (10 + s.toNat) k.toNat (zI v)) (fs_say f (fun s' k' => if s' = s ∧ k' = k then v else f_say f s' k')) := by
  have e : ∀ a, a < 10 ∨ a = 18 → ts_up I (10 + s.toNat) k.toNat (zI v) a = I a := fun a ha => ts_up_na (by omega)
  refine ⟨?_, ?_, ?_, ar_co h.tone (e 3 (by decide)), ar_co h.corn (e 4 (by decide)), ar_co h.stand (e 5 (by decide)), ar_co h.reach (e 6 (by decide)), ar_co h.arm (e 7 (by decide)), ar_co h.late (e 8 (by decide)), ar_co h.len (e 18 (by decide)), ?_⟩
  · rw [e 2 (by decide)]; exact h.men
  · rw [e 2 (by decide)]; exact h.told
  · rw [e 2 (by decide)]; exact h.road
  · intro s' h0 h1
    by_cases c : s' = s
    · subst c
      intro p p0 p1
      have q := ar_up (h.say h0 h1) hk hv p p0 p1
      show rd _ 0 7 (if s' = s' ∧ p = k then v else f_say f s' p)
      by_cases e : p = k
      · rw [if_pos ⟨rfl, e⟩]; rw [zu, if_pos e] at q; exact q
      · rw [if_neg (fun r => e r.2)]; rw [zu, if_neg e] at q; exact q
    · intro p p0 p1
      rw [ts_up_na (by omega)]
      show rd _ 0 7 (if s' = s ∧ p = k then v else f_say f s' p)
      rw [if_neg (fun r => c r.1)]
      exact h.say h0 h1 p p0 p1
/-- a write to cell 73 -/
theorem RM.keep (h : RM I f) {j : Nat} {v : Int32} : (16 ≤ j → ar (ts_up I 73 j v) 73 16 0 7 (f_tone f)) ∧ (j < 16 ∨ 32 ≤ j → arf (ts_up I 73 j v) 73 16 16 0 9 (f_corn f)) ∧ (j < 32 ∨ 36 ≤ j → arf (ts_up I 73 j v) 73 32 4 0 15 (f_stand f)) ∧ (j < 36 ∨ 40 ≤ j → arf (ts_up I 73 j v) 73 36 4 0 6 (f_reach f)) ∧ (j < 40 ∨ 44 ≤ j → arf (ts_up I 73 j v) 73 40 4 0 12 (f_arm f)) ∧ (j < 44 ∨ 48 ≤ j → arf (ts_up I 73 j v) 73 44 4 0 9 (f_late f)) ∧ (¬ j = 48 → rd (ts_up I 73 j v 73 48) 0 20 (f_road f)) ∧ (j < 49 → ∀ s : Int, 0 ≤ s → s < 8 → arf (ts_up I 73 j v) 73 (49 + 6 * s) 6 0 7 (f_say f s)) := by
  refine ⟨fun q => ?_, fun q => arf_out h.corn (by omega) (by omega), fun q => arf_out h.stand (by omega) (by omega), fun q => arf_out h.reach (by omega) (by omega), fun q => arf_out h.arm (by omega) (by omega), fun q => arf_out h.late (by omega) (by omega), fun q => ?_, fun q s h0 h1 => arf_out (h.say h0 h1) (by omega) (by omega)⟩
  · intro p p0 p1
    rw [ts_up_nj (by omega)]
    exact h.tone p p0 p1
  · rw [ts_up_nj (by omega)]
    exact h.road
theorem RM.sTone (h : RM I f) {p v : Int} (hp : 0 ≤ p ∧ p < 16) (hv : 0 ≤ v ∧ v ≤ 7) : RM (ts_up I 73 p.toNat (zI v)) (fs_tone f (zu (f_tone f) p v)) := by
  obtain ⟨k1, k2, k3, k4, k5, k6, k7, k8⟩ := h.keep (j := p.toNat) (v := zI v)
  exact ⟨h.men, h.told, k7 (by omega), ar_up h.tone hp.1 hv, k2 (by omega), k3 (by omega), k4 (by omega), k5 (by omega), k6 (by omega), h.len, k8 (by omega)⟩
theorem RM.sCorn (h : RM I f) {p v : Int} (hp : 0 ≤ p ∧ p < 16) (hv : 0 ≤ v ∧ v ≤ 9) : RM (ts_up I 73 (16 + p).toNat (zI v)) (fs_corn f (zu (f_corn f) p v)) := by
  obtain ⟨k1, k2, k3, k4, k5, k6, k7, k8⟩ := h.keep (j := (16 + p).toNat) (v := zI v)
  exact ⟨h.men, h.told, k7 (by omega), k1 (by omega), arf_up h.corn (by omega) hp.1 hv, k3 (by omega), k4 (by omega), k5 (by omega), k6 (by omega), h.len, k8 (by omega)⟩
theorem RM.sStand (h : RM I f) {p v : Int} (hp : 0 ≤ p ∧ p < 4) (hv : 0 ≤ v ∧ v ≤ 15) : RM (ts_up I 73 (32 + p).toNat (zI v)) (fs_stand f (zu (f_stand f) p v)) := by
  obtain ⟨k1, k2, k3, k4, k5, k6, k7, k8⟩ := h.keep (j := (32 + p).toNat) (v := zI v)
  exact ⟨h.men, h.told, k7 (by omega), k1 (by omega), k2 (by omega), arf_up h.stand (by omega) hp.1 hv, k4 (by omega), k5 (by omega), k6 (by omega), h.len, k8 (by omega)⟩
theorem RM.sReach (h : RM I f) {p v : Int} (hp : 0 ≤ p ∧ p < 4) (hv : 0 ≤ v ∧ v ≤ 6) : RM (ts_up I 73 (36 + p).toNat (zI v)) (fs_reach f (zu (f_reach f) p v)) := by
  obtain ⟨k1, k2, k3, k4, k5, k6, k7, k8⟩ := h.keep (j := (36 + p).toNat) (v := zI v)
  exact ⟨h.men, h.told, k7 (by omega), k1 (by omega), k2 (by omega), k3 (by omega), arf_up h.reach (by omega) hp.1 hv, k5 (by omega), k6 (by omega), h.len, k8 (by omega)⟩
theorem RM.sArm (h : RM I f) {p v : Int} (hp : 0 ≤ p ∧ p < 4) (hv : 0 ≤ v ∧ v ≤ 12) : RM (ts_up I 73 (40 + p).toNat (zI v)) (fs_arm f (zu (f_arm f) p v)) := by
  obtain ⟨k1, k2, k3, k4, k5, k6, k7, k8⟩ := h.keep (j := (40 + p).toNat) (v := zI v)
  exact ⟨h.men, h.told, k7 (by omega), k1 (by omega), k2 (by omega), k3 (by omega), k4 (by omega), arf_up h.arm (by omega) hp.1 hv, k6 (by omega), h.len, k8 (by omega)⟩
theorem RM.sLate (h : RM I f) {p v : Int} (hp : 0 ≤ p ∧ p < 4) (hv : 0 ≤ v ∧ v ≤ 9) : RM (ts_up I 73 (44 + p).toNat (zI v)) (fs_late f (zu (f_late f) p v)) := by
  obtain ⟨k1, k2, k3, k4, k5, k6, k7, k8⟩ := h.keep (j := (44 + p).toNat) (v := zI v)
  exact ⟨h.men, h.told, k7 (by omega), k1 (by omega), k2 (by omega), k3 (by omega), k4 (by omega), k5 (by omega), arf_up h.late (by omega) hp.1 hv, h.len, k8 (by omega)⟩
theorem RM.sRoad (h : RM I f) {v : Int} (hv : 0 ≤ v ∧ v ≤ 20) : RM (ts_up I 73 48 (zI v)) (fs_road f v) := by
  obtain ⟨k1, k2, k3, k4, k5, k6, k7, k8⟩ := h.keep (j := 48) (v := zI v)
  exact ⟨h.men, h.told, by rw [ts_up_e]; exact rd_zI hv, k1 (by omega), k2 (by omega), k3 (by omega), k4 (by omega), k5 (by omega), k6 (by omega), h.len, k8 (by omega)⟩
theorem RM.sMen (h : RM I f) {v : Int} (hv : 0 ≤ v ∧ v ≤ 4) : RM (ts_up I 72 6 (zI v)) (fs_men f v) := ⟨rd_zI hv, h.told, h.road, h.tone, h.corn, h.stand, h.reach, h.arm, h.late, h.len, fun s h0 h1 => h.say h0 h1⟩
theorem RM.sTold (h : RM I f) {v : Int} (hv : 0 ≤ v ∧ v ≤ 8) : RM (ts_up I 72 7 (zI v)) (fs_told f v) := ⟨h.men, rd_zI hv, h.road, h.tone, h.corn, h.stand, h.reach, h.arm, h.late, h.len, fun s h0 h1 => h.say h0 h1⟩
theorem RM.sLen (h : RM I f) {p v : Int} (hp : 0 ≤ p) (hv : 0 ≤ v ∧ v ≤ 6) : RM (ts_up I 77 p.toNat (zI v)) (fs_len f (zu (f_len f) p v)) := ⟨h.men, h.told, h.road, h.tone, h.corn, h.stand, h.reach, h.arm, h.late, ar_up h.len hp hv, fun s h0 h1 => h.say h0 h1⟩
theorem RM.sSay (h : RM I f) {s k v : Int} (hs : 0 ≤ s ∧ s < 8) (hk : 0 ≤ k ∧ k < 6) (hv : 0 ≤ v ∧ v ≤ 7) : RM (ts_up I 73 (49 + 6 * s + k).toNat (zI v)) (fs_say f (fun s' k' => if s' = s ∧ k' = k then v else f_say f s' k')) := by
  obtain ⟨k1, k2, k3, k4, k5, k6, k7, k8⟩ := h.keep (j := (49 + 6 * s + k).toNat) (v := zI v)
  refine ⟨h.men, h.told, k7 (by omega), k1 (by omega), k2 (by omega), k3 (by omega), k4 (by omega), k5 (by omega), k6 (by omega), h.len, ?_⟩
  intro s' h0 h1 p p0 p1
  show rd _ 0 7 (if s' = s ∧ p = k then v else f_say f s' p)
  by_cases c : s' = s ∧ p = k
  · rw [if_pos c, c.1, c.2, ts_up_e]
    exact rd_zI hv
  · rw [if_neg c, ts_up_nj (by omega)]
    exact h.say h0 h1 p p0 p1
theorem RM.at (h : RM I f) {n w : Int} (hn : g_names f n w) : rd (I 73 (z_place n w).toNat) 0 20 (g_num f n w) := by
  have e : ∀ {x : Int32} {hi v : Int}, hi ≤ 20 → rd x 0 hi v → rd x 0 20 v := fun a b => ⟨b.1, b.2.1, by have := b.2.2; omega⟩
  have b1 := h.men.2
  have b2 := h.told.2
  unfold g_names at hn
  rcases (show w = 0 ∨ w = 1 ∨ w = 2 ∨ w = 3 ∨ w = 4 ∨ w = 5 ∨ w = 6 ∨ w = 7 by omega) with rfl | rfl | rfl | rfl | rfl | rfl | rfl | rfl
  · have := e (by decide) (h.tone n (by omega) (by omega)); unfold g_num z_place; simpa using this
  · have := e (by decide) (h.corn n (by omega) (by omega)); unfold g_num z_place; simpa using this
  · have := e (by decide) (h.stand n (by omega) (by omega)); unfold g_num z_place; simpa using this
  · have := e (by decide) (h.reach n (by omega) (by omega)); unfold g_num z_place; simpa using this
  · have := e (by decide) (h.arm n (by omega) (by omega)); unfold g_num z_place; simpa using this
  · have := e (by decide) (h.late n (by omega) (by omega)); unfold g_num z_place; simpa using this
  · have := e (by decide) h.road; unfold g_num z_place; simpa using this
  · have b3 := (h.len (n / 10) (by omega) (by omega)).2
    have := e (by decide) (h.say (s := n / 10) (by omega) (by omega) (n % 10) (by omega) (by omega)); unfold g_num z_place; simpa using this
theorem z_place_r {n w : Int} (b1 : f_men f ≤ 4) (b2 : f_told f ≤ 8) (b3 : ∀ p, 0 ≤ p → p < 8 → f_len f p ≤ 6) (hn : g_names f n w) : 0 ≤ z_place n w ∧ z_place n w < 97 := by
  unfold g_names at hn
  unfold z_place
  rcases hn with q | q | q | q
  · omega
  · omega
  · omega
  · have := b3 (n / 10) (by omega) (by omega)
    omega
theorem RX.put (h : RX I f) {n w v : Int} (hn : g_names f n w) (hw : 0 ≤ w ∧ w ≤ 5) (hv : 0 ≤ v ∧ v ≤ g_most w) : RX (ts_up I (3 + w.toNat) n.toNat (zI v)) (g_set f n w v) := by
  have b1 := h.men.2
  unfold g_names at hn
  unfold g_most at hv
  unfold g_set
  rcases (show w = 0 ∨ w = 1 ∨ w = 2 ∨ w = 3 ∨ w = 4 ∨ w = 5 by omega) with rfl | rfl | rfl | rfl | rfl | rfl
  · exact h.sTone (by omega) (by simpa using hv)
  · exact h.sCorn (by omega) (by simpa using hv)
  · exact h.sStand (by omega) (by simpa using hv)
  · exact h.sReach (by omega) (by simpa using hv)
  · exact h.sArm (by omega) (by simpa using hv)
  · exact h.sLate (by omega) (by simpa using hv)
theorem RM.put (h : RM I f) {n w v : Int} (hn : g_names f n w) (hv : 0 ≤ v ∧ v ≤ g_most w) : RM (ts_up I 73 (z_place n w).toNat (zI v)) (g_set f n w v) := by
  have b1 := h.men.2
  have b2 := h.told.2
  unfold g_names at hn
  unfold g_most at hv
  unfold g_set z_place
  rcases (show w = 0 ∨ w = 1 ∨ w = 2 ∨ w = 3 ∨ w = 4 ∨ w = 5 ∨ w = 6 ∨ w = 7 by omega) with rfl | rfl | rfl | rfl | rfl | rfl | rfl | rfl
  · have := h.sTone (p := n) (v := v) (by omega) (by simpa using hv); simpa using this
  · have := h.sCorn (p := n) (v := v) (by omega) (by simpa using hv); simpa using this
  · have := h.sStand (p := n) (v := v) (by omega) (by simpa using hv); simpa using this
  · have := h.sReach (p := n) (v := v) (by omega) (by simpa using hv); simpa using this
  · have := h.sArm (p := n) (v := v) (by omega) (by simpa using hv); simpa using this
  · have := h.sLate (p := n) (v := v) (by omega) (by simpa using hv); simpa using this
  · have := h.sRoad (v := v) (by simpa using hv); simpa using this
  · have b3 := (h.len (n / 10) (by omega) (by omega)).2
    have := h.sSay (s := n / 10) (k := n % 10) (v := v) (by omega) (by omega) (by simpa using hv); simpa using this
theorem floor_P {sw : Bool} {s : Int} (h0 : 0 ≤ s) (h1 : s < 8) : ts_pg (ts_P0 sw) 9 s.toNat = some (10 + s.toNat) := by cases sw <;> exact (by decide : ∀ q, q < 8 → ts_pg (ts_P0 _) 9 q = some (10 + q)) s.toNat (by omega)
theorem floor_A {X : ts_X} {s : Int} (h0 : 0 ≤ s) (h1 : s < 8) : ts_ai X I ts_S0 (10 + s.toNat) = some (6, I (10 + s.toNat)) := by
  obtain ⟨q, rfl⟩ : ∃ q : Nat, s = q := ⟨s.toNat, by omega⟩
  have e : ∀ q, q < 8 → ts_sh ts_S0 (10 + q) = some (0, 6) ∧ Nat.blt (10 + q) 1000 = true := by decide
  have := e q (by omega)
  show ts_ai X I ts_S0 (10 + q) = _
  unfold ts_ai
  rw [this.2, this.1]
  rfl
theorem floor_S {s : Int} (h0 : 0 ≤ s) (h1 : s < 8) : ts_sA ts_S0 (10 + s.toNat) = some (0, 6) := by
  obtain ⟨q, rfl⟩ : ∃ q : Nat, s = q := ⟨s.toNat, by omega⟩
  exact (by decide : ∀ q, q < 8 → ts_sA ts_S0 (10 + q) = some (0, 6)) q (by omega)
end FL0
section FL1
variable {X : ts_X} {I : Nat → Nat → Int32} {L : Nat → Nat → Int64} {sw : Bool} {K : Option Value → ts_H → Prop} {d : Nat} {f : ts_Fl}
theorem x_names (hX : RX I f) {n w : Int} (hn : -2147483648 ≤ n ∧ n ≤ 2147483647) (hw : -2147483648 ≤ w ∧ w ≤ 2147483647) (hK : K (some (.int (zI (if g_names f n w then 1 else 0)))) (I, L, ts_P0 sw, ts_S0)) : ts_Cal X (d + 2) 21 [.ref 2, .int (zI (n)), .int (zI (w))] (I, L, ts_P0 sw, ts_S0) K := by
  have hb := hX.told.2
  unfold g_names at hK
  refine ev_enter (lv := [.ref 2, .int (zI (n)), .int (zI (w))]) l21 rfl (Nat.le_of_ble_eq_true rfl) ?_
  refine ev_iloadn_2 i21_0 ?_
  rcases (show w = 0 ∨ w = 1 ∨ w = 2 ∨ w = 3 ∨ w = 4 ∨ w = 5 ∨ w = 6 ∨ w = 7 ∨ (w < 0 ∨ 7 < w) by omega) with c1 | c1 | c1 | c1 | c1 | c1 | c1 | c1 | c1
  · refine ew_sw (v := 0) i21_1 c1 (t := 48) (by decide) rfl ?_
    refine ev_iloadn_1 i21_48 ?_
    refine ev_nest1 i21_49 g21_49 (by decide +kernel) (Nat.le_of_ble_eq_true rfl) (x_isPlank hn ?_)
    exact ew_zreturn i21_52 r21 (by omega) hK
  · refine ew_sw (v := 1) i21_1 c1 (t := 48) (by decide) rfl ?_
    refine ev_iloadn_1 i21_48 ?_
    refine ev_nest1 i21_49 g21_49 (by decide +kernel) (Nat.le_of_ble_eq_true rfl) (x_isPlank hn ?_)
    exact ew_zreturn i21_52 r21 (by omega) hK
  · refine ew_sw (v := 2) i21_1 c1 (t := 53) (by decide) rfl ?_
    refine ev_aloadn_0 i21_53 ?_
    refine ev_iloadn_1 i21_54 ?_
    refine ev_virt1 i21_55 g21_55 rfl (by decide +kernel) (Nat.le_of_ble_eq_true rfl) (x_hasMan hX hn ?_)
    exact ew_zreturn i21_58 r21 (by omega) hK
  · refine ew_sw (v := 3) i21_1 c1 (t := 53) (by decide) rfl ?_
    refine ev_aloadn_0 i21_53 ?_
    refine ev_iloadn_1 i21_54 ?_
    refine ev_virt1 i21_55 g21_55 rfl (by decide +kernel) (Nat.le_of_ble_eq_true rfl) (x_hasMan hX hn ?_)
    exact ew_zreturn i21_58 r21 (by omega) hK
  · refine ew_sw (v := 4) i21_1 c1 (t := 53) (by decide) rfl ?_
    refine ev_aloadn_0 i21_53 ?_
    refine ev_iloadn_1 i21_54 ?_
    refine ev_virt1 i21_55 g21_55 rfl (by decide +kernel) (Nat.le_of_ble_eq_true rfl) (x_hasMan hX hn ?_)
    exact ew_zreturn i21_58 r21 (by omega) hK
  · refine ew_sw (v := 5) i21_1 c1 (t := 53) (by decide) rfl ?_
    refine ev_aloadn_0 i21_53 ?_
    refine ev_iloadn_1 i21_54 ?_
    refine ev_virt1 i21_55 g21_55 rfl (by decide +kernel) (Nat.le_of_ble_eq_true rfl) (x_hasMan hX hn ?_)
    exact ew_zreturn i21_58 r21 (by omega) hK
  · refine ew_sw (v := 6) i21_1 c1 (t := 59) (by decide) rfl ?_
    refine ev_iloadn_1 i21_59 ?_
    first
    | refine ew_ifneB i21_60 (fun c60 => ?_) (fun c60 => ?_)
    | refine ew_ifne i21_60 (by omega) (fun c60 => ?_) (fun c60 => ?_)
    · refine ew_iconst i21_67 ?_
      exact ew_zreturn i21_68 r21 (by omega) hK
    · refine ew_iconst i21_63 ?_
      refine ev_goto i21_64 ?_
      exact ew_zreturn i21_68 r21 (by omega) hK
  · refine ew_sw (v := 7) i21_1 c1 (t := 69) (by decide) rfl ?_
    refine ev_iloadn_1 i21_69 ?_
    refine ew_iflt i21_70 (by omega) (fun c70 => ?_) (fun c70 => ?_)
    · refine ew_iconst i21_104 ?_
      exact ew_zreturn i21_105 r21 (by omega) hK
    · refine ev_aloadn_0 i21_73 ?_
      refine ev_iloadn_1 i21_74 ?_
      refine ew_bipush i21_75 (by decide) ?_
      refine ew_idiv i21_77 (by omega) (by omega) ?_
      refine ev_virt1 i21_78 g21_78 rfl (by decide +kernel) (Nat.le_of_ble_eq_true rfl) (x_hasSaying hX (by omega) ?_)
      first
      | refine ew_ifeqB i21_81 (fun c81 => ?_) (fun c81 => ?_)
      | refine ew_ifeq i21_81 (by omega) (fun c81 => ?_) (fun c81 => ?_)
      · refine ew_iconst i21_104 ?_
        exact ew_zreturn i21_105 r21 (by omega) hK
      · refine ev_iloadn_1 i21_84 ?_
        refine ew_bipush i21_85 (by decide) ?_
        refine ew_irem i21_87 (by omega) (by omega) ?_
        refine ev_aloadn_0 i21_88 ?_
        refine ev_getA i21_89 g21_89 rfl rfl (by decide) ?_
        refine ev_iloadn_1 i21_92 ?_
        refine ew_bipush i21_93 (by decide) ?_
        refine ew_idiv i21_95 (by omega) (by omega) ?_
        refine ew_iaload i21_96 rfl (by omega) (by omega) (by omega) (by first | exact hX.men | exact hX.told | exact hX.road | exact hX.tone _ (by omega) (by omega) | exact hX.corn _ (by omega) (by omega) | exact hX.stand _ (by omega) (by omega) | exact hX.reach _ (by omega) (by omega) | exact hX.arm _ (by omega) (by omega) | exact hX.late _ (by omega) (by omega) | exact hX.len _ (by omega) (by omega) | exact hX.say (by omega) (by omega) _ (by omega) (by omega)) (fun b96 => ?_)
        refine ew_icmpge i21_97 (by omega) (fun c97 => ?_) (fun c97 => ?_)
        · refine ew_iconst i21_104 ?_
          exact ew_zreturn i21_105 r21 (by omega) hK
        · refine ew_iconst i21_100 ?_
          refine ev_goto i21_101 ?_
          exact ew_zreturn i21_105 r21 (by omega) hK
  · refine ew_tswD (t := 106) i21_1 (by omega) c1 (by decide) ?_
    refine ew_iconst i21_106 ?_
    exact ew_zreturn i21_107 r21 (by omega) hK
theorem x_listOf {w : Int} (hw : 0 ≤ w ∧ w ≤ 5) (hK : K (some (.ref (3 + w.toNat))) (I, L, ts_P0 sw, ts_S0)) : ts_Cal X (d + 1) 24 [.ref 2, .int (zI (w))] (I, L, ts_P0 sw, ts_S0) K := by
  refine ev_enter (lv := [.ref 2, .int (zI (w))]) l24 rfl (Nat.le_of_ble_eq_true rfl) ?_
  refine ev_iloadn_1 i24_0 ?_
  rcases (show w = 0 ∨ w = 1 ∨ w = 2 ∨ w = 3 ∨ w = 4 ∨ (w < 0 ∨ 4 < w) by omega) with c1 | c1 | c1 | c1 | c1 | c1
  · refine ew_sw (v := 0) i24_1 c1 (t := 36) (by decide) rfl ?_
    refine ev_aloadn_0 i24_36 ?_
    refine ev_getA i24_37 g24_37 rfl rfl (by decide) ?_
    refine ev_areturn i24_40 r24 (by first | exact Or.inl ⟨_, rfl⟩ | exact Or.inr ⟨_, rfl⟩) (by decide) ?_
    subst c1; exact hK
  · refine ew_sw (v := 1) i24_1 c1 (t := 41) (by decide) rfl ?_
    refine ev_aloadn_0 i24_41 ?_
    refine ev_getA i24_42 g24_42 rfl rfl (by decide) ?_
    refine ev_areturn i24_45 r24 (by first | exact Or.inl ⟨_, rfl⟩ | exact Or.inr ⟨_, rfl⟩) (by decide) ?_
    subst c1; exact hK
  · refine ew_sw (v := 2) i24_1 c1 (t := 46) (by decide) rfl ?_
    refine ev_aloadn_0 i24_46 ?_
    refine ev_getA i24_47 g24_47 rfl rfl (by decide) ?_
    refine ev_areturn i24_50 r24 (by first | exact Or.inl ⟨_, rfl⟩ | exact Or.inr ⟨_, rfl⟩) (by decide) ?_
    subst c1; exact hK
  · refine ew_sw (v := 3) i24_1 c1 (t := 51) (by decide) rfl ?_
    refine ev_aloadn_0 i24_51 ?_
    refine ev_getA i24_52 g24_52 rfl rfl (by decide) ?_
    refine ev_areturn i24_55 r24 (by first | exact Or.inl ⟨_, rfl⟩ | exact Or.inr ⟨_, rfl⟩) (by decide) ?_
    subst c1; exact hK
  · refine ew_sw (v := 4) i24_1 c1 (t := 56) (by decide) rfl ?_
    refine ev_aloadn_0 i24_56 ?_
    refine ev_getA i24_57 g24_57 rfl rfl (by decide) ?_
    refine ev_areturn i24_60 r24 (by first | exact Or.inl ⟨_, rfl⟩ | exact Or.inr ⟨_, rfl⟩) (by decide) ?_
    subst c1; exact hK
  · refine ew_tswD (t := 61) i24_1 (by omega) c1 (by decide) ?_
    refine ev_aloadn_0 i24_61 ?_
    refine ev_getA i24_62 g24_62 rfl rfl (by decide) ?_
    refine ev_areturn i24_65 r24 (by first | exact Or.inl ⟨_, rfl⟩ | exact Or.inr ⟨_, rfl⟩) (by decide) ?_
    obtain rfl : w = 5 := by omega
    exact hK
theorem g_names_0 {n w : Int} (h : g_names f n w) : 0 ≤ w ∧ w ≤ 7 ∧ 0 ≤ n := by unfold g_names at h; omega
theorem x_numberOf (hX : RX I f) {n w : Int} (hn : -2147483648 ≤ n ∧ n ≤ 2147483647) (hw : -2147483648 ≤ w ∧ w ≤ 2147483647) (hg : g_names f n w) (hK : 0 ≤ g_num f n w → g_num f n w ≤ g_most w → K (some (.int (zI (g_num f n w)))) (I, L, ts_P0 sw, ts_S0)) : ts_Cal X (d + 3) 22 [.ref 2, .int (zI (n)), .int (zI (w))] (I, L, ts_P0 sw, ts_S0) K := by
  have b1 := hX.men.2
  have b2 := hX.told.2
  have g0 := hg
  unfold g_names at g0
  unfold g_num g_most at hK
  refine ev_enter (lv := [.ref 2, .int (zI (n)), .int (zI (w))]) l22 rfl (Nat.le_of_ble_eq_true rfl) ?_
  refine ev_aloadn_0 i22_0 ?_
  refine ev_iloadn_1 i22_1 ?_
  refine ev_iloadn_2 i22_2 ?_
  refine ev_virt2 i22_3 g22_3 rfl (by decide +kernel) (Nat.le_of_ble_eq_true rfl) (x_names hX hn hw ?_)
  first
  | refine ew_ifneB i22_6 (fun c6 => ?_) (fun c6 => ?_)
  | refine ew_ifne i22_6 (by omega) (fun c6 => ?_) (fun c6 => ?_)
  · refine ev_iloadn_2 i22_11 ?_
    refine ew_bipush i22_12 (by decide) ?_
    refine ew_icmpne i22_14 (by omega) (fun c14 => ?_) (fun c14 => ?_)
    · refine ev_iloadn_2 i22_22 ?_
      refine ew_bipush i22_23 (by decide) ?_
      refine ew_icmpne i22_25 (by omega) (fun c25 => ?_) (fun c25 => ?_)
      · rcases (show w = 0 ∨ w = 1 ∨ w = 2 ∨ w = 3 ∨ w = 4 ∨ w = 5 by omega) with rfl | rfl | rfl | rfl | rfl | rfl
        all_goals
          refine ev_aloadn_0 i22_45 ?_
          refine ev_iloadn_2 i22_46 ?_
          refine ev_virt1 i22_47 g22_47 rfl (by decide +kernel) (Nat.le_of_ble_eq_true rfl) (x_listOf (by omega) ?_)
          refine ev_iloadn_1 i22_50 ?_
          refine ew_iaload i22_51 rfl (by omega) (by omega) (by omega) (by first | exact hX.men | exact hX.told | exact hX.road | exact hX.tone _ (by omega) (by omega) | exact hX.corn _ (by omega) (by omega) | exact hX.stand _ (by omega) (by omega) | exact hX.reach _ (by omega) (by omega) | exact hX.arm _ (by omega) (by omega) | exact hX.late _ (by omega) (by omega) | exact hX.len _ (by omega) (by omega) | exact hX.say (by omega) (by omega) _ (by omega) (by omega)) (fun b51 => ?_)
          refine ev_ireturn i22_52 r22 ?_
          simpa using hK (by simpa using b51.1) (by simpa using b51.2)
      · have b3 := (hX.len (n / 10) (by omega) (by omega)).2
        refine ev_aloadn_0 i22_28 ?_
        refine ev_getA i22_29 g22_29 rfl rfl (by decide) ?_
        refine ev_iloadn_1 i22_32 ?_
        refine ew_bipush i22_33 (by decide) ?_
        refine ew_idiv i22_35 (by omega) (by omega) ?_
        refine ew_aaloadG i22_36 rfl (by omega) (by omega) (by omega) ((by exact floor_P (by omega) (by omega))) (by omega) ?_
        refine ev_iloadn_1 i22_37 ?_
        refine ew_bipush i22_38 (by decide) ?_
        refine ew_irem i22_40 (by omega) (by omega) ?_
        refine ew_iaload i22_41 (floor_A (by omega) (by omega)) (by omega) (by omega) (by omega) ((hX.say (by omega) (by omega) _ (by omega) (by omega))) (fun b41 => ?_)
        refine ev_goto i22_42 ?_
        refine ev_ireturn i22_52 r22 ?_
        obtain rfl : w = 7 := by omega
        simpa using hK (by simpa using b41.1) (by simpa using b41.2)
    · refine ev_aloadn_0 i22_17 ?_
      refine ew_getI i22_18 g22_18 rfl (by first | exact hX.men | exact hX.told | exact hX.road | exact hX.tone _ (by omega) (by omega) | exact hX.corn _ (by omega) (by omega) | exact hX.stand _ (by omega) (by omega) | exact hX.reach _ (by omega) (by omega) | exact hX.arm _ (by omega) (by omega) | exact hX.late _ (by omega) (by omega) | exact hX.len _ (by omega) (by omega) | exact hX.say (by omega) (by omega) _ (by omega) (by omega)) (fun b18 => ?_)
      refine ev_ireturn i22_21 r22 ?_
      subst c14; simpa using hK (by simpa using b18.1) (by simpa using b18.2)
  · refine ew_iconst i22_9 ?_
    refine ev_ireturn i22_10 r22 ?_
    exact absurd hg c6
theorem x_of (hX : RX I f) {n w : Int} (hn : -2147483648 ≤ n ∧ n ≤ 2147483647) (hw : -2147483648 ≤ w ∧ w ≤ 2147483647) (hK : K (some (.int (zI (g_of f n w)))) (I, L, ts_P0 sw, ts_S0)) : ts_Cal X (d + 4) 97 [.ref 1, .int (zI (n)), .int (zI (w))] (I, L, ts_P0 sw, ts_S0) K := by
  have b2 := hX.told.2
  unfold g_of at hK
  refine ev_enter (lv := [.ref 1, .int (zI (n)), .int (zI (w))]) l97 rfl (Nat.le_of_ble_eq_true rfl) ?_
  refine ev_iloadn_2 i97_0 ?_
  refine ew_bipush i97_1 (by decide) ?_
  refine ew_icmpne i97_3 (by omega) (fun c3 => ?_) (fun c3 => ?_)
  · rw [if_neg c3] at hK
    refine ev_aloadn_0 i97_31 ?_
    refine ev_getA i97_32 g97_32 rfl rfl (by decide) ?_
    refine ev_iloadn_1 i97_35 ?_
    refine ev_iloadn_2 i97_36 ?_
    refine ev_virt2 i97_37 g97_37 rfl (by decide +kernel) (Nat.le_of_ble_eq_true rfl) (x_names hX hn hw ?_)
    first
    | refine ew_ifeqB i97_40 (fun c40 => ?_) (fun c40 => ?_)
    | refine ew_ifeq i97_40 (by omega) (fun c40 => ?_) (fun c40 => ?_)
    · rw [if_neg c40] at hK
      refine ew_iconst i97_55 ?_
      refine ev_ireturn i97_56 r97 ?_
      first | exact hK | exact zK hK (by omega)
    · rw [if_pos c40] at hK
      refine ev_aloadn_0 i97_43 ?_
      refine ev_getA i97_44 g97_44 rfl rfl (by decide) ?_
      refine ev_iloadn_1 i97_47 ?_
      refine ev_iloadn_2 i97_48 ?_
      refine ev_virt2 i97_49 g97_49 rfl (by decide +kernel) (Nat.le_of_ble_eq_true rfl) (x_numberOf hX hn hw c40 (fun _ _ => ?_))
      refine ev_goto i97_52 ?_
      refine ev_ireturn i97_56 r97 ?_
      first | exact hK | exact zK hK (by omega)
  · refine ev_aloadn_0 i97_6 ?_
    refine ev_getA i97_7 g97_7 rfl rfl (by decide) ?_
    refine ev_iloadn_1 i97_10 ?_
    refine ev_virt1 i97_11 g97_11 rfl (by decide +kernel) (Nat.le_of_ble_eq_true rfl) (x_hasSaying hX hn ?_)
    first
    | refine ew_ifeqB i97_14 (fun c14 => ?_) (fun c14 => ?_)
    | refine ew_ifeq i97_14 (by omega) (fun c14 => ?_) (fun c14 => ?_)
    · rw [if_pos c3, if_neg c14] at hK
      refine ew_iconst i97_29 ?_
      refine ev_ireturn i97_30 r97 ?_
      first | exact hK | exact zK hK (by omega)
    · rw [if_pos c3, if_pos c14] at hK
      refine ev_aloadn_0 i97_17 ?_
      refine ev_getA i97_18 g97_18 rfl rfl (by decide) ?_
      refine ev_getA i97_21 g97_21 rfl rfl (by decide) ?_
      refine ev_iloadn_1 i97_24 ?_
      refine ew_iaload i97_25 rfl (by omega) (by omega) (by omega) (by first | exact hX.men | exact hX.told | exact hX.road | exact hX.tone _ (by omega) (by omega) | exact hX.corn _ (by omega) (by omega) | exact hX.stand _ (by omega) (by omega) | exact hX.reach _ (by omega) (by omega) | exact hX.arm _ (by omega) (by omega) | exact hX.late _ (by omega) (by omega) | exact hX.len _ (by omega) (by omega) | exact hX.say (by omega) (by omega) _ (by omega) (by omega)) (fun b25 => ?_)
      refine ev_goto i97_26 ?_
      refine ev_ireturn i97_30 r97 ?_
      first | exact hK | exact zK hK (by omega)
theorem m_placeOf (hM : RM I f) {n w : Int} (hn : -2147483648 ≤ n ∧ n ≤ 2147483647) (hw : -2147483648 ≤ w ∧ w ≤ 2147483647) (hK : K (some (.int (zI (if g_names f n w then z_place n w else -1)))) (I, L, ts_P0 sw, ts_S0)) : ts_Cal X (d + 3) 155 [.ref 72, .int (zI (n)), .int (zI (w))] (I, L, ts_P0 sw, ts_S0) K := by
  have b2 := hM.told.2
  unfold g_names z_place at hK
  refine ev_enter (lv := [.ref 72, .int (zI (n)), .int (zI (w))]) l155 rfl (Nat.le_of_ble_eq_true rfl) ?_
  refine ev_iloadn_2 i155_0 ?_
  refine ew_i2l i155_1 (by omega) ?_
  refine ew_lconst (z := 0) i155_2 (by decide) ?_
  refine ew_lconst (z := 1) i155_3 (by decide) ?_
  refine ev_stat3 i155_4 g155_4 (by decide +kernel) (Nat.le_of_ble_eq_true rfl) (m_within (by omega) (by omega) (by omega) ?_)
  first
  | refine ew_ifeqB i155_7 (fun c7 => ?_) (fun c7 => ?_)
  | refine ew_ifeq i155_7 (by omega) (fun c7 => ?_) (fun c7 => ?_)
  · refine ev_iloadn_2 i155_29 ?_
    refine ew_i2l i155_30 (by omega) ?_
    refine ew_ldc2_w (z := (2)) i155_31 g155_31 (by decide) ?_
    refine ew_ldc2_w (z := (5)) i155_34 g155_34 (by decide) ?_
    refine ev_stat3 i155_37 g155_37 (by decide +kernel) (Nat.le_of_ble_eq_true rfl) (m_within (by omega) (by omega) (by omega) ?_)
    first
    | refine ew_ifeqB i155_40 (fun c40 => ?_) (fun c40 => ?_)
    | refine ew_ifeq i155_40 (by omega) (fun c40 => ?_) (fun c40 => ?_)
    · refine ev_iloadn_2 i155_67 ?_
      refine ew_bipush i155_68 (by decide) ?_
      refine ew_icmpne i155_70 (by omega) (fun c70 => ?_) (fun c70 => ?_)
      · refine ev_iloadn_2 i155_84 ?_
        refine ew_bipush i155_85 (by decide) ?_
        refine ew_icmpne i155_87 (by omega) (fun c87 => ?_) (fun c87 => ?_)
        · refine ew_iconst i155_140 ?_
          refine ev_ireturn i155_141 r155 ?_
          first | exact hK | exact zK hK (by omega)
        · refine ev_iloadn_1 i155_90 ?_
          refine ew_iflt i155_91 (by omega) (fun c91 => ?_) (fun c91 => ?_)
          · refine ew_iconst i155_140 ?_
            refine ev_ireturn i155_141 r155 ?_
            first | exact hK | exact zK hK (by omega)
          · refine ev_aloadn_0 i155_94 ?_
            refine ev_iloadn_1 i155_95 ?_
            refine ew_bipush i155_96 (by decide) ?_
            refine ew_idiv i155_98 (by omega) (by omega) ?_
            refine ew_i2l i155_99 (by omega) ?_
            refine ev_virt1 i155_100 g155_100 rfl (by decide +kernel) (Nat.le_of_ble_eq_true rfl) (m_isSaying hM (by omega) ?_)
            first
            | refine ew_ifeqB i155_103 (fun c103 => ?_) (fun c103 => ?_)
            | refine ew_ifeq i155_103 (by omega) (fun c103 => ?_) (fun c103 => ?_)
            · refine ew_iconst i155_140 ?_
              refine ev_ireturn i155_141 r155 ?_
              first | exact hK | exact zK hK (by omega)
            · refine ev_iloadn_1 i155_106 ?_
              refine ew_bipush i155_107 (by decide) ?_
              refine ew_irem i155_109 (by omega) (by omega) ?_
              refine ev_aloadn_0 i155_110 ?_
              refine ev_getA i155_111 g155_111 rfl rfl (by decide) ?_
              refine ev_iloadn_1 i155_114 ?_
              refine ew_bipush i155_115 (by decide) ?_
              refine ew_idiv i155_117 (by omega) (by omega) ?_
              refine ew_iaload i155_118 rfl (by omega) (by omega) (by omega) (by first | exact hM.men | exact hM.told | exact hM.road | exact hM.stand _ (by omega) (by omega) | exact hM.reach _ (by omega) (by omega) | exact hM.arm _ (by omega) (by omega) | exact hM.late _ (by omega) (by omega) | exact hM.len _ (by omega) (by omega) | exact hM.corn _ (by omega) (by omega) | exact hM.say (by omega) (by omega) _ (by omega) (by omega) | exact hM.tone _ (by omega) (by omega)) (fun b118 => ?_)
              refine ew_icmpge i155_119 (by omega) (fun c119 => ?_) (fun c119 => ?_)
              · refine ew_iconst i155_140 ?_
                refine ev_ireturn i155_141 r155 ?_
                first | exact hK | exact zK hK (by omega)
              · refine ew_bipush i155_122 (by decide) ?_
                refine ew_bipush i155_124 (by decide) ?_
                refine ev_iloadn_1 i155_126 ?_
                refine ew_bipush i155_127 (by decide) ?_
                refine ew_idiv i155_129 (by omega) (by omega) ?_
                refine ew_imul i155_130 ?_
                refine ew_iadd i155_131 ?_
                refine ev_iloadn_1 i155_132 ?_
                refine ew_bipush i155_133 (by decide) ?_
                refine ew_irem i155_135 (by omega) (by omega) ?_
                refine ew_iadd i155_136 ?_
                refine ev_goto i155_137 ?_
                refine ev_ireturn i155_141 r155 ?_
                first | exact hK | exact zK hK (by omega)
      · refine ev_iloadn_1 i155_73 ?_
        first
        | refine ew_ifneB i155_74 (fun c74 => ?_) (fun c74 => ?_)
        | refine ew_ifne i155_74 (by omega) (fun c74 => ?_) (fun c74 => ?_)
        · refine ew_iconst i155_82 ?_
          refine ev_ireturn i155_83 r155 ?_
          first | exact hK | exact zK hK (by omega)
        · refine ew_bipush i155_77 (by decide) ?_
          refine ev_goto i155_79 ?_
          refine ev_ireturn i155_83 r155 ?_
          first | exact hK | exact zK hK (by omega)
    · refine ev_aloadn_0 i155_43 ?_
      refine ev_iloadn_1 i155_44 ?_
      refine ew_i2l i155_45 (by omega) ?_
      refine ev_virt1 i155_46 g155_46 rfl (by decide +kernel) (Nat.le_of_ble_eq_true rfl) (m_isMan hM (by omega) ?_)
      first
      | refine ew_ifeqB i155_49 (fun c49 => ?_) (fun c49 => ?_)
      | refine ew_ifeq i155_49 (by omega) (fun c49 => ?_) (fun c49 => ?_)
      · refine ew_iconst i155_65 ?_
        refine ev_ireturn i155_66 r155 ?_
        first | exact hK | exact zK hK (by omega)
      · refine ew_bipush i155_52 (by decide) ?_
        refine ew_iconst i155_54 ?_
        refine ev_iloadn_2 i155_55 ?_
        refine ew_iconst i155_56 ?_
        refine ew_isub i155_57 ?_
        refine ew_imul i155_58 ?_
        refine ew_iadd i155_59 ?_
        refine ev_iloadn_1 i155_60 ?_
        refine ew_iadd i155_61 ?_
        refine ev_goto i155_62 ?_
        refine ev_ireturn i155_66 r155 ?_
        first | exact hK | exact zK hK (by omega)
  · refine ev_iloadn_1 i155_10 ?_
    refine ew_i2l i155_11 (by omega) ?_
    refine ev_stat1 i155_12 g155_12 (by decide +kernel) (Nat.le_of_ble_eq_true rfl) (m_isPlank (by omega) ?_)
    first
    | refine ew_ifeqB i155_15 (fun c15 => ?_) (fun c15 => ?_)
    | refine ew_ifeq i155_15 (by omega) (fun c15 => ?_) (fun c15 => ?_)
    · refine ew_iconst i155_27 ?_
      refine ev_ireturn i155_28 r155 ?_
      first | exact hK | exact zK hK (by omega)
    · refine ew_bipush i155_18 (by decide) ?_
      refine ev_iloadn_2 i155_20 ?_
      refine ew_imul i155_21 ?_
      refine ev_iloadn_1 i155_22 ?_
      refine ew_iadd i155_23 ?_
      refine ev_goto i155_24 ?_
      refine ev_ireturn i155_28 r155 ?_
      first | exact hK | exact zK hK (by omega)
theorem m_mostOf {w : Int} (hw : -2147483648 ≤ w ∧ w ≤ 2147483647) (hK : K (some (.int (zI (if 0 ≤ w ∧ w ≤ 7 then g_most w else 9)))) (I, L, ts_P0 sw, ts_S0)) : ts_Cal X (d + 1) 156 [.int (zI (w))] (I, L, ts_P0 sw, ts_S0) K := by
  unfold g_most at hK
  refine ev_enter (lv := [.int (zI (w))]) l156 rfl (Nat.le_of_ble_eq_true rfl) ?_
  refine ev_iloadn_0 i156_0 ?_
  rcases (show w = 0 ∨ w = 1 ∨ w = 2 ∨ w = 3 ∨ w = 4 ∨ w = 5 ∨ w = 6 ∨ w = 7 ∨ (w < 0 ∨ 7 < w) by omega) with c1 | c1 | c1 | c1 | c1 | c1 | c1 | c1 | c1
  · refine ew_sw (v := 0) i156_1 c1 (t := 48) (by decide) rfl ?_
    refine ew_bipush i156_48 (by decide) ?_
    refine ev_ireturn i156_50 r156 ?_
    first | exact hK | exact zK hK (by omega)
  · refine ew_sw (v := 1) i156_1 c1 (t := 63) (by decide) rfl ?_
    refine ew_bipush i156_63 (by decide) ?_
    refine ev_ireturn i156_65 r156 ?_
    first | exact hK | exact zK hK (by omega)
  · refine ew_sw (v := 2) i156_1 c1 (t := 51) (by decide) rfl ?_
    refine ew_bipush i156_51 (by decide) ?_
    refine ev_ireturn i156_53 r156 ?_
    first | exact hK | exact zK hK (by omega)
  · refine ew_sw (v := 3) i156_1 c1 (t := 54) (by decide) rfl ?_
    refine ew_bipush i156_54 (by decide) ?_
    refine ev_ireturn i156_56 r156 ?_
    first | exact hK | exact zK hK (by omega)
  · refine ew_sw (v := 4) i156_1 c1 (t := 57) (by decide) rfl ?_
    refine ew_bipush i156_57 (by decide) ?_
    refine ev_ireturn i156_59 r156 ?_
    first | exact hK | exact zK hK (by omega)
  · refine ew_sw (v := 5) i156_1 c1 (t := 63) (by decide) rfl ?_
    refine ew_bipush i156_63 (by decide) ?_
    refine ev_ireturn i156_65 r156 ?_
    first | exact hK | exact zK hK (by omega)
  · refine ew_sw (v := 6) i156_1 c1 (t := 60) (by decide) rfl ?_
    refine ew_bipush i156_60 (by decide) ?_
    refine ev_ireturn i156_62 r156 ?_
    first | exact hK | exact zK hK (by omega)
  · refine ew_sw (v := 7) i156_1 c1 (t := 48) (by decide) rfl ?_
    refine ew_bipush i156_48 (by decide) ?_
    refine ev_ireturn i156_50 r156 ?_
    first | exact hK | exact zK hK (by omega)
  · refine ew_tswD (t := 63) i156_1 (by omega) c1 (by decide) ?_
    refine ew_bipush i156_63 (by decide) ?_
    refine ev_ireturn i156_65 r156 ?_
    first | exact hK | exact zK hK (by omega)
theorem g_most_r (w : Int) : 0 ≤ g_most w ∧ g_most w ≤ 20 := by unfold g_most; omega
theorem m_of (hM : RM I f) {n w : Int} (hn : -2147483648 ≤ n ∧ n ≤ 2147483647) (hw : -2147483648 ≤ w ∧ w ≤ 2147483647) (hK : K (some (.int (zI (g_of f n w)))) (I, L, ts_P0 sw, ts_S0)) : ts_Cal X (d + 4) 158 [.ref 72, .int (zI (n)), .int (zI (w))] (I, L, ts_P0 sw, ts_S0) K := by
  have b2 := hM.told.2
  have hz : g_names f n w → 0 ≤ z_place n w ∧ z_place n w < 97 := z_place_r hM.men.2.2 hM.told.2.2 (fun p h0 h1 => (hM.len p h0 h1).2.2)
  have hnw : g_names f n w → ¬ w = 8 := fun q => by omega
  have hin : (if g_names f n w then z_place n w else -1) < 0 ↔ ¬ g_names f n w := by
    by_cases c : g_names f n w
    · have := hz c
      rw [if_pos c]
      exact ⟨fun q => by omega, fun q => absurd c q⟩
    · rw [if_neg c]
      exact ⟨fun _ => c, fun _ => by decide⟩
  have hzr : -2147483648 ≤ (if g_names f n w then z_place n w else -1) ∧ (if g_names f n w then z_place n w else -1) ≤ 2147483647 := by
    by_cases c : g_names f n w
    · have := hz c
      rw [if_pos c]
      omega
    · rw [if_neg c]
      decide
  unfold g_of at hK
  refine ev_enter (lv := [.ref 72, .int (zI (n)), .int (zI (w)), .null]) l158 rfl (Nat.le_of_ble_eq_true rfl) ?_
  refine ev_aloadn_0 i158_0 ?_
  refine ev_iloadn_1 i158_1 ?_
  refine ev_iloadn_2 i158_2 ?_
  refine ev_virt2 i158_3 g158_3 rfl (by decide +kernel) (Nat.le_of_ble_eq_true rfl) (m_placeOf hM hn hw ?_)
  refine ev_istoren_3 i158_6 rfl ?_
  refine ev_iloadn_3 i158_7 ?_
  refine ew_iflt i158_8 (hzr) (fun c8 => ?_) (fun c8 => ?_)
  · have c := hin.mp c8
    refine ev_iloadn_2 i158_20 ?_
    refine ew_bipush i158_21 (by decide) ?_
    refine ew_icmpne i158_23 (by omega) (fun c23 => ?_) (fun c23 => ?_)
    · refine ew_iconst i158_44 ?_
      refine ev_ireturn i158_45 r158 ?_
      first | exact hK | (rw [if_pos c23, if_neg c32] at hK; exact hK) | (rw [if_neg c23, if_neg c] at hK; exact hK)
    · refine ev_aloadn_0 i158_26 ?_
      refine ev_iloadn_1 i158_27 ?_
      refine ew_i2l i158_28 (by omega) ?_
      refine ev_virt1 i158_29 g158_29 rfl (by decide +kernel) (Nat.le_of_ble_eq_true rfl) (m_isSaying hM (by omega) ?_)
      first
      | refine ew_ifeqB i158_32 (fun c32 => ?_) (fun c32 => ?_)
      | refine ew_ifeq i158_32 (by omega) (fun c32 => ?_) (fun c32 => ?_)
      · refine ew_iconst i158_44 ?_
        refine ev_ireturn i158_45 r158 ?_
        first | exact hK | (rw [if_pos c23, if_neg c32] at hK; exact hK) | (rw [if_neg c23, if_neg c] at hK; exact hK)
      · rw [if_pos c23, if_pos c32] at hK
        refine ev_aloadn_0 i158_35 ?_
        refine ev_getA i158_36 g158_36 rfl rfl (by decide) ?_
        refine ev_iloadn_1 i158_39 ?_
        refine ew_iaload i158_40 rfl (by omega) (by omega) (by omega) (by first | exact hM.men | exact hM.told | exact hM.road | exact hM.stand _ (by omega) (by omega) | exact hM.reach _ (by omega) (by omega) | exact hM.arm _ (by omega) (by omega) | exact hM.late _ (by omega) (by omega) | exact hM.len _ (by omega) (by omega) | exact hM.corn _ (by omega) (by omega) | exact hM.say (by omega) (by omega) _ (by omega) (by omega) | exact hM.tone _ (by omega) (by omega)) (fun b40 => ?_)
        refine ev_goto i158_41 ?_
        refine ev_ireturn i158_45 r158 ?_
        first | exact hK | (rw [if_pos c23, if_neg c32] at hK; exact hK) | (rw [if_neg c23, if_neg c] at hK; exact hK)
  · have c := Decidable.of_not_not (fun q => c8 (hin.mpr q))
    have hz2 := hz c
    rw [if_neg (hnw c), if_pos c] at hK
    rw [if_pos c]
    refine ev_aloadn_0 i158_11 ?_
    refine ev_getA i158_12 g158_12 rfl rfl (by decide) ?_
    refine ev_iloadn_3 i158_15 ?_
    refine ew_iaload i158_16 rfl (by omega) (by omega) (by omega) ((hM.at c)) (fun b16 => ?_)
    refine ev_goto i158_17 ?_
    refine ev_ireturn i158_45 r158 ?_
    first | exact hK | (rw [if_pos c23, if_neg c32] at hK; exact hK) | (rw [if_neg c23, if_neg c] at hK; exact hK)
end FL1
