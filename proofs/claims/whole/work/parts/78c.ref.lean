theorem i160_0 : ts_ins 160 0 = some (.aload_n 0, 1, 0) := by decide +kernel
theorem i160_1 : ts_ins 160 1 = some (.getfield 149, 4, 0) := by decide +kernel
theorem g160_1 : ts_fm 160 149 = some (12, 14, 0) := by decide +kernel
theorem i160_4 : ts_ins 160 4 = some (.aload_n 0, 5, 0) := by decide +kernel
theorem i160_5 : ts_ins 160 5 = some (.getfield 152, 8, 0) := by decide +kernel
theorem g160_5 : ts_fm 160 152 = some (12, 15, 0) := by decide +kernel
theorem i160_8 : ts_ins 160 8 = some (.if_icmp .ge 39, 11, 47) := by decide +kernel
theorem i160_11 : ts_ins 160 11 = some (.aload_n 0, 12, 0) := by decide +kernel
theorem i160_12 : ts_ins 160 12 = some (.getfield 155, 15, 0) := by decide +kernel
theorem g160_12 : ts_fm 160 155 = some (12, 13, 0) := by decide +kernel
theorem i160_15 : ts_ins 160 15 = some (.ifCond .ge 15, 18, 30) := by decide +kernel
theorem i160_18 : ts_ins 160 18 = some (.aload_n 0, 19, 0) := by decide +kernel
theorem i160_19 : ts_ins 160 19 = some (.getfield 25, 22, 0) := by decide +kernel
theorem g160_19 : ts_fm 160 25 = some (12, 9, 2) := by decide +kernel
theorem i160_22 : ts_ins 160 22 = some (.aload_n 0, 23, 0) := by decide +kernel
theorem i160_23 : ts_ins 160 23 = some (.getfield 149, 26, 0) := by decide +kernel
theorem g160_23 : ts_fm 160 149 = some (12, 14, 0) := by decide +kernel
theorem i160_26 : ts_ins 160 26 = some (.iaload, 27, 0) := by decide +kernel
theorem i160_27 : ts_ins 160 27 = some (.goto 21, 30, 48) := by decide +kernel
theorem i160_30 : ts_ins 160 30 = some (.aload_n 0, 31, 0) := by decide +kernel
theorem i160_31 : ts_ins 160 31 = some (.getfield 28, 34, 0) := by decide +kernel
theorem g160_31 : ts_fm 160 28 = some (12, 11, 2) := by decide +kernel
theorem i160_34 : ts_ins 160 34 = some (.aload_n 0, 35, 0) := by decide +kernel
theorem i160_35 : ts_ins 160 35 = some (.getfield 155, 38, 0) := by decide +kernel
theorem g160_35 : ts_fm 160 155 = some (12, 13, 0) := by decide +kernel
theorem i160_38 : ts_ins 160 38 = some (.aload_n 0, 39, 0) := by decide +kernel
theorem i160_39 : ts_ins 160 39 = some (.getfield 149, 42, 0) := by decide +kernel
theorem g160_39 : ts_fm 160 149 = some (12, 14, 0) := by decide +kernel
theorem i160_42 : ts_ins 160 42 = some (.iadd, 43, 0) := by decide +kernel
theorem i160_43 : ts_ins 160 43 = some (.iaload, 44, 0) := by decide +kernel
theorem i160_44 : ts_ins 160 44 = some (.goto 4, 47, 48) := by decide +kernel
theorem i160_47 : ts_ins 160 47 = some (.iconst 0, 48, 0) := by decide +kernel
theorem i160_48 : ts_ins 160 48 = some (.ireturn, 49, 0) := by decide +kernel
theorem r160 : ts_rt 160 = ((some .int), 0, 0) := by decide +kernel
theorem l160 : ts_ml 160 = 1 := by decide +kernel
theorem i162_0 : ts_ins 162 0 = some (.aload_n 0, 1, 0) := by decide +kernel
theorem i162_1 : ts_ins 162 1 = some (.getfield 158, 4, 0) := by decide +kernel
theorem g162_1 : ts_fm 162 158 = some (12, 16, 0) := by decide +kernel
theorem i162_4 : ts_ins 162 4 = some (.ifCond .ge 11, 7, 15) := by decide +kernel
theorem i162_7 : ts_ins 162 7 = some (.aload_n 0, 8, 0) := by decide +kernel
theorem i162_8 : ts_ins 162 8 = some (.invokevirtual 161, 11, 0) := by decide +kernel
theorem g162_8 : ts_cal (ts_mc 162) 161 = some (0, 160, 0) := by decide +kernel
theorem i162_11 : ts_ins 162 11 = some (.iload_n 1, 12, 0) := by decide +kernel
theorem i162_12 : ts_ins 162 12 = some (.if_icmp .eq 5, 15, 17) := by decide +kernel
theorem i162_15 : ts_ins 162 15 = some (.iconst 0, 16, 0) := by decide +kernel
theorem i162_16 : ts_ins 162 16 = some (.ireturn, 17, 0) := by decide +kernel
theorem i162_17 : ts_ins 162 17 = some (.aload_n 0, 18, 0) := by decide +kernel
theorem i162_18 : ts_ins 162 18 = some (.dup, 19, 0) := by decide +kernel
theorem i162_19 : ts_ins 162 19 = some (.getfield 149, 22, 0) := by decide +kernel
theorem g162_19 : ts_fm 162 149 = some (12, 14, 0) := by decide +kernel
theorem i162_22 : ts_ins 162 22 = some (.iconst 1, 23, 0) := by decide +kernel
theorem i162_23 : ts_ins 162 23 = some (.iadd, 24, 0) := by decide +kernel
theorem i162_24 : ts_ins 162 24 = some (.putfield 149, 27, 0) := by decide +kernel
theorem g162_24 : ts_fmm 162 149 = some (12, 14, 0, false) := by decide +kernel
theorem i162_27 : ts_ins 162 27 = some (.iconst 1, 28, 0) := by decide +kernel
theorem i162_28 : ts_ins 162 28 = some (.ireturn, 29, 0) := by decide +kernel
theorem r162 : ts_rt 162 = ((some .boolean), 0, 0) := by decide +kernel
theorem l162 : ts_ml 162 = 2 := by decide +kernel
theorem i161_0 : ts_ins 161 0 = some (.aload_n 0, 1, 0) := by decide +kernel
theorem i161_1 : ts_ins 161 1 = some (.aload_n 0, 2, 0) := by decide +kernel
theorem i161_2 : ts_ins 161 2 = some (.getfield 158, 5, 0) := by decide +kernel
theorem g161_2 : ts_fm 161 158 = some (12, 16, 0) := by decide +kernel
theorem i161_5 : ts_ins 161 5 = some (.ifCond .ge 10, 8, 15) := by decide +kernel
theorem i161_8 : ts_ins 161 8 = some (.aload_n 0, 9, 0) := by decide +kernel
theorem i161_9 : ts_ins 161 9 = some (.getfield 149, 12, 0) := by decide +kernel
theorem g161_9 : ts_fm 161 149 = some (12, 14, 0) := by decide +kernel
theorem i161_12 : ts_ins 161 12 = some (.goto 7, 15, 19) := by decide +kernel
theorem i161_15 : ts_ins 161 15 = some (.aload_n 0, 16, 0) := by decide +kernel
theorem i161_16 : ts_ins 161 16 = some (.getfield 158, 19, 0) := by decide +kernel
theorem g161_16 : ts_fm 161 158 = some (12, 16, 0) := by decide +kernel
theorem i161_19 : ts_ins 161 19 = some (.putfield 158, 22, 0) := by decide +kernel
theorem g161_19 : ts_fmm 161 158 = some (12, 16, 0, false) := by decide +kernel
theorem i161_22 : ts_ins 161 22 = some (.iconst 0, 23, 0) := by decide +kernel
theorem i161_23 : ts_ins 161 23 = some (.ireturn, 24, 0) := by decide +kernel
theorem r161 : ts_rt 161 = ((some .int), 0, 0) := by decide +kernel
theorem l161 : ts_ml 161 = 1 := by decide +kernel
theorem i168_0 : ts_ins 168 0 = some (.iload_n 0, 1, 0) := by decide +kernel
theorem i168_1 : ts_ins 168 1 = some (.tableswitch 107 97 116 #[103, 105, 97, 107, 107, 107, 107, 107, 107, 107, 107, 107, 101, 107, 107, 107, 107, 99, 107, 95], 96, 0) := by decide +kernel
theorem i168_96 : ts_ins 168 96 = some (.iconst 0, 97, 0) := by decide +kernel
theorem i168_97 : ts_ins 168 97 = some (.ireturn, 98, 0) := by decide +kernel
theorem i168_98 : ts_ins 168 98 = some (.iconst 1, 99, 0) := by decide +kernel
theorem i168_99 : ts_ins 168 99 = some (.ireturn, 100, 0) := by decide +kernel
theorem i168_100 : ts_ins 168 100 = some (.iconst 2, 101, 0) := by decide +kernel
theorem i168_101 : ts_ins 168 101 = some (.ireturn, 102, 0) := by decide +kernel
theorem i168_102 : ts_ins 168 102 = some (.iconst 3, 103, 0) := by decide +kernel
theorem i168_103 : ts_ins 168 103 = some (.ireturn, 104, 0) := by decide +kernel
theorem i168_104 : ts_ins 168 104 = some (.iconst 4, 105, 0) := by decide +kernel
theorem i168_105 : ts_ins 168 105 = some (.ireturn, 106, 0) := by decide +kernel
theorem i168_106 : ts_ins 168 106 = some (.iconst 5, 107, 0) := by decide +kernel
theorem i168_107 : ts_ins 168 107 = some (.ireturn, 108, 0) := by decide +kernel
theorem i168_108 : ts_ins 168 108 = some (.iconst (-1), 109, 0) := by decide +kernel
theorem i168_109 : ts_ins 168 109 = some (.ireturn, 110, 0) := by decide +kernel
theorem r168 : ts_rt 168 = ((some .int), 0, 0) := by decide +kernel
theorem l168 : ts_ml 168 = 1 := by decide +kernel
theorem i163_0 : ts_ins 163 0 = some (.aload_n 0, 1, 0) := by decide +kernel
theorem i163_1 : ts_ins 163 1 = some (.invokevirtual 165, 4, 0) := by decide +kernel
theorem g163_1 : ts_cal (ts_mc 163) 165 = some (0, 164, 0) := by decide +kernel
theorem i163_4 : ts_ins 163 4 = some (.istore_n 1, 5, 0) := by decide +kernel
theorem i163_5 : ts_ins 163 5 = some (.aload_n 0, 6, 0) := by decide +kernel
theorem i163_6 : ts_ins 163 6 = some (.bipush 124, 8, 0) := by decide +kernel
theorem i163_8 : ts_ins 163 8 = some (.invokevirtual 168, 11, 0) := by decide +kernel
theorem g163_8 : ts_cal (ts_mc 163) 168 = some (0, 162, 1) := by decide +kernel
theorem i163_11 : ts_ins 163 11 = some (.ifCond .eq 25, 14, 36) := by decide +kernel
theorem i163_14 : ts_ins 163 14 = some (.aload_n 0, 15, 0) := by decide +kernel
theorem i163_15 : ts_ins 163 15 = some (.invokevirtual 165, 18, 0) := by decide +kernel
theorem g163_15 : ts_cal (ts_mc 163) 165 = some (0, 164, 0) := by decide +kernel
theorem i163_18 : ts_ins 163 18 = some (.istore_n 2, 19, 0) := by decide +kernel
theorem i163_19 : ts_ins 163 19 = some (.iload_n 1, 20, 0) := by decide +kernel
theorem i163_20 : ts_ins 163 20 = some (.ifCond .ne 7, 23, 27) := by decide +kernel
theorem i163_23 : ts_ins 163 23 = some (.iload_n 2, 24, 0) := by decide +kernel
theorem i163_24 : ts_ins 163 24 = some (.ifCond .eq 7, 27, 31) := by decide +kernel
theorem i163_27 : ts_ins 163 27 = some (.iconst 1, 28, 0) := by decide +kernel
theorem i163_28 : ts_ins 163 28 = some (.goto 4, 31, 32) := by decide +kernel
theorem i163_31 : ts_ins 163 31 = some (.iconst 0, 32, 0) := by decide +kernel
theorem i163_32 : ts_ins 163 32 = some (.istore_n 1, 33, 0) := by decide +kernel
theorem i163_33 : ts_ins 163 33 = some (.goto (-28), 36, 5) := by decide +kernel
theorem i163_36 : ts_ins 163 36 = some (.iload_n 1, 37, 0) := by decide +kernel
theorem i163_37 : ts_ins 163 37 = some (.ireturn, 38, 0) := by decide +kernel
theorem r163 : ts_rt 163 = ((some .int), 0, 0) := by decide +kernel
theorem l163 : ts_ml 163 = 3 := by decide +kernel
theorem i164_0 : ts_ins 164 0 = some (.aload_n 0, 1, 0) := by decide +kernel
theorem i164_1 : ts_ins 164 1 = some (.invokevirtual 171, 4, 0) := by decide +kernel
theorem g164_1 : ts_cal (ts_mc 164) 171 = some (0, 165, 0) := by decide +kernel
theorem i164_4 : ts_ins 164 4 = some (.istore_n 1, 5, 0) := by decide +kernel
theorem i164_5 : ts_ins 164 5 = some (.aload_n 0, 6, 0) := by decide +kernel
theorem i164_6 : ts_ins 164 6 = some (.bipush 38, 8, 0) := by decide +kernel
theorem i164_8 : ts_ins 164 8 = some (.invokevirtual 168, 11, 0) := by decide +kernel
theorem g164_8 : ts_cal (ts_mc 164) 168 = some (0, 162, 1) := by decide +kernel
theorem i164_11 : ts_ins 164 11 = some (.ifCond .eq 25, 14, 36) := by decide +kernel
theorem i164_14 : ts_ins 164 14 = some (.aload_n 0, 15, 0) := by decide +kernel
theorem i164_15 : ts_ins 164 15 = some (.invokevirtual 171, 18, 0) := by decide +kernel
theorem g164_15 : ts_cal (ts_mc 164) 171 = some (0, 165, 0) := by decide +kernel
theorem i164_18 : ts_ins 164 18 = some (.istore_n 2, 19, 0) := by decide +kernel
theorem i164_19 : ts_ins 164 19 = some (.iload_n 1, 20, 0) := by decide +kernel
theorem i164_20 : ts_ins 164 20 = some (.ifCond .eq 11, 23, 31) := by decide +kernel
theorem i164_23 : ts_ins 164 23 = some (.iload_n 2, 24, 0) := by decide +kernel
theorem i164_24 : ts_ins 164 24 = some (.ifCond .eq 7, 27, 31) := by decide +kernel
theorem i164_27 : ts_ins 164 27 = some (.iconst 1, 28, 0) := by decide +kernel
theorem i164_28 : ts_ins 164 28 = some (.goto 4, 31, 32) := by decide +kernel
theorem i164_31 : ts_ins 164 31 = some (.iconst 0, 32, 0) := by decide +kernel
theorem i164_32 : ts_ins 164 32 = some (.istore_n 1, 33, 0) := by decide +kernel
theorem i164_33 : ts_ins 164 33 = some (.goto (-28), 36, 5) := by decide +kernel
theorem i164_36 : ts_ins 164 36 = some (.iload_n 1, 37, 0) := by decide +kernel
theorem i164_37 : ts_ins 164 37 = some (.ireturn, 38, 0) := by decide +kernel
theorem r164 : ts_rt 164 = ((some .int), 0, 0) := by decide +kernel
theorem l164 : ts_ml 164 = 3 := by decide +kernel
theorem i166_0 : ts_ins 166 0 = some (.aload_n 0, 1, 0) := by decide +kernel
theorem i166_1 : ts_ins 166 1 = some (.invokevirtual 177, 4, 0) := by decide +kernel
theorem g166_1 : ts_cal (ts_mc 166) 177 = some (0, 167, 0) := by decide +kernel
theorem i166_4 : ts_ins 166 4 = some (.istore_n 1, 5, 0) := by decide +kernel
theorem i166_5 : ts_ins 166 5 = some (.aload_n 0, 6, 0) := by decide +kernel
theorem i166_6 : ts_ins 166 6 = some (.getfield 158, 9, 0) := by decide +kernel
theorem g166_6 : ts_fm 166 158 = some (12, 16, 0) := by decide +kernel
theorem i166_9 : ts_ins 166 9 = some (.ifCond .ge 68, 12, 77) := by decide +kernel
theorem i166_12 : ts_ins 166 12 = some (.aload_n 0, 13, 0) := by decide +kernel
theorem i166_13 : ts_ins 166 13 = some (.invokevirtual 161, 16, 0) := by decide +kernel
theorem g166_13 : ts_cal (ts_mc 166) 161 = some (0, 160, 0) := by decide +kernel
theorem i166_16 : ts_ins 166 16 = some (.bipush 43, 18, 0) := by decide +kernel
theorem i166_18 : ts_ins 166 18 = some (.if_icmp .eq 12, 21, 30) := by decide +kernel
theorem i166_21 : ts_ins 166 21 = some (.aload_n 0, 22, 0) := by decide +kernel
theorem i166_22 : ts_ins 166 22 = some (.invokevirtual 161, 25, 0) := by decide +kernel
theorem g166_22 : ts_cal (ts_mc 166) 161 = some (0, 160, 0) := by decide +kernel
theorem i166_25 : ts_ins 166 25 = some (.bipush 45, 27, 0) := by decide +kernel
theorem i166_27 : ts_ins 166 27 = some (.if_icmp .ne 50, 30, 77) := by decide +kernel
theorem i166_30 : ts_ins 166 30 = some (.aload_n 0, 31, 0) := by decide +kernel
theorem i166_31 : ts_ins 166 31 = some (.invokevirtual 161, 34, 0) := by decide +kernel
theorem g166_31 : ts_cal (ts_mc 166) 161 = some (0, 160, 0) := by decide +kernel
theorem i166_34 : ts_ins 166 34 = some (.bipush 43, 36, 0) := by decide +kernel
theorem i166_36 : ts_ins 166 36 = some (.if_icmp .ne 7, 39, 43) := by decide +kernel
theorem i166_39 : ts_ins 166 39 = some (.iconst 1, 40, 0) := by decide +kernel
theorem i166_40 : ts_ins 166 40 = some (.goto 4, 43, 44) := by decide +kernel
theorem i166_43 : ts_ins 166 43 = some (.iconst 0, 44, 0) := by decide +kernel
theorem i166_44 : ts_ins 166 44 = some (.istore_n 2, 45, 0) := by decide +kernel
theorem i166_45 : ts_ins 166 45 = some (.aload_n 0, 46, 0) := by decide +kernel
theorem i166_46 : ts_ins 166 46 = some (.dup, 47, 0) := by decide +kernel
theorem i166_47 : ts_ins 166 47 = some (.getfield 149, 50, 0) := by decide +kernel
theorem g166_47 : ts_fm 166 149 = some (12, 14, 0) := by decide +kernel
theorem i166_50 : ts_ins 166 50 = some (.iconst 1, 51, 0) := by decide +kernel
theorem i166_51 : ts_ins 166 51 = some (.iadd, 52, 0) := by decide +kernel
theorem i166_52 : ts_ins 166 52 = some (.putfield 149, 55, 0) := by decide +kernel
theorem g166_52 : ts_fmm 166 149 = some (12, 14, 0, false) := by decide +kernel
theorem i166_55 : ts_ins 166 55 = some (.aload_n 0, 56, 0) := by decide +kernel
theorem i166_56 : ts_ins 166 56 = some (.invokevirtual 177, 59, 0) := by decide +kernel
theorem g166_56 : ts_cal (ts_mc 166) 177 = some (0, 167, 0) := by decide +kernel
theorem i166_59 : ts_ins 166 59 = some (.istore_n 3, 60, 0) := by decide +kernel
theorem i166_60 : ts_ins 166 60 = some (.iload_n 2, 61, 0) := by decide +kernel
theorem i166_61 : ts_ins 166 61 = some (.ifCond .eq 9, 64, 70) := by decide +kernel
theorem i166_64 : ts_ins 166 64 = some (.iload_n 1, 65, 0) := by decide +kernel
theorem i166_65 : ts_ins 166 65 = some (.iload_n 3, 66, 0) := by decide +kernel
theorem i166_66 : ts_ins 166 66 = some (.iadd, 67, 0) := by decide +kernel
theorem i166_67 : ts_ins 166 67 = some (.goto 6, 70, 73) := by decide +kernel
theorem i166_70 : ts_ins 166 70 = some (.iload_n 1, 71, 0) := by decide +kernel
theorem i166_71 : ts_ins 166 71 = some (.iload_n 3, 72, 0) := by decide +kernel
theorem i166_72 : ts_ins 166 72 = some (.isub, 73, 0) := by decide +kernel
theorem i166_73 : ts_ins 166 73 = some (.istore_n 1, 74, 0) := by decide +kernel
theorem i166_74 : ts_ins 166 74 = some (.goto (-69), 77, 5) := by decide +kernel
theorem i166_77 : ts_ins 166 77 = some (.iload_n 1, 78, 0) := by decide +kernel
theorem i166_78 : ts_ins 166 78 = some (.ireturn, 79, 0) := by decide +kernel
theorem r166 : ts_rt 166 = ((some .int), 0, 0) := by decide +kernel
theorem l166 : ts_ml 166 = 4 := by decide +kernel
theorem i167_0 : ts_ins 167 0 = some (.aload_n 0, 1, 0) := by decide +kernel
theorem i167_1 : ts_ins 167 1 = some (.invokevirtual 180, 4, 0) := by decide +kernel
theorem g167_1 : ts_cal (ts_mc 167) 180 = some (0, 169, 0) := by decide +kernel
theorem i167_4 : ts_ins 167 4 = some (.istore_n 1, 5, 0) := by decide +kernel
theorem i167_5 : ts_ins 167 5 = some (.aload_n 0, 6, 0) := by decide +kernel
theorem i167_6 : ts_ins 167 6 = some (.invokevirtual 161, 9, 0) := by decide +kernel
theorem g167_6 : ts_cal (ts_mc 167) 161 = some (0, 160, 0) := by decide +kernel
theorem i167_9 : ts_ins 167 9 = some (.istore_n 2, 10, 0) := by decide +kernel
theorem i167_10 : ts_ins 167 10 = some (.aload_n 0, 11, 0) := by decide +kernel
theorem i167_11 : ts_ins 167 11 = some (.getfield 158, 14, 0) := by decide +kernel
theorem g167_11 : ts_fm 167 158 = some (12, 16, 0) := by decide +kernel
theorem i167_14 : ts_ins 167 14 = some (.ifCond .ge 80, 17, 94) := by decide +kernel
theorem i167_17 : ts_ins 167 17 = some (.iload_n 2, 18, 0) := by decide +kernel
theorem i167_18 : ts_ins 167 18 = some (.bipush 42, 20, 0) := by decide +kernel
theorem i167_20 : ts_ins 167 20 = some (.if_icmp .eq 15, 23, 35) := by decide +kernel
theorem i167_23 : ts_ins 167 23 = some (.iload_n 2, 24, 0) := by decide +kernel
theorem i167_24 : ts_ins 167 24 = some (.bipush 47, 26, 0) := by decide +kernel
theorem i167_26 : ts_ins 167 26 = some (.if_icmp .eq 9, 29, 35) := by decide +kernel
theorem i167_29 : ts_ins 167 29 = some (.iload_n 2, 30, 0) := by decide +kernel
theorem i167_30 : ts_ins 167 30 = some (.bipush 37, 32, 0) := by decide +kernel
theorem i167_32 : ts_ins 167 32 = some (.if_icmp .ne 62, 35, 94) := by decide +kernel
theorem i167_35 : ts_ins 167 35 = some (.aload_n 0, 36, 0) := by decide +kernel
theorem i167_36 : ts_ins 167 36 = some (.dup, 37, 0) := by decide +kernel
theorem i167_37 : ts_ins 167 37 = some (.getfield 149, 40, 0) := by decide +kernel
theorem g167_37 : ts_fm 167 149 = some (12, 14, 0) := by decide +kernel
theorem i167_40 : ts_ins 167 40 = some (.iconst 1, 41, 0) := by decide +kernel
theorem i167_41 : ts_ins 167 41 = some (.iadd, 42, 0) := by decide +kernel
theorem i167_42 : ts_ins 167 42 = some (.putfield 149, 45, 0) := by decide +kernel
theorem g167_42 : ts_fmm 167 149 = some (12, 14, 0, false) := by decide +kernel
theorem i167_45 : ts_ins 167 45 = some (.aload_n 0, 46, 0) := by decide +kernel
theorem i167_46 : ts_ins 167 46 = some (.invokevirtual 180, 49, 0) := by decide +kernel
theorem g167_46 : ts_cal (ts_mc 167) 180 = some (0, 169, 0) := by decide +kernel
theorem i167_49 : ts_ins 167 49 = some (.istore_n 3, 50, 0) := by decide +kernel
theorem i167_50 : ts_ins 167 50 = some (.iload_n 2, 51, 0) := by decide +kernel
theorem i167_51 : ts_ins 167 51 = some (.bipush 42, 53, 0) := by decide +kernel
theorem i167_53 : ts_ins 167 53 = some (.if_icmp .ne 9, 56, 62) := by decide +kernel
theorem i167_56 : ts_ins 167 56 = some (.iload_n 1, 57, 0) := by decide +kernel
theorem i167_57 : ts_ins 167 57 = some (.iload_n 3, 58, 0) := by decide +kernel
theorem i167_58 : ts_ins 167 58 = some (.imul, 59, 0) := by decide +kernel
theorem i167_59 : ts_ins 167 59 = some (.goto 26, 62, 85) := by decide +kernel
theorem i167_62 : ts_ins 167 62 = some (.iload_n 3, 63, 0) := by decide +kernel
theorem i167_63 : ts_ins 167 63 = some (.ifCond .ne 7, 66, 70) := by decide +kernel
theorem i167_66 : ts_ins 167 66 = some (.iconst 0, 67, 0) := by decide +kernel
theorem i167_67 : ts_ins 167 67 = some (.goto 18, 70, 85) := by decide +kernel
theorem i167_70 : ts_ins 167 70 = some (.iload_n 2, 71, 0) := by decide +kernel
theorem i167_71 : ts_ins 167 71 = some (.bipush 47, 73, 0) := by decide +kernel
theorem i167_73 : ts_ins 167 73 = some (.if_icmp .ne 9, 76, 82) := by decide +kernel
theorem i167_76 : ts_ins 167 76 = some (.iload_n 1, 77, 0) := by decide +kernel
theorem i167_77 : ts_ins 167 77 = some (.iload_n 3, 78, 0) := by decide +kernel
theorem i167_78 : ts_ins 167 78 = some (.idiv, 79, 0) := by decide +kernel
theorem i167_79 : ts_ins 167 79 = some (.goto 6, 82, 85) := by decide +kernel
theorem i167_82 : ts_ins 167 82 = some (.iload_n 1, 83, 0) := by decide +kernel
theorem i167_83 : ts_ins 167 83 = some (.iload_n 3, 84, 0) := by decide +kernel
theorem i167_84 : ts_ins 167 84 = some (.irem, 85, 0) := by decide +kernel
theorem i167_85 : ts_ins 167 85 = some (.istore_n 1, 86, 0) := by decide +kernel
theorem i167_86 : ts_ins 167 86 = some (.aload_n 0, 87, 0) := by decide +kernel
theorem i167_87 : ts_ins 167 87 = some (.invokevirtual 161, 90, 0) := by decide +kernel
theorem g167_87 : ts_cal (ts_mc 167) 161 = some (0, 160, 0) := by decide +kernel
theorem i167_90 : ts_ins 167 90 = some (.istore_n 2, 91, 0) := by decide +kernel
theorem i167_91 : ts_ins 167 91 = some (.goto (-81), 94, 10) := by decide +kernel
theorem i167_94 : ts_ins 167 94 = some (.iload_n 1, 95, 0) := by decide +kernel
theorem i167_95 : ts_ins 167 95 = some (.ireturn, 96, 0) := by decide +kernel
theorem r167 : ts_rt 167 = ((some .int), 0, 0) := by decide +kernel
theorem l167 : ts_ml 167 = 4 := by decide +kernel
theorem i165_0 : ts_ins 165 0 = some (.aload_n 0, 1, 0) := by decide +kernel
theorem i165_1 : ts_ins 165 1 = some (.invokevirtual 174, 4, 0) := by decide +kernel
theorem g165_1 : ts_cal (ts_mc 165) 174 = some (0, 166, 0) := by decide +kernel
theorem i165_4 : ts_ins 165 4 = some (.istore_n 1, 5, 0) := by decide +kernel
theorem i165_5 : ts_ins 165 5 = some (.aload_n 0, 6, 0) := by decide +kernel
theorem i165_6 : ts_ins 165 6 = some (.invokevirtual 161, 9, 0) := by decide +kernel
theorem g165_6 : ts_cal (ts_mc 165) 161 = some (0, 160, 0) := by decide +kernel
theorem i165_9 : ts_ins 165 9 = some (.istore_n 2, 10, 0) := by decide +kernel
theorem i165_10 : ts_ins 165 10 = some (.aload_n 0, 11, 0) := by decide +kernel
theorem i165_11 : ts_ins 165 11 = some (.getfield 158, 14, 0) := by decide +kernel
theorem g165_11 : ts_fm 165 158 = some (12, 16, 0) := by decide +kernel
theorem i165_14 : ts_ins 165 14 = some (.ifCond .ge 21, 17, 35) := by decide +kernel
theorem i165_17 : ts_ins 165 17 = some (.iload_n 2, 18, 0) := by decide +kernel
theorem i165_18 : ts_ins 165 18 = some (.bipush 60, 20, 0) := by decide +kernel
theorem i165_20 : ts_ins 165 20 = some (.if_icmp .eq 17, 23, 37) := by decide +kernel
theorem i165_23 : ts_ins 165 23 = some (.iload_n 2, 24, 0) := by decide +kernel
theorem i165_24 : ts_ins 165 24 = some (.bipush 61, 26, 0) := by decide +kernel
theorem i165_26 : ts_ins 165 26 = some (.if_icmp .eq 11, 29, 37) := by decide +kernel
theorem i165_29 : ts_ins 165 29 = some (.iload_n 2, 30, 0) := by decide +kernel
theorem i165_30 : ts_ins 165 30 = some (.bipush 62, 32, 0) := by decide +kernel
theorem i165_32 : ts_ins 165 32 = some (.if_icmp .eq 5, 35, 37) := by decide +kernel
theorem i165_35 : ts_ins 165 35 = some (.iload_n 1, 36, 0) := by decide +kernel
theorem i165_36 : ts_ins 165 36 = some (.ireturn, 37, 0) := by decide +kernel
theorem i165_37 : ts_ins 165 37 = some (.aload_n 0, 38, 0) := by decide +kernel
theorem i165_38 : ts_ins 165 38 = some (.dup, 39, 0) := by decide +kernel
theorem i165_39 : ts_ins 165 39 = some (.getfield 149, 42, 0) := by decide +kernel
theorem g165_39 : ts_fm 165 149 = some (12, 14, 0) := by decide +kernel
theorem i165_42 : ts_ins 165 42 = some (.iconst 1, 43, 0) := by decide +kernel
theorem i165_43 : ts_ins 165 43 = some (.iadd, 44, 0) := by decide +kernel
theorem i165_44 : ts_ins 165 44 = some (.putfield 149, 47, 0) := by decide +kernel
theorem g165_44 : ts_fmm 165 149 = some (12, 14, 0, false) := by decide +kernel
theorem i165_47 : ts_ins 165 47 = some (.aload_n 0, 48, 0) := by decide +kernel
theorem i165_48 : ts_ins 165 48 = some (.invokevirtual 174, 51, 0) := by decide +kernel
theorem g165_48 : ts_cal (ts_mc 165) 174 = some (0, 166, 0) := by decide +kernel
theorem i165_51 : ts_ins 165 51 = some (.istore_n 3, 52, 0) := by decide +kernel
theorem i165_52 : ts_ins 165 52 = some (.iload_n 2, 53, 0) := by decide +kernel
theorem i165_53 : ts_ins 165 53 = some (.bipush 60, 55, 0) := by decide +kernel
theorem i165_55 : ts_ins 165 55 = some (.if_icmp .ne 11, 58, 66) := by decide +kernel
theorem i165_58 : ts_ins 165 58 = some (.iload_n 1, 59, 0) := by decide +kernel
theorem i165_59 : ts_ins 165 59 = some (.iload_n 3, 60, 0) := by decide +kernel
theorem i165_60 : ts_ins 165 60 = some (.if_icmp .ge 29, 63, 89) := by decide +kernel
theorem i165_63 : ts_ins 165 63 = some (.goto 22, 66, 85) := by decide +kernel
theorem i165_66 : ts_ins 165 66 = some (.iload_n 2, 67, 0) := by decide +kernel
theorem i165_67 : ts_ins 165 67 = some (.bipush 61, 69, 0) := by decide +kernel
theorem i165_69 : ts_ins 165 69 = some (.if_icmp .ne 11, 72, 80) := by decide +kernel
theorem i165_72 : ts_ins 165 72 = some (.iload_n 1, 73, 0) := by decide +kernel
theorem i165_73 : ts_ins 165 73 = some (.iload_n 3, 74, 0) := by decide +kernel
theorem i165_74 : ts_ins 165 74 = some (.if_icmp .ne 15, 77, 89) := by decide +kernel
theorem i165_77 : ts_ins 165 77 = some (.goto 8, 80, 85) := by decide +kernel
theorem i165_80 : ts_ins 165 80 = some (.iload_n 1, 81, 0) := by decide +kernel
theorem i165_81 : ts_ins 165 81 = some (.iload_n 3, 82, 0) := by decide +kernel
theorem i165_82 : ts_ins 165 82 = some (.if_icmp .le 7, 85, 89) := by decide +kernel
theorem i165_85 : ts_ins 165 85 = some (.iconst 1, 86, 0) := by decide +kernel
theorem i165_86 : ts_ins 165 86 = some (.goto 4, 89, 90) := by decide +kernel
theorem i165_89 : ts_ins 165 89 = some (.iconst 0, 90, 0) := by decide +kernel
theorem i165_90 : ts_ins 165 90 = some (.ireturn, 91, 0) := by decide +kernel
theorem r165 : ts_rt 165 = ((some .int), 0, 0) := by decide +kernel
theorem l165 : ts_ml 165 = 4 := by decide +kernel
/-! THE TEXT of the law: the reference's reader -/
def t_by (n : Int) (tx : Int → Int) (p : Int) : Int := if p < n then tx p else 0
def BM (I : Nat → Nat → Int32) (b : Int) (tc : Nat) (n : Int) (tx : Int → Int) (p : Int) : Prop := (0 ≤ n ∧ n ≤ 120) ∧ ((b = -1 ∧ tc = 78) ∨ (b = 0 ∧ tc = 79)) ∧ rd (I 72 13) (-1) 0 b ∧ rd (I 72 15) 0 120 n ∧ ar I tc n 0 255 tx ∧ rd (I 72 14) 0 120 p
def SM (I : Nat → Nat → Int32) (b : Int) (tc : Nat) (n : Int) (tx : Int → Int) (p o : Int) (N : Int → Int) : Prop := BM I b tc n tx p ∧ rd (I 72 16) (-1) (-1) (-1) ∧ rd (I 72 17) 0 6 o ∧ ar I 80 6 (-2147483648) 2147483647 N
def FM (I : Nat → Nat → Int32) (b : Int) (tc : Nat) (n : Int) (tx : Int → Int) (q : Int) : Prop := BM I b tc n tx q ∧ rd (I 72 16) 0 120 q
theorem jn_124 (a b : Int) : jn 124 a b = if ¬ a = 0 ∨ ¬ b = 0 then 1 else 0 := if_pos rfl
theorem jn_38 (a b : Int) : jn 38 a b = if ¬ a = 0 ∧ ¬ b = 0 then 1 else 0 := rfl
theorem jn_60 (a b : Int) : jn 60 a b = if a < b then 1 else 0 := rfl
theorem jn_61 (a b : Int) : jn 61 a b = if a = b then 1 else 0 := rfl
theorem jn_62 (a b : Int) : jn 62 a b = if b < a then 1 else 0 := rfl
theorem jn_43 (a b : Int) : jn 43 a b = zw (a + b) := rfl
theorem jn_45 (a b : Int) : jn 45 a b = zw (a - b) := rfl
theorem jn_42 (a b : Int) : jn 42 a b = zw (a * b) := rfl
theorem jn_47 (a b : Int) : jn 47 a b = if b = 0 then 0 else zw (a.tdiv b) := rfl
theorem jn_37 (a b : Int) : jn 37 a b = if b = 0 then 0 else zw (a.tmod b) := rfl
section RF
variable {X : ts_X} {I J : Nat → Nat → Int32} {L : Nat → Nat → Int64} {sw : Bool} {K : Option Value → ts_H → Prop} {d : Nat} {b n p o : Int} {tc : Nat} {tx N : Int → Int}
theorem BM.nx_r (h : BM I b tc n tx p) (hp : 0 ≤ p) : (-1 ≤ t_nx n tx p ∧ t_nx n tx p ≤ 255) ∧ (0 ≤ t_by n tx p ∧ t_by n tx p ≤ 255) ∧ (t_nx n tx p = -1 → t_by n tx p = 0) ∧ (¬ t_nx n tx p = -1 → t_by n tx p = t_nx n tx p) := by
  unfold t_nx t_by
  by_cases c : p < n
  · have q := (h.2.2.2.2.1 p hp c).2
    rw [if_pos c, if_pos c]
    omega
  · rw [if_neg c, if_neg c]
    omega
theorem BM.sAt {q : Int} (h : BM I b tc n tx p) (hq : 0 ≤ q ∧ q ≤ 120) : BM (ts_up I 72 14 (zI q)) b tc n tx q := by
  refine ⟨h.1, h.2.1, ?_, ?_, ar_co h.2.2.2.2.1 (ts_up_na (by have := h.2.1; omega)), ?_⟩
  · rw [ts_up_nj (by decide)]; exact h.2.2.1
  · rw [ts_up_nj (by decide)]; exact h.2.2.2.1
  · rw [ts_up_e]; exact rd_zI hq
theorem BM.oth {k : Nat} {v : Int32} (h : BM I b tc n tx p) (hk : k = 16 ∨ k = 17) : BM (ts_up I 72 k v) b tc n tx p := by
  refine ⟨h.1, h.2.1, ?_, ?_, ar_co h.2.2.2.2.1 (ts_up_na (by have := h.2.1; omega)), ?_⟩
  · rw [ts_up_nj (by omega)]; exact h.2.2.1
  · rw [ts_up_nj (by omega)]; exact h.2.2.2.1
  · rw [ts_up_nj (by omega)]; exact h.2.2.2.2.2
theorem SM.sAt {q : Int} (h : SM I b tc n tx p o N) (hq : 0 ≤ q ∧ q ≤ 120) : SM (ts_up I 72 14 (zI q)) b tc n tx q o N := ⟨h.1.sAt hq, by rw [ts_up_nj (by decide)]; exact h.2.1, by rw [ts_up_nj (by decide)]; exact h.2.2.1, ar_co h.2.2.2 (ts_up_na (by decide))⟩
theorem SM.sOp {q : Int} (h : SM I b tc n tx p o N) (hq : 0 ≤ q ∧ q ≤ 6) : SM (ts_up I 72 17 (zI q)) b tc n tx p q N := ⟨h.1.oth (Or.inr rfl), by rw [ts_up_nj (by decide)]; exact h.2.1, by rw [ts_up_e]; exact rd_zI hq, ar_co h.2.2.2 (ts_up_na (by decide))⟩
theorem SM.bad (h : SM I b tc n tx p o N) : FM (ts_up I 72 16 (zI p)) b tc n tx p := ⟨h.1.oth (Or.inl rfl), by rw [ts_up_e]; exact rd_zI h.1.2.2.2.2.2.2⟩
theorem FM.sOp {v : Int32} (h : FM I b tc n tx p) : FM (ts_up I 72 17 v) b tc n tx p := ⟨h.1.oth (Or.inr rfl), by rw [ts_up_nj (by decide)]; exact h.2⟩
theorem FM.bad (h : FM I b tc n tx p) : FM (ts_up I 72 16 (zI p)) b tc n tx p := ⟨h.1.oth (Or.inl rfl), by rw [ts_up_e]; exact rd_zI h.1.2.2.2.2.2.2⟩
theorem m_byteAt (hB : BM I b tc n tx p) (hp : 0 ≤ p) (hK : K (some (.int (zI (t_by n tx p)))) (I, L, ts_P0 sw, ts_S0)) : ts_Cal X (d + 1) 160 [.ref 72] (I, L, ts_P0 sw, ts_S0) K := by
  have b1 := hB.1
  have h3 := hB.2.2.1
  have h4 := hB.2.2.2.1
  have h5 := hB.2.2.2.2.1
  have h6 := hB.2.2.2.2.2
  unfold t_by at hK
  rcases hB.2.1 with ⟨rfl, rfl⟩ | ⟨rfl, rfl⟩
  · refine ev_enter (lv := [.ref 72]) l160 rfl (Nat.le_of_ble_eq_true rfl) ?_
    refine ev_aloadn_0 i160_0 ?_
    refine ew_getI i160_1 g160_1 rfl (by first | exact h3 | exact h4 | exact h6 | exact h5 p hp (by omega) | exact hM.men | exact hM.told | exact hM.road | exact hM.stand _ (by omega) (by omega) | exact hM.reach _ (by omega) (by omega) | exact hM.arm _ (by omega) (by omega) | exact hM.late _ (by omega) (by omega) | exact hM.len _ (by omega) (by omega) | exact hM.corn _ (by omega) (by omega) | exact hM.say (by omega) (by omega) _ (by omega) (by omega) | exact hM.tone _ (by omega) (by omega)) (fun b1 => ?_)
    refine ev_aloadn_0 i160_4 ?_
    refine ew_getI i160_5 g160_5 rfl (by first | exact h3 | exact h4 | exact h6 | exact h5 p hp (by omega) | exact hM.men | exact hM.told | exact hM.road | exact hM.stand _ (by omega) (by omega) | exact hM.reach _ (by omega) (by omega) | exact hM.arm _ (by omega) (by omega) | exact hM.late _ (by omega) (by omega) | exact hM.len _ (by omega) (by omega) | exact hM.corn _ (by omega) (by omega) | exact hM.say (by omega) (by omega) _ (by omega) (by omega) | exact hM.tone _ (by omega) (by omega)) (fun b5 => ?_)
    refine ew_icmpge i160_8 (by omega) (fun c8 => ?_) (fun c8 => ?_)
    · refine ew_iconst i160_47 ?_
      refine ev_ireturn i160_48 r160 ?_
      first
      | (rw [if_pos (by omega)] at hK; exact hK)
      | (rw [if_neg (by omega)] at hK; exact hK)
    · refine ev_aloadn_0 i160_11 ?_
      refine ew_getI i160_12 g160_12 rfl (by first | exact h3 | exact h4 | exact h6 | exact h5 p hp (by omega) | exact hM.men | exact hM.told | exact hM.road | exact hM.stand _ (by omega) (by omega) | exact hM.reach _ (by omega) (by omega) | exact hM.arm _ (by omega) (by omega) | exact hM.late _ (by omega) (by omega) | exact hM.len _ (by omega) (by omega) | exact hM.corn _ (by omega) (by omega) | exact hM.say (by omega) (by omega) _ (by omega) (by omega) | exact hM.tone _ (by omega) (by omega)) (fun b12 => ?_)
      refine ew_ifge i160_15 (by omega) (fun c15 => ?_) (fun c15 => ?_)
      · exfalso; omega
      · refine ev_aloadn_0 i160_18 ?_
        refine ev_getA i160_19 g160_19 rfl rfl (by decide) ?_
        refine ev_aloadn_0 i160_22 ?_
        refine ew_getI i160_23 g160_23 rfl (by first | exact h3 | exact h4 | exact h6 | exact h5 p hp (by omega) | exact hM.men | exact hM.told | exact hM.road | exact hM.stand _ (by omega) (by omega) | exact hM.reach _ (by omega) (by omega) | exact hM.arm _ (by omega) (by omega) | exact hM.late _ (by omega) (by omega) | exact hM.len _ (by omega) (by omega) | exact hM.corn _ (by omega) (by omega) | exact hM.say (by omega) (by omega) _ (by omega) (by omega) | exact hM.tone _ (by omega) (by omega)) (fun b23 => ?_)
        refine ew_iaload i160_26 rfl (by omega) (by omega) (by omega) (by first | exact h3 | exact h4 | exact h6 | exact h5 p hp (by omega) | exact hM.men | exact hM.told | exact hM.road | exact hM.stand _ (by omega) (by omega) | exact hM.reach _ (by omega) (by omega) | exact hM.arm _ (by omega) (by omega) | exact hM.late _ (by omega) (by omega) | exact hM.len _ (by omega) (by omega) | exact hM.corn _ (by omega) (by omega) | exact hM.say (by omega) (by omega) _ (by omega) (by omega) | exact hM.tone _ (by omega) (by omega)) (fun b26 => ?_)
        refine ev_goto i160_27 ?_
        refine ev_ireturn i160_48 r160 ?_
        first
        | (rw [if_pos (by omega)] at hK; exact hK)
        | (rw [if_neg (by omega)] at hK; exact hK)
  · refine ev_enter (lv := [.ref 72]) l160 rfl (Nat.le_of_ble_eq_true rfl) ?_
    refine ev_aloadn_0 i160_0 ?_
    refine ew_getI i160_1 g160_1 rfl (by first | exact h3 | exact h4 | exact h6 | exact h5 p hp (by omega) | exact hM.men | exact hM.told | exact hM.road | exact hM.stand _ (by omega) (by omega) | exact hM.reach _ (by omega) (by omega) | exact hM.arm _ (by omega) (by omega) | exact hM.late _ (by omega) (by omega) | exact hM.len _ (by omega) (by omega) | exact hM.corn _ (by omega) (by omega) | exact hM.say (by omega) (by omega) _ (by omega) (by omega) | exact hM.tone _ (by omega) (by omega)) (fun b1 => ?_)
    refine ev_aloadn_0 i160_4 ?_
    refine ew_getI i160_5 g160_5 rfl (by first | exact h3 | exact h4 | exact h6 | exact h5 p hp (by omega) | exact hM.men | exact hM.told | exact hM.road | exact hM.stand _ (by omega) (by omega) | exact hM.reach _ (by omega) (by omega) | exact hM.arm _ (by omega) (by omega) | exact hM.late _ (by omega) (by omega) | exact hM.len _ (by omega) (by omega) | exact hM.corn _ (by omega) (by omega) | exact hM.say (by omega) (by omega) _ (by omega) (by omega) | exact hM.tone _ (by omega) (by omega)) (fun b5 => ?_)
    refine ew_icmpge i160_8 (by omega) (fun c8 => ?_) (fun c8 => ?_)
    · refine ew_iconst i160_47 ?_
      refine ev_ireturn i160_48 r160 ?_
      first
      | (rw [if_pos (by omega)] at hK; exact hK)
      | (rw [if_neg (by omega)] at hK; exact hK)
    · refine ev_aloadn_0 i160_11 ?_
      refine ew_getI i160_12 g160_12 rfl (by first | exact h3 | exact h4 | exact h6 | exact h5 p hp (by omega) | exact hM.men | exact hM.told | exact hM.road | exact hM.stand _ (by omega) (by omega) | exact hM.reach _ (by omega) (by omega) | exact hM.arm _ (by omega) (by omega) | exact hM.late _ (by omega) (by omega) | exact hM.len _ (by omega) (by omega) | exact hM.corn _ (by omega) (by omega) | exact hM.say (by omega) (by omega) _ (by omega) (by omega) | exact hM.tone _ (by omega) (by omega)) (fun b12 => ?_)
      refine ew_ifge i160_15 (by omega) (fun c15 => ?_) (fun c15 => ?_)
      · refine ev_aloadn_0 i160_30 ?_
        refine ev_getA i160_31 g160_31 rfl rfl (by decide) ?_
        refine ev_aloadn_0 i160_34 ?_
        refine ew_getI i160_35 g160_35 rfl (by first | exact h3 | exact h4 | exact h6 | exact h5 p hp (by omega) | exact hM.men | exact hM.told | exact hM.road | exact hM.stand _ (by omega) (by omega) | exact hM.reach _ (by omega) (by omega) | exact hM.arm _ (by omega) (by omega) | exact hM.late _ (by omega) (by omega) | exact hM.len _ (by omega) (by omega) | exact hM.corn _ (by omega) (by omega) | exact hM.say (by omega) (by omega) _ (by omega) (by omega) | exact hM.tone _ (by omega) (by omega)) (fun b35 => ?_)
        refine ev_aloadn_0 i160_38 ?_
        refine ew_getI i160_39 g160_39 rfl (by first | exact h3 | exact h4 | exact h6 | exact h5 p hp (by omega) | exact hM.men | exact hM.told | exact hM.road | exact hM.stand _ (by omega) (by omega) | exact hM.reach _ (by omega) (by omega) | exact hM.arm _ (by omega) (by omega) | exact hM.late _ (by omega) (by omega) | exact hM.len _ (by omega) (by omega) | exact hM.corn _ (by omega) (by omega) | exact hM.say (by omega) (by omega) _ (by omega) (by omega) | exact hM.tone _ (by omega) (by omega)) (fun b39 => ?_)
        refine ew_iadd i160_42 ?_
        rw [Int.zero_add]
        refine ew_iaload i160_43 rfl (by omega) (by omega) (by omega) (by first | exact h3 | exact h4 | exact h6 | exact h5 p hp (by omega) | exact hM.men | exact hM.told | exact hM.road | exact hM.stand _ (by omega) (by omega) | exact hM.reach _ (by omega) (by omega) | exact hM.arm _ (by omega) (by omega) | exact hM.late _ (by omega) (by omega) | exact hM.len _ (by omega) (by omega) | exact hM.corn _ (by omega) (by omega) | exact hM.say (by omega) (by omega) _ (by omega) (by omega) | exact hM.tone _ (by omega) (by omega)) (fun b43 => ?_)
        refine ev_goto i160_44 ?_
        refine ev_ireturn i160_48 r160 ?_
        first
        | (rw [if_pos (by omega)] at hK; exact hK)
        | (rw [if_neg (by omega)] at hK; exact hK)
      · exfalso; omega
theorem m_takes (hS : SM I b tc n tx p o N) (hp : 0 ≤ p) {c : Int} (hc : 1 ≤ c ∧ c ≤ 255) (hK : ∀ J, fr frw I J → (t_nx n tx p = c → SM J b tc n tx (p + 1) o N) → (¬ t_nx n tx p = c → SM J b tc n tx p o N) → K (some (.int (zI (if t_nx n tx p = c then 1 else 0)))) (J, L, ts_P0 sw, ts_S0)) : ts_Cal X (d + 2) 162 [.ref 72, .int (zI (c))] (I, L, ts_P0 sw, ts_S0) K := by
  have b1 := hS.1.1
  have r := hS.1.nx_r hp
  refine ev_enter (lv := [.ref 72, .int (zI (c))]) l162 rfl (Nat.le_of_ble_eq_true rfl) ?_
  refine ev_aloadn_0 i162_0 ?_
  refine ew_getI i162_1 g162_1 rfl (by first | exact hS.2.1 | exact hS.1.2.2.2.2.2 | exact hM.men | exact hM.told | exact hM.road | exact hM.stand _ (by omega) (by omega) | exact hM.reach _ (by omega) (by omega) | exact hM.arm _ (by omega) (by omega) | exact hM.late _ (by omega) (by omega) | exact hM.len _ (by omega) (by omega) | exact hM.corn _ (by omega) (by omega) | exact hM.say (by omega) (by omega) _ (by omega) (by omega) | exact hM.tone _ (by omega) (by omega)) (fun b1 => ?_)
  refine ew_ifge i162_4 (by omega) (fun c4 => ?_) (fun c4 => ?_)
  · refine ew_iconst i162_15 ?_
    first
    | (exfalso; omega)
    | (refine ew_zreturn i162_16 r162 ?_ (hK I (fr_rfl _ _) (fun e => absurd e (by omega)) (fun _ => hS))
       omega)
  · refine ev_aloadn_0 i162_7 ?_
    refine ev_virt0 i162_8 g162_8 rfl (by decide +kernel) (Nat.le_of_ble_eq_true rfl) (m_byteAt hS.1 hp ?_)
    refine ev_iloadn_1 i162_11 ?_
    refine ew_icmpeq i162_12 (by omega) (fun c12 => ?_) (fun c12 => ?_)
    · refine ev_aloadn_0 i162_17 ?_
      refine ev_dup i162_18 rfl ?_
      refine ew_getI i162_19 g162_19 rfl (by first | exact hS.2.1 | exact hS.1.2.2.2.2.2 | exact hM.men | exact hM.told | exact hM.road | exact hM.stand _ (by omega) (by omega) | exact hM.reach _ (by omega) (by omega) | exact hM.arm _ (by omega) (by omega) | exact hM.late _ (by omega) (by omega) | exact hM.len _ (by omega) (by omega) | exact hM.corn _ (by omega) (by omega) | exact hM.say (by omega) (by omega) _ (by omega) (by omega) | exact hM.tone _ (by omega) (by omega)) (fun b19 => ?_)
      refine ew_iconst i162_22 ?_
      refine ew_iadd i162_23 ?_
      refine ev_putI i162_24 g162_24 rfl ?_
      refine ew_iconst i162_27 ?_
      have lt := t_nx_lt (n := n) (tx := tx) (p := p) (by omega)
      refine ew_zreturn i162_28 r162 ?_ (hK _ (fr_up (fr_rfl _ _) ⟨rfl, by decide, by decide⟩) (fun _ => hS.sAt (by omega)) (fun e => absurd (by omega) e))
      omega
    · refine ew_iconst i162_15 ?_
      first
      | (exfalso; omega)
      | (refine ew_zreturn i162_16 r162 ?_ (hK I (fr_rfl _ _) (fun e => absurd e (by omega)) (fun _ => hS))
         omega)
theorem m_takesF (hS : FM I b tc n tx p) {c : Int} (hc : 1 ≤ c ∧ c ≤ 255) (hK : K (some (.int (zI (0)))) (I, L, ts_P0 sw, ts_S0)) : ts_Cal X (d + 2) 162 [.ref 72, .int (zI (c))] (I, L, ts_P0 sw, ts_S0) K := by
  refine ev_enter (lv := [.ref 72, .int (zI (c))]) l162 rfl (Nat.le_of_ble_eq_true rfl) ?_
  refine ev_aloadn_0 i162_0 ?_
  refine ew_getI i162_1 g162_1 rfl (by first | exact hS.2 | exact hM.men | exact hM.told | exact hM.road | exact hM.stand _ (by omega) (by omega) | exact hM.reach _ (by omega) (by omega) | exact hM.arm _ (by omega) (by omega) | exact hM.late _ (by omega) (by omega) | exact hM.len _ (by omega) (by omega) | exact hM.corn _ (by omega) (by omega) | exact hM.say (by omega) (by omega) _ (by omega) (by omega) | exact hM.tone _ (by omega) (by omega)) (fun b1 => ?_)
  refine ew_ifge i162_4 (by omega) (fun c4 => ?_) (fun c4 => ?_)
  · refine ew_iconst i162_15 ?_
    exact ev_zreturn i162_16 r162 (by decide) hK
  · exfalso; omega
theorem m_wrong (hS : SM I b tc n tx p o N) (hK : ∀ J, fr frw I J → FM J b tc n tx p → K (some (.int (zI (0)))) (J, L, ts_P0 sw, ts_S0)) : ts_Cal X (d + 1) 161 [.ref 72] (I, L, ts_P0 sw, ts_S0) K := by
  refine ev_enter (lv := [.ref 72]) l161 rfl (Nat.le_of_ble_eq_true rfl) ?_
  refine ev_aloadn_0 i161_0 ?_
  refine ev_aloadn_0 i161_1 ?_
  refine ew_getI i161_2 g161_2 rfl (by first | exact hS.2.1 | exact hS.1.2.2.2.2.2 | exact hM.men | exact hM.told | exact hM.road | exact hM.stand _ (by omega) (by omega) | exact hM.reach _ (by omega) (by omega) | exact hM.arm _ (by omega) (by omega) | exact hM.late _ (by omega) (by omega) | exact hM.len _ (by omega) (by omega) | exact hM.corn _ (by omega) (by omega) | exact hM.say (by omega) (by omega) _ (by omega) (by omega) | exact hM.tone _ (by omega) (by omega)) (fun b2 => ?_)
  refine ew_ifge i161_5 (by omega) (fun c5 => ?_) (fun c5 => ?_)
  · exfalso; omega
  · refine ev_aloadn_0 i161_8 ?_
    refine ew_getI i161_9 g161_9 rfl (by first | exact hS.2.1 | exact hS.1.2.2.2.2.2 | exact hM.men | exact hM.told | exact hM.road | exact hM.stand _ (by omega) (by omega) | exact hM.reach _ (by omega) (by omega) | exact hM.arm _ (by omega) (by omega) | exact hM.late _ (by omega) (by omega) | exact hM.len _ (by omega) (by omega) | exact hM.corn _ (by omega) (by omega) | exact hM.say (by omega) (by omega) _ (by omega) (by omega) | exact hM.tone _ (by omega) (by omega)) (fun b9 => ?_)
    refine ev_goto i161_12 ?_
    refine ev_putI i161_19 g161_19 rfl ?_
    refine ew_iconst i161_22 ?_
    refine ev_ireturn i161_23 r161 ?_
    exact hK _ (fr_up (fr_rfl _ _) ⟨rfl, by decide, by decide⟩) hS.bad
theorem m_wrongF (hS : FM I b tc n tx p) (hK : ∀ J, fr frw I J → FM J b tc n tx p → K (some (.int (zI (0)))) (J, L, ts_P0 sw, ts_S0)) : ts_Cal X (d + 1) 161 [.ref 72] (I, L, ts_P0 sw, ts_S0) K := by
  refine ev_enter (lv := [.ref 72]) l161 rfl (Nat.le_of_ble_eq_true rfl) ?_
  refine ev_aloadn_0 i161_0 ?_
  refine ev_aloadn_0 i161_1 ?_
  refine ew_getI i161_2 g161_2 rfl (by first | exact hS.2 | exact hM.men | exact hM.told | exact hM.road | exact hM.stand _ (by omega) (by omega) | exact hM.reach _ (by omega) (by omega) | exact hM.arm _ (by omega) (by omega) | exact hM.late _ (by omega) (by omega) | exact hM.len _ (by omega) (by omega) | exact hM.corn _ (by omega) (by omega) | exact hM.say (by omega) (by omega) _ (by omega) (by omega) | exact hM.tone _ (by omega) (by omega)) (fun b2 => ?_)
  refine ew_ifge i161_5 (by omega) (fun c5 => ?_) (fun c5 => ?_)
  · refine ev_aloadn_0 i161_15 ?_
    refine ew_getI i161_16 g161_16 rfl (by first | exact hS.2 | exact hM.men | exact hM.told | exact hM.road | exact hM.stand _ (by omega) (by omega) | exact hM.reach _ (by omega) (by omega) | exact hM.arm _ (by omega) (by omega) | exact hM.late _ (by omega) (by omega) | exact hM.len _ (by omega) (by omega) | exact hM.corn _ (by omega) (by omega) | exact hM.say (by omega) (by omega) _ (by omega) (by omega) | exact hM.tone _ (by omega) (by omega)) (fun b16 => ?_)
    refine ev_putI i161_19 g161_19 rfl ?_
    refine ew_iconst i161_22 ?_
    refine ev_ireturn i161_23 r161 ?_
    exact hK _ (fr_up (fr_rfl _ _) ⟨rfl, by decide, by decide⟩) hS.bad
  · exfalso; omega
theorem m_nameOf {c : Int} (hc : 0 ≤ c ∧ c ≤ 255) (hK : K (some (.int (zI (nmi c)))) (I, L, ts_P0 sw, ts_S0)) : ts_Cal X (d + 1) 168 [.int (zI (c))] (I, L, ts_P0 sw, ts_S0) K := by
  refine ev_enter (lv := [.int (zI (c))]) l168 rfl (Nat.le_of_ble_eq_true rfl) ?_
  refine ev_iloadn_0 i168_0 ?_
  rcases (show c = 97 ∨ c = 98 ∨ c = 99 ∨ c = 100 ∨ c = 101 ∨ c = 102 ∨ c = 103 ∨ c = 104 ∨ c = 105 ∨ c = 106 ∨ c = 107 ∨ c = 108 ∨ c = 109 ∨ c = 110 ∨ c = 111 ∨ c = 112 ∨ c = 113 ∨ c = 114 ∨ c = 115 ∨ c = 116 ∨ (c < 97 ∨ 116 < c) by omega) with c1 | c1 | c1 | c1 | c1 | c1 | c1 | c1 | c1 | c1 | c1 | c1 | c1 | c1 | c1 | c1 | c1 | c1 | c1 | c1 | c1
  · refine ew_sw (v := 97) i168_1 c1 (t := 104) (by decide) rfl ?_
    refine ew_iconst i168_104 ?_
    refine ev_ireturn i168_105 r168 ?_
    exact zK hK (by unfold nmi; omega)
  · refine ew_sw (v := 98) i168_1 c1 (t := 106) (by decide) rfl ?_
    refine ew_iconst i168_106 ?_
    refine ev_ireturn i168_107 r168 ?_
    exact zK hK (by unfold nmi; omega)
  · refine ew_sw (v := 99) i168_1 c1 (t := 98) (by decide) rfl ?_
    refine ew_iconst i168_98 ?_
    refine ev_ireturn i168_99 r168 ?_
    exact zK hK (by unfold nmi; omega)
  · refine ew_sw (v := 100) i168_1 c1 (t := 108) (by decide) rfl ?_
    refine ew_iconst i168_108 ?_
    refine ev_ireturn i168_109 r168 ?_
    exact zK hK (by unfold nmi; omega)
  · refine ew_sw (v := 101) i168_1 c1 (t := 108) (by decide) rfl ?_
    refine ew_iconst i168_108 ?_
    refine ev_ireturn i168_109 r168 ?_
    exact zK hK (by unfold nmi; omega)
  · refine ew_sw (v := 102) i168_1 c1 (t := 108) (by decide) rfl ?_
    refine ew_iconst i168_108 ?_
    refine ev_ireturn i168_109 r168 ?_
    exact zK hK (by unfold nmi; omega)
  · refine ew_sw (v := 103) i168_1 c1 (t := 108) (by decide) rfl ?_
    refine ew_iconst i168_108 ?_
    refine ev_ireturn i168_109 r168 ?_
    exact zK hK (by unfold nmi; omega)
  · refine ew_sw (v := 104) i168_1 c1 (t := 108) (by decide) rfl ?_
    refine ew_iconst i168_108 ?_
    refine ev_ireturn i168_109 r168 ?_
    exact zK hK (by unfold nmi; omega)
  · refine ew_sw (v := 105) i168_1 c1 (t := 108) (by decide) rfl ?_
    refine ew_iconst i168_108 ?_
    refine ev_ireturn i168_109 r168 ?_
    exact zK hK (by unfold nmi; omega)
  · refine ew_sw (v := 106) i168_1 c1 (t := 108) (by decide) rfl ?_
    refine ew_iconst i168_108 ?_
    refine ev_ireturn i168_109 r168 ?_
    exact zK hK (by unfold nmi; omega)
  · refine ew_sw (v := 107) i168_1 c1 (t := 108) (by decide) rfl ?_
    refine ew_iconst i168_108 ?_
    refine ev_ireturn i168_109 r168 ?_
    exact zK hK (by unfold nmi; omega)
  · refine ew_sw (v := 108) i168_1 c1 (t := 108) (by decide) rfl ?_
    refine ew_iconst i168_108 ?_
    refine ev_ireturn i168_109 r168 ?_
    exact zK hK (by unfold nmi; omega)
  · refine ew_sw (v := 109) i168_1 c1 (t := 102) (by decide) rfl ?_
    refine ew_iconst i168_102 ?_
    refine ev_ireturn i168_103 r168 ?_
    exact zK hK (by unfold nmi; omega)
  · refine ew_sw (v := 110) i168_1 c1 (t := 108) (by decide) rfl ?_
    refine ew_iconst i168_108 ?_
    refine ev_ireturn i168_109 r168 ?_
    exact zK hK (by unfold nmi; omega)
  · refine ew_sw (v := 111) i168_1 c1 (t := 108) (by decide) rfl ?_
    refine ew_iconst i168_108 ?_
    refine ev_ireturn i168_109 r168 ?_
    exact zK hK (by unfold nmi; omega)
  · refine ew_sw (v := 112) i168_1 c1 (t := 108) (by decide) rfl ?_
    refine ew_iconst i168_108 ?_
    refine ev_ireturn i168_109 r168 ?_
    exact zK hK (by unfold nmi; omega)
  · refine ew_sw (v := 113) i168_1 c1 (t := 108) (by decide) rfl ?_
    refine ew_iconst i168_108 ?_
    refine ev_ireturn i168_109 r168 ?_
    exact zK hK (by unfold nmi; omega)
  · refine ew_sw (v := 114) i168_1 c1 (t := 100) (by decide) rfl ?_
    refine ew_iconst i168_100 ?_
    refine ev_ireturn i168_101 r168 ?_
    exact zK hK (by unfold nmi; omega)
  · refine ew_sw (v := 115) i168_1 c1 (t := 108) (by decide) rfl ?_
    refine ew_iconst i168_108 ?_
    refine ev_ireturn i168_109 r168 ?_
    exact zK hK (by unfold nmi; omega)
  · refine ew_sw (v := 116) i168_1 c1 (t := 96) (by decide) rfl ?_
    refine ew_iconst i168_96 ?_
    refine ev_ireturn i168_97 r168 ?_
    exact zK hK (by unfold nmi; omega)
  · refine ew_tswD (t := 108) i168_1 (by omega) c1 (by decide) ?_
    refine ew_iconst i168_108 ?_
    refine ev_ireturn i168_109 r168 ?_
    exact zK hK (by unfold nmi; omega)
end RF
/-! contracts of the readers, from above -/
abbrev CP : Type := ts_X → Nat → (Nat → Nat → Int32) → (Nat → Nat → Int64) → Bool → (Option Value → ts_H → Prop) → Prop
abbrev LPr : Type := ts_X → Nat → (Nat → Nat → Int32) → (Nat → Nat → Int64) → Bool → (Option Value → ts_H → Prop) → Int → Int → Prop
def CMs (E : Nat) (cm : CP) (n : Int) (tx : Int → Int) (p o q : Int) (v : (Int → Int) → Int) : Prop := ∀ (X : ts_X) (d : Nat) (I : Nat → Nat → Int32) (L : Nat → Nat → Int64) (sw : Bool) (K : Option Value → ts_H → Prop) (N : Int → Int) (b : Int) (tc : Nat), E ≤ d → SM I b tc n tx p o N → (∀ J, fr frw I J → SM J b tc n tx q o N → K (some (.int (zI (v N)))) (J, L, ts_P0 sw, ts_S0)) → cm X d I L sw K
def CMf (E : Nat) (cm : CP) (n : Int) (tx : Int → Int) (p o q : Int) : Prop := ∀ (X : ts_X) (d : Nat) (I : Nat → Nat → Int32) (L : Nat → Nat → Int64) (sw : Bool) (K : Option Value → ts_H → Prop) (N : Int → Int) (b : Int) (tc : Nat), E ≤ d → SM I b tc n tx p o N → (∀ J r, fr frw I J → FM J b tc n tx q → -2147483648 ≤ r ∧ r ≤ 2147483647 → K (some (.int (zI (r)))) (J, L, ts_P0 sw, ts_S0)) → cm X d I L sw K
def Rend (lv : Int) (R : LPr) (n : Int) (tx : Int → Int) (o : Int) : Prop := ∀ (X : ts_X) (d : Nat) (I : Nat → Nat → Int32) (L : Nat → Nat → Int64) (sw : Bool) (K : Option Value → ts_H → Prop) (N : Int → Int) (b : Int) (tc : Nat) (p v : Int), 8 ≤ d → 0 ≤ p → SM I b tc n tx p o N → ¬ lof (t_nx n tx p) = lv → (∀ J, fr frw I J → SM J b tc n tx p o N → K (some (.int (zI (v)))) (J, L, ts_P0 sw, ts_S0)) → R X d I L sw K p v
def Rstep (lv : Int) (R : LPr) (E : Nat) (cm : CP) (n : Int) (tx : Int → Int) (o : Int) : Prop := ∀ (X : ts_X) (d : Nat) (I : Nat → Nat → Int32) (L : Nat → Nat → Int64) (sw : Bool) (K : Option Value → ts_H → Prop) (N : Int → Int) (b : Int) (tc : Nat) (p v q : Int) (w : (Int → Int) → Int), 8 ≤ d → E ≤ d → 0 ≤ p → 0 ≤ q → SM I b tc n tx p o N → lof (t_nx n tx p) = lv → CMs E cm n tx (p + 1) o q w → -2147483648 ≤ v ∧ v ≤ 2147483647 → -2147483648 ≤ w N ∧ w N ≤ 2147483647 → (∀ J, fr frw I J → SM J b tc n tx q o N → R X (d + 1) J L sw K q (jn (t_nx n tx p) v (w N))) → R X (d + 1) I L sw K p v
def Rfail (lv : Int) (R : LPr) (E : Nat) (cm : CP) (n : Int) (tx : Int → Int) (o : Int) : Prop := ∀ (X : ts_X) (d : Nat) (I : Nat → Nat → Int32) (L : Nat → Nat → Int64) (sw : Bool) (K : Option Value → ts_H → Prop) (N : Int → Int) (b : Int) (tc : Nat) (p v q : Int), 8 ≤ d → E ≤ d → 0 ≤ p → 0 ≤ q → SM I b tc n tx p o N → lof (t_nx n tx p) = lv → CMf E cm n tx (p + 1) o q → -2147483648 ≤ v ∧ v ≤ 2147483647 → (∀ J r, fr frw I J → FM J b tc n tx q → -2147483648 ≤ r ∧ r ≤ 2147483647 → K (some (.int (zI (r)))) (J, L, ts_P0 sw, ts_S0)) → R X (d + 1) I L sw K p v
def Rent (R : LPr) (E : Nat) (cm cm' : CP) (n : Int) (tx : Int → Int) (o : Int) : Prop := ∀ (X : ts_X) (d : Nat) (I : Nat → Nat → Int32) (L : Nat → Nat → Int64) (sw : Bool) (K : Option Value → ts_H → Prop) (N : Int → Int) (b : Int) (tc : Nat) (p q : Int) (w : (Int → Int) → Int), 8 ≤ d → E ≤ d → 0 ≤ q → SM I b tc n tx p o N → CMs E cm' n tx p o q w → (∀ J, fr frw I J → SM J b tc n tx q o N → R X (d + 1) J L sw K q (w N)) → cm X (d + 1) I L sw K
def Rentf (E : Nat) (cm cm' : CP) (n : Int) (tx : Int → Int) (o : Int) : Prop := ∀ (X : ts_X) (d : Nat) (I : Nat → Nat → Int32) (L : Nat → Nat → Int64) (sw : Bool) (K : Option Value → ts_H → Prop) (N : Int → Int) (b : Int) (tc : Nat) (p q : Int), 8 ≤ d → E ≤ d → 0 ≤ q → SM I b tc n tx p o N → CMf E cm' n tx p o q → (∀ J r, fr frw I J → FM J b tc n tx q → -2147483648 ≤ r ∧ r ≤ 2147483647 → K (some (.int (zI (r)))) (J, L, ts_P0 sw, ts_S0)) → cm X (d + 1) I L sw K
abbrev cm0 : CP := fun X d I L sw K => ts_Cal X (d + 1) 163 [.ref 72] (I, L, ts_P0 sw, ts_S0) K
abbrev cm1 : CP := fun X d I L sw K => ts_Cal X (d + 1) 164 [.ref 72] (I, L, ts_P0 sw, ts_S0) K
abbrev cm2 : CP := fun X d I L sw K => ts_Cal X (d + 1) 165 [.ref 72] (I, L, ts_P0 sw, ts_S0) K
abbrev cm3 : CP := fun X d I L sw K => ts_Cal X (d + 1) 166 [.ref 72] (I, L, ts_P0 sw, ts_S0) K
abbrev cm4 : CP := fun X d I L sw K => ts_Cal X (d + 1) 167 [.ref 72] (I, L, ts_P0 sw, ts_S0) K
abbrev cm5 : CP := fun X d I L sw K => ts_Cal X (d + 1) 169 [.ref 72] (I, L, ts_P0 sw, ts_S0) K
abbrev RL0 : LPr := fun X d I L sw K _ v => ∀ o2, ts_Ev X (ts_Cal X d) 163 ts_S0 K 5 [.ref 72, .int (zI (v)), o2] [] (I, L, ts_P0 sw, ts_S0)
abbrev RL1 : LPr := fun X d I L sw K _ v => ∀ o2, ts_Ev X (ts_Cal X d) 164 ts_S0 K 5 [.ref 72, .int (zI (v)), o2] [] (I, L, ts_P0 sw, ts_S0)
abbrev RL2 : LPr := fun X d I L sw K _ v => ∀ o2 o3, ts_Ev X (ts_Cal X d) 165 ts_S0 K 5 [.ref 72, .int (zI (v)), o2, o3] [] (I, L, ts_P0 sw, ts_S0)
abbrev RL3 : LPr := fun X d I L sw K _ v => ∀ o2 o3, ts_Ev X (ts_Cal X d) 166 ts_S0 K 5 [.ref 72, .int (zI (v)), o2, o3] [] (I, L, ts_P0 sw, ts_S0)
abbrev RL4 (n : Int) (tx : Int → Int) : LPr := fun X d I L sw K p v => ∀ o3, ts_Ev X (ts_Cal X d) 167 ts_S0 K 10 [.ref 72, .int (zI (v)), .int (zI (t_by n tx p)), o3] [] (I, L, ts_P0 sw, ts_S0)
section RG
variable {n o : Int} {tx : Int → Int} {E : Nat}
theorem R0_end : Rend 0 RL0 n tx o := by
  intro X d I L sw K N b tc p v hd p0 hS hl hK o2
  obtain ⟨d, rfl⟩ : ∃ d', d = d' + 4 := ⟨d - 4, by omega⟩
  have hx : ¬ t_nx n tx p = 124 := fun e => hl (by rw [e]; rfl)
  refine ev_aloadn_0 i163_5 ?_
  refine ew_bipush i163_6 (by decide) ?_
  refine ev_virt1 i163_8 g163_8 rfl (by decide +kernel) (Nat.le_of_ble_eq_true rfl) (m_takes hS p0 (by omega) (fun J h1 h2 h3 => ?_))
  first
  | refine ew_ifeqB i163_11 (fun c11 => ?_) (fun c11 => ?_)
  | refine ew_ifeq i163_11 (by omega) (fun c11 => ?_) (fun c11 => ?_)
  · refine ev_iloadn_1 i163_36 ?_
    refine ev_ireturn i163_37 r163 ?_
    exact hK J h1 (h3 hx)
  · exact absurd c11 hx
theorem R0_step : Rstep 0 RL0 E cm1 n tx o := by
  intro X d I L sw K N b tc p v q w hd hE p0 q0 hS hl hc hv hw hK o2
  obtain ⟨d, rfl⟩ : ∃ d', d = d' + 4 := ⟨d - 4, by omega⟩
  have hx : t_nx n tx p = 124 := by unfold lof at hl; omega
  refine ev_aloadn_0 i163_5 ?_
  refine ew_bipush i163_6 (by decide) ?_
  refine ev_virt1 i163_8 g163_8 rfl (by decide +kernel) (Nat.le_of_ble_eq_true rfl) (m_takes hS p0 (by omega) (fun J h1 h2 h3 => ?_))
  first
  | refine ew_ifeqB i163_11 (fun c11 => ?_) (fun c11 => ?_)
  | refine ew_ifeq i163_11 (by omega) (fun c11 => ?_) (fun c11 => ?_)
  · exact absurd hx c11
  · refine ev_aloadn_0 i163_14 ?_
    refine ev_virt0 i163_15 g163_15 rfl (by decide +kernel) (Nat.le_of_ble_eq_true rfl) (hc _ _ _ _ _ _ N b tc hE (h2 hx) (fun M h4 h5 => ?_))
    refine ev_istoren_2 i163_18 rfl ?_
    refine ev_iloadn_1 i163_19 ?_
    first
    | refine ew_ifneB i163_20 (fun c20 => ?_) (fun c20 => ?_)
    | refine ew_ifne i163_20 (by omega) (fun c20 => ?_) (fun c20 => ?_)
    · refine ew_iconst i163_27 ?_
      refine ev_goto i163_28 ?_
      refine ev_istoren_1 i163_32 rfl ?_
      refine ev_goto i163_33 ?_
      have e := hK M (fr_tr h1 h4) h5 (.int (zI (w N)))
      rw [hx, jn_124] at e
      first
      | (rw [if_pos (by omega)] at e; exact e)
      | (rw [if_neg (by omega)] at e; exact e)
    · refine ev_iloadn_2 i163_23 ?_
      first
      | refine ew_ifeqB i163_24 (fun c24 => ?_) (fun c24 => ?_)
      | refine ew_ifeq i163_24 (by omega) (fun c24 => ?_) (fun c24 => ?_)
      · refine ew_iconst i163_31 ?_
        refine ev_istoren_1 i163_32 rfl ?_
        refine ev_goto i163_33 ?_
        have e := hK M (fr_tr h1 h4) h5 (.int (zI (w N)))
        rw [hx, jn_124] at e
        first
        | (rw [if_pos (by omega)] at e; exact e)
        | (rw [if_neg (by omega)] at e; exact e)
      · refine ew_iconst i163_27 ?_
        refine ev_goto i163_28 ?_
        refine ev_istoren_1 i163_32 rfl ?_
        refine ev_goto i163_33 ?_
        have e := hK M (fr_tr h1 h4) h5 (.int (zI (w N)))
        rw [hx, jn_124] at e
        first
        | (rw [if_pos (by omega)] at e; exact e)
        | (rw [if_neg (by omega)] at e; exact e)
theorem R0_fail : Rfail 0 RL0 E cm1 n tx o := by
  intro X d I L sw K N b tc p v q hd hE p0 q0 hS hl hc hv hK o2
  obtain ⟨d, rfl⟩ : ∃ d', d = d' + 4 := ⟨d - 4, by omega⟩
  have hx : t_nx n tx p = 124 := by unfold lof at hl; omega
  refine ev_aloadn_0 i163_5 ?_
  refine ew_bipush i163_6 (by decide) ?_
  refine ev_virt1 i163_8 g163_8 rfl (by decide +kernel) (Nat.le_of_ble_eq_true rfl) (m_takes hS p0 (by omega) (fun J h1 h2 h3 => ?_))
  first
  | refine ew_ifeqB i163_11 (fun c11 => ?_) (fun c11 => ?_)
  | refine ew_ifeq i163_11 (by omega) (fun c11 => ?_) (fun c11 => ?_)
  · exact absurd hx c11
  · refine ev_aloadn_0 i163_14 ?_
    refine ev_virt0 i163_15 g163_15 rfl (by decide +kernel) (Nat.le_of_ble_eq_true rfl) (hc _ _ _ _ _ _ N b tc hE (h2 hx) (fun M r h4 h5 h6 => ?_))
    refine ev_istoren_2 i163_18 rfl ?_
    refine ev_iloadn_1 i163_19 ?_
    first
    | refine ew_ifneB i163_20 (fun c20 => ?_) (fun c20 => ?_)
    | refine ew_ifne i163_20 (by omega) (fun c20 => ?_) (fun c20 => ?_)
    · refine ew_iconst i163_27 ?_
      refine ev_goto i163_28 ?_
      refine ev_istoren_1 i163_32 rfl ?_
      refine ev_goto i163_33 ?_
      refine ev_aloadn_0 i163_5 ?_
      refine ew_bipush i163_6 (by decide) ?_
      refine ev_virt1 i163_8 g163_8 rfl (by decide +kernel) (Nat.le_of_ble_eq_true rfl) (m_takesF h5 (by omega) ?_)
      first
      | refine ew_ifeqB i163_11 (fun c11 => ?_) (fun c11 => ?_)
      | refine ew_ifeq i163_11 (by omega) (fun c11 => ?_) (fun c11 => ?_)
      · refine ev_iloadn_1 i163_36 ?_
        refine ev_ireturn i163_37 r163 ?_
        exact hK _ _ (fr_tr h1 h4) h5 (by omega)
      · exfalso; omega
    · refine ev_iloadn_2 i163_23 ?_
      first
      | refine ew_ifeqB i163_24 (fun c24 => ?_) (fun c24 => ?_)
      | refine ew_ifeq i163_24 (by omega) (fun c24 => ?_) (fun c24 => ?_)
      · refine ew_iconst i163_31 ?_
        refine ev_istoren_1 i163_32 rfl ?_
        refine ev_goto i163_33 ?_
        refine ev_aloadn_0 i163_5 ?_
        refine ew_bipush i163_6 (by decide) ?_
        refine ev_virt1 i163_8 g163_8 rfl (by decide +kernel) (Nat.le_of_ble_eq_true rfl) (m_takesF h5 (by omega) ?_)
        first
        | refine ew_ifeqB i163_11 (fun c11 => ?_) (fun c11 => ?_)
        | refine ew_ifeq i163_11 (by omega) (fun c11 => ?_) (fun c11 => ?_)
        · refine ev_iloadn_1 i163_36 ?_
          refine ev_ireturn i163_37 r163 ?_
          exact hK _ _ (fr_tr h1 h4) h5 (by omega)
        · exfalso; omega
      · refine ew_iconst i163_27 ?_
        refine ev_goto i163_28 ?_
        refine ev_istoren_1 i163_32 rfl ?_
        refine ev_goto i163_33 ?_
        refine ev_aloadn_0 i163_5 ?_
        refine ew_bipush i163_6 (by decide) ?_
        refine ev_virt1 i163_8 g163_8 rfl (by decide +kernel) (Nat.le_of_ble_eq_true rfl) (m_takesF h5 (by omega) ?_)
        first
        | refine ew_ifeqB i163_11 (fun c11 => ?_) (fun c11 => ?_)
        | refine ew_ifeq i163_11 (by omega) (fun c11 => ?_) (fun c11 => ?_)
        · refine ev_iloadn_1 i163_36 ?_
          refine ev_ireturn i163_37 r163 ?_
          exact hK _ _ (fr_tr h1 h4) h5 (by omega)
        · exfalso; omega
theorem R0_ent : Rent RL0 E cm0 cm1 n tx o := by
  intro X d I L sw K N b tc p q w hd hE q0 hS hc hK
  obtain ⟨d, rfl⟩ : ∃ d', d = d' + 4 := ⟨d - 4, by omega⟩
  refine ev_enter (lv := [.ref 72, .null, .null]) l163 rfl (Nat.le_of_ble_eq_true rfl) ?_
  refine ev_aloadn_0 i163_0 ?_
  refine ev_virt0 i163_1 g163_1 rfl (by decide +kernel) (Nat.le_of_ble_eq_true rfl) (hc _ _ _ _ _ _ N b tc hE hS (fun M h4 h5 => ?_))
  refine ev_istoren_1 i163_4 rfl ?_
  exact hK M h4 h5 _
theorem R0_entf : Rentf E cm0 cm1 n tx o := by
  intro X d I L sw K N b tc p q hd hE q0 hS hc hK
  obtain ⟨d, rfl⟩ : ∃ d', d = d' + 4 := ⟨d - 4, by omega⟩
  refine ev_enter (lv := [.ref 72, .null, .null]) l163 rfl (Nat.le_of_ble_eq_true rfl) ?_
  refine ev_aloadn_0 i163_0 ?_
  refine ev_virt0 i163_1 g163_1 rfl (by decide +kernel) (Nat.le_of_ble_eq_true rfl) (hc _ _ _ _ _ _ N b tc hE hS (fun M r h4 h5 h6 => ?_))
  refine ev_istoren_1 i163_4 rfl ?_
  refine ev_aloadn_0 i163_5 ?_
  refine ew_bipush i163_6 (by decide) ?_
  refine ev_virt1 i163_8 g163_8 rfl (by decide +kernel) (Nat.le_of_ble_eq_true rfl) (m_takesF h5 (by omega) ?_)
  first
  | refine ew_ifeqB i163_11 (fun c11 => ?_) (fun c11 => ?_)
  | refine ew_ifeq i163_11 (by omega) (fun c11 => ?_) (fun c11 => ?_)
  · refine ev_iloadn_1 i163_36 ?_
    refine ev_ireturn i163_37 r163 ?_
    exact hK _ _ h4 h5 h6
  · exfalso; omega
theorem R1_end : Rend 1 RL1 n tx o := by
  intro X d I L sw K N b tc p v hd p0 hS hl hK o2
  obtain ⟨d, rfl⟩ : ∃ d', d = d' + 4 := ⟨d - 4, by omega⟩
  have hx : ¬ t_nx n tx p = 38 := fun e => hl (by rw [e]; rfl)
  refine ev_aloadn_0 i164_5 ?_
  refine ew_bipush i164_6 (by decide) ?_
  refine ev_virt1 i164_8 g164_8 rfl (by decide +kernel) (Nat.le_of_ble_eq_true rfl) (m_takes hS p0 (by omega) (fun J h1 h2 h3 => ?_))
  first
  | refine ew_ifeqB i164_11 (fun c11 => ?_) (fun c11 => ?_)
  | refine ew_ifeq i164_11 (by omega) (fun c11 => ?_) (fun c11 => ?_)
  · refine ev_iloadn_1 i164_36 ?_
    refine ev_ireturn i164_37 r164 ?_
    exact hK J h1 (h3 hx)
  · exact absurd c11 hx
theorem R1_step : Rstep 1 RL1 E cm2 n tx o := by
  intro X d I L sw K N b tc p v q w hd hE p0 q0 hS hl hc hv hw hK o2
  obtain ⟨d, rfl⟩ : ∃ d', d = d' + 4 := ⟨d - 4, by omega⟩
  have hx : t_nx n tx p = 38 := by unfold lof at hl; omega
  refine ev_aloadn_0 i164_5 ?_
  refine ew_bipush i164_6 (by decide) ?_
  refine ev_virt1 i164_8 g164_8 rfl (by decide +kernel) (Nat.le_of_ble_eq_true rfl) (m_takes hS p0 (by omega) (fun J h1 h2 h3 => ?_))
  first
  | refine ew_ifeqB i164_11 (fun c11 => ?_) (fun c11 => ?_)
  | refine ew_ifeq i164_11 (by omega) (fun c11 => ?_) (fun c11 => ?_)
  · exact absurd hx c11
  · refine ev_aloadn_0 i164_14 ?_
    refine ev_virt0 i164_15 g164_15 rfl (by decide +kernel) (Nat.le_of_ble_eq_true rfl) (hc _ _ _ _ _ _ N b tc hE (h2 hx) (fun M h4 h5 => ?_))
    refine ev_istoren_2 i164_18 rfl ?_
    refine ev_iloadn_1 i164_19 ?_
    first
    | refine ew_ifeqB i164_20 (fun c20 => ?_) (fun c20 => ?_)
    | refine ew_ifeq i164_20 (by omega) (fun c20 => ?_) (fun c20 => ?_)
    · refine ew_iconst i164_31 ?_
      refine ev_istoren_1 i164_32 rfl ?_
      refine ev_goto i164_33 ?_
      have e := hK M (fr_tr h1 h4) h5 (.int (zI (w N)))
      rw [hx, jn_38] at e
      first
      | (rw [if_pos (by omega)] at e; exact e)
      | (rw [if_neg (by omega)] at e; exact e)
    · refine ev_iloadn_2 i164_23 ?_
      first
      | refine ew_ifeqB i164_24 (fun c24 => ?_) (fun c24 => ?_)
      | refine ew_ifeq i164_24 (by omega) (fun c24 => ?_) (fun c24 => ?_)
      · refine ew_iconst i164_31 ?_
        refine ev_istoren_1 i164_32 rfl ?_
        refine ev_goto i164_33 ?_
        have e := hK M (fr_tr h1 h4) h5 (.int (zI (w N)))
        rw [hx, jn_38] at e
        first
        | (rw [if_pos (by omega)] at e; exact e)
        | (rw [if_neg (by omega)] at e; exact e)
      · refine ew_iconst i164_27 ?_
        refine ev_goto i164_28 ?_
        refine ev_istoren_1 i164_32 rfl ?_
        refine ev_goto i164_33 ?_
        have e := hK M (fr_tr h1 h4) h5 (.int (zI (w N)))
        rw [hx, jn_38] at e
        first
        | (rw [if_pos (by omega)] at e; exact e)
        | (rw [if_neg (by omega)] at e; exact e)
theorem R1_fail : Rfail 1 RL1 E cm2 n tx o := by
  intro X d I L sw K N b tc p v q hd hE p0 q0 hS hl hc hv hK o2
  obtain ⟨d, rfl⟩ : ∃ d', d = d' + 4 := ⟨d - 4, by omega⟩
  have hx : t_nx n tx p = 38 := by unfold lof at hl; omega
  refine ev_aloadn_0 i164_5 ?_
  refine ew_bipush i164_6 (by decide) ?_
  refine ev_virt1 i164_8 g164_8 rfl (by decide +kernel) (Nat.le_of_ble_eq_true rfl) (m_takes hS p0 (by omega) (fun J h1 h2 h3 => ?_))
  first
  | refine ew_ifeqB i164_11 (fun c11 => ?_) (fun c11 => ?_)
  | refine ew_ifeq i164_11 (by omega) (fun c11 => ?_) (fun c11 => ?_)
  · exact absurd hx c11
  · refine ev_aloadn_0 i164_14 ?_
    refine ev_virt0 i164_15 g164_15 rfl (by decide +kernel) (Nat.le_of_ble_eq_true rfl) (hc _ _ _ _ _ _ N b tc hE (h2 hx) (fun M r h4 h5 h6 => ?_))
    refine ev_istoren_2 i164_18 rfl ?_
    refine ev_iloadn_1 i164_19 ?_
    first
    | refine ew_ifeqB i164_20 (fun c20 => ?_) (fun c20 => ?_)
    | refine ew_ifeq i164_20 (by omega) (fun c20 => ?_) (fun c20 => ?_)
    · refine ew_iconst i164_31 ?_
      refine ev_istoren_1 i164_32 rfl ?_
      refine ev_goto i164_33 ?_
      refine ev_aloadn_0 i164_5 ?_
      refine ew_bipush i164_6 (by decide) ?_
      refine ev_virt1 i164_8 g164_8 rfl (by decide +kernel) (Nat.le_of_ble_eq_true rfl) (m_takesF h5 (by omega) ?_)
      first
      | refine ew_ifeqB i164_11 (fun c11 => ?_) (fun c11 => ?_)
      | refine ew_ifeq i164_11 (by omega) (fun c11 => ?_) (fun c11 => ?_)
      · refine ev_iloadn_1 i164_36 ?_
        refine ev_ireturn i164_37 r164 ?_
        exact hK _ _ (fr_tr h1 h4) h5 (by omega)
      · exfalso; omega
    · refine ev_iloadn_2 i164_23 ?_
      first
      | refine ew_ifeqB i164_24 (fun c24 => ?_) (fun c24 => ?_)
      | refine ew_ifeq i164_24 (by omega) (fun c24 => ?_) (fun c24 => ?_)
      · refine ew_iconst i164_31 ?_
        refine ev_istoren_1 i164_32 rfl ?_
        refine ev_goto i164_33 ?_
        refine ev_aloadn_0 i164_5 ?_
        refine ew_bipush i164_6 (by decide) ?_
        refine ev_virt1 i164_8 g164_8 rfl (by decide +kernel) (Nat.le_of_ble_eq_true rfl) (m_takesF h5 (by omega) ?_)
        first
        | refine ew_ifeqB i164_11 (fun c11 => ?_) (fun c11 => ?_)
        | refine ew_ifeq i164_11 (by omega) (fun c11 => ?_) (fun c11 => ?_)
        · refine ev_iloadn_1 i164_36 ?_
          refine ev_ireturn i164_37 r164 ?_
          exact hK _ _ (fr_tr h1 h4) h5 (by omega)
        · exfalso; omega
      · refine ew_iconst i164_27 ?_
        refine ev_goto i164_28 ?_
        refine ev_istoren_1 i164_32 rfl ?_
        refine ev_goto i164_33 ?_
        refine ev_aloadn_0 i164_5 ?_
        refine ew_bipush i164_6 (by decide) ?_
        refine ev_virt1 i164_8 g164_8 rfl (by decide +kernel) (Nat.le_of_ble_eq_true rfl) (m_takesF h5 (by omega) ?_)
        first
        | refine ew_ifeqB i164_11 (fun c11 => ?_) (fun c11 => ?_)
        | refine ew_ifeq i164_11 (by omega) (fun c11 => ?_) (fun c11 => ?_)
        · refine ev_iloadn_1 i164_36 ?_
          refine ev_ireturn i164_37 r164 ?_
          exact hK _ _ (fr_tr h1 h4) h5 (by omega)
        · exfalso; omega
theorem R1_ent : Rent RL1 E cm1 cm2 n tx o := by
  intro X d I L sw K N b tc p q w hd hE q0 hS hc hK
  obtain ⟨d, rfl⟩ : ∃ d', d = d' + 4 := ⟨d - 4, by omega⟩
  refine ev_enter (lv := [.ref 72, .null, .null]) l164 rfl (Nat.le_of_ble_eq_true rfl) ?_
  refine ev_aloadn_0 i164_0 ?_
  refine ev_virt0 i164_1 g164_1 rfl (by decide +kernel) (Nat.le_of_ble_eq_true rfl) (hc _ _ _ _ _ _ N b tc hE hS (fun M h4 h5 => ?_))
  refine ev_istoren_1 i164_4 rfl ?_
  exact hK M h4 h5 _
theorem R1_entf : Rentf E cm1 cm2 n tx o := by
  intro X d I L sw K N b tc p q hd hE q0 hS hc hK
  obtain ⟨d, rfl⟩ : ∃ d', d = d' + 4 := ⟨d - 4, by omega⟩
  refine ev_enter (lv := [.ref 72, .null, .null]) l164 rfl (Nat.le_of_ble_eq_true rfl) ?_
  refine ev_aloadn_0 i164_0 ?_
  refine ev_virt0 i164_1 g164_1 rfl (by decide +kernel) (Nat.le_of_ble_eq_true rfl) (hc _ _ _ _ _ _ N b tc hE hS (fun M r h4 h5 h6 => ?_))
  refine ev_istoren_1 i164_4 rfl ?_
  refine ev_aloadn_0 i164_5 ?_
  refine ew_bipush i164_6 (by decide) ?_
  refine ev_virt1 i164_8 g164_8 rfl (by decide +kernel) (Nat.le_of_ble_eq_true rfl) (m_takesF h5 (by omega) ?_)
  first
  | refine ew_ifeqB i164_11 (fun c11 => ?_) (fun c11 => ?_)
  | refine ew_ifeq i164_11 (by omega) (fun c11 => ?_) (fun c11 => ?_)
  · refine ev_iloadn_1 i164_36 ?_
    refine ev_ireturn i164_37 r164 ?_
    exact hK _ _ h4 h5 h6
  · exfalso; omega
theorem R3_end : Rend 3 RL3 n tx o := by
  intro X d I L sw K N b tc p v hd p0 hS hl hK o2 o3
  obtain ⟨d, rfl⟩ : ∃ d', d = d' + 4 := ⟨d - 4, by omega⟩
  have r := hS.1.nx_r p0
  have hx : ¬ t_nx n tx p = 43 ∧ ¬ t_nx n tx p = 45 := by unfold lof at hl; omega
  refine ev_aloadn_0 i166_5 ?_
  refine ew_getI i166_6 g166_6 rfl (by first | exact hS.2.1 | exact hM.men | exact hM.told | exact hM.road | exact hM.stand _ (by omega) (by omega) | exact hM.reach _ (by omega) (by omega) | exact hM.arm _ (by omega) (by omega) | exact hM.late _ (by omega) (by omega) | exact hM.len _ (by omega) (by omega) | exact hM.corn _ (by omega) (by omega) | exact hM.say (by omega) (by omega) _ (by omega) (by omega) | exact hM.tone _ (by omega) (by omega)) (fun b6 => ?_)
  refine ew_ifge i166_9 (by omega) (fun c9 => ?_) (fun c9 => ?_)
  · refine ev_iloadn_1 i166_77 ?_
    refine ev_ireturn i166_78 r166 ?_
    first
    | (exfalso; omega)
    | exact hK I (fr_rfl _ _) hS
  · refine ev_aloadn_0 i166_12 ?_
    refine ev_virt0 i166_13 g166_13 rfl (by decide +kernel) (Nat.le_of_ble_eq_true rfl) (m_byteAt hS.1 p0 ?_)
    refine ew_bipush i166_16 (by decide) ?_
    refine ew_icmpeq i166_18 (by omega) (fun c18 => ?_) (fun c18 => ?_)
    · exfalso; omega
    · refine ev_aloadn_0 i166_21 ?_
      refine ev_virt0 i166_22 g166_22 rfl (by decide +kernel) (Nat.le_of_ble_eq_true rfl) (m_byteAt hS.1 p0 ?_)
      refine ew_bipush i166_25 (by decide) ?_
      refine ew_icmpne i166_27 (by omega) (fun c27 => ?_) (fun c27 => ?_)
      · refine ev_iloadn_1 i166_77 ?_
        refine ev_ireturn i166_78 r166 ?_
        first
        | (exfalso; omega)
        | exact hK I (fr_rfl _ _) hS
      · exfalso; omega
theorem R3_step : Rstep 3 RL3 E cm4 n tx o := by
  intro X d I L sw K N b tc p v q w hd hE p0 q0 hS hl hc hv hw hK o2 o3
  obtain ⟨d, rfl⟩ : ∃ d', d = d' + 4 := ⟨d - 4, by omega⟩
  have r := hS.1.nx_r p0
  have b1 := hS.1.1
  have hx : t_nx n tx p = 43 ∨ t_nx n tx p = 45 := by unfold lof at hl; omega
  have lt := t_nx_lt (n := n) (tx := tx) (p := p) (by omega)
  refine ev_aloadn_0 i166_5 ?_
  refine ew_getI i166_6 g166_6 rfl (by first | exact hS.2.1 | exact hS.1.2.2.2.2.2 | exact hM.men | exact hM.told | exact hM.road | exact hM.stand _ (by omega) (by omega) | exact hM.reach _ (by omega) (by omega) | exact hM.arm _ (by omega) (by omega) | exact hM.late _ (by omega) (by omega) | exact hM.len _ (by omega) (by omega) | exact hM.corn _ (by omega) (by omega) | exact hM.say (by omega) (by omega) _ (by omega) (by omega) | exact hM.tone _ (by omega) (by omega)) (fun b6 => ?_)
  refine ew_ifge i166_9 (by omega) (fun c9 => ?_) (fun c9 => ?_)
  · exfalso; omega
  · refine ev_aloadn_0 i166_12 ?_
    refine ev_virt0 i166_13 g166_13 rfl (by decide +kernel) (Nat.le_of_ble_eq_true rfl) (m_byteAt hS.1 p0 ?_)
    refine ew_bipush i166_16 (by decide) ?_
    refine ew_icmpeq i166_18 (by omega) (fun c18 => ?_) (fun c18 => ?_)
    · refine ev_aloadn_0 i166_30 ?_
      refine ev_virt0 i166_31 g166_31 rfl (by decide +kernel) (Nat.le_of_ble_eq_true rfl) (m_byteAt hS.1 p0 ?_)
      refine ew_bipush i166_34 (by decide) ?_
      refine ew_icmpne i166_36 (by omega) (fun c36 => ?_) (fun c36 => ?_)
      · refine ew_iconst i166_43 ?_
        refine ev_istoren_2 i166_44 rfl ?_
        refine ev_aloadn_0 i166_45 ?_
        refine ev_dup i166_46 rfl ?_
        refine ew_getI i166_47 g166_47 rfl (by first | exact hS.2.1 | exact hS.1.2.2.2.2.2 | exact hM.men | exact hM.told | exact hM.road | exact hM.stand _ (by omega) (by omega) | exact hM.reach _ (by omega) (by omega) | exact hM.arm _ (by omega) (by omega) | exact hM.late _ (by omega) (by omega) | exact hM.len _ (by omega) (by omega) | exact hM.corn _ (by omega) (by omega) | exact hM.say (by omega) (by omega) _ (by omega) (by omega) | exact hM.tone _ (by omega) (by omega)) (fun b47 => ?_)
        refine ew_iconst i166_50 ?_
        refine ew_iadd i166_51 ?_
        refine ev_putI i166_52 g166_52 rfl ?_
        refine ev_aloadn_0 i166_55 ?_
        refine ev_virt0 i166_56 g166_56 rfl (by decide +kernel) (Nat.le_of_ble_eq_true rfl) (hc _ _ _ _ _ _ N b tc hE (hS.sAt (by omega)) (fun M h4 h5 => ?_))
        refine ev_istoren_3 i166_59 rfl ?_
        refine ev_iloadn_2 i166_60 ?_
        first
        | refine ew_ifeqB i166_61 (fun c61 => ?_) (fun c61 => ?_)
        | refine ew_ifeq i166_61 (by omega) (fun c61 => ?_) (fun c61 => ?_)
        · refine ev_iloadn_1 i166_70 ?_
          refine ev_iloadn_3 i166_71 ?_
          refine ew_isub i166_72 ?_
          refine ev_istoren_1 i166_73 rfl ?_
          refine ev_goto i166_74 ?_
          have e := fun o2 => hK M (fr_tr (fr_up (fr_rfl _ _) ⟨rfl, by decide, by decide⟩) h4) h5 o2 (.int (zI (w N)))
          first
          | (exfalso; omega)
          | (have h43 : t_nx n tx p = 43 := by omega
             rw [h43, jn_43, zI_zw] at e
             exact e _)
          | (have h45 : t_nx n tx p = 45 := by omega
             rw [h45, jn_45, zI_zw] at e
             exact e _)
        · refine ev_iloadn_1 i166_64 ?_
          refine ev_iloadn_3 i166_65 ?_
          refine ew_iadd i166_66 ?_
          refine ev_goto i166_67 ?_
          refine ev_istoren_1 i166_73 rfl ?_
          refine ev_goto i166_74 ?_
          have e := fun o2 => hK M (fr_tr (fr_up (fr_rfl _ _) ⟨rfl, by decide, by decide⟩) h4) h5 o2 (.int (zI (w N)))
          first
          | (exfalso; omega)
          | (have h43 : t_nx n tx p = 43 := by omega
             rw [h43, jn_43, zI_zw] at e
             exact e _)
          | (have h45 : t_nx n tx p = 45 := by omega
             rw [h45, jn_45, zI_zw] at e
             exact e _)
      · refine ew_iconst i166_39 ?_
        refine ev_goto i166_40 ?_
        refine ev_istoren_2 i166_44 rfl ?_
        refine ev_aloadn_0 i166_45 ?_
        refine ev_dup i166_46 rfl ?_
        refine ew_getI i166_47 g166_47 rfl (by first | exact hS.2.1 | exact hS.1.2.2.2.2.2 | exact hM.men | exact hM.told | exact hM.road | exact hM.stand _ (by omega) (by omega) | exact hM.reach _ (by omega) (by omega) | exact hM.arm _ (by omega) (by omega) | exact hM.late _ (by omega) (by omega) | exact hM.len _ (by omega) (by omega) | exact hM.corn _ (by omega) (by omega) | exact hM.say (by omega) (by omega) _ (by omega) (by omega) | exact hM.tone _ (by omega) (by omega)) (fun b47 => ?_)
        refine ew_iconst i166_50 ?_
        refine ew_iadd i166_51 ?_
        refine ev_putI i166_52 g166_52 rfl ?_
        refine ev_aloadn_0 i166_55 ?_
        refine ev_virt0 i166_56 g166_56 rfl (by decide +kernel) (Nat.le_of_ble_eq_true rfl) (hc _ _ _ _ _ _ N b tc hE (hS.sAt (by omega)) (fun M h4 h5 => ?_))
        refine ev_istoren_3 i166_59 rfl ?_
        refine ev_iloadn_2 i166_60 ?_
        first
        | refine ew_ifeqB i166_61 (fun c61 => ?_) (fun c61 => ?_)
        | refine ew_ifeq i166_61 (by omega) (fun c61 => ?_) (fun c61 => ?_)
        · refine ev_iloadn_1 i166_70 ?_
          refine ev_iloadn_3 i166_71 ?_
          refine ew_isub i166_72 ?_
          refine ev_istoren_1 i166_73 rfl ?_
          refine ev_goto i166_74 ?_
          have e := fun o2 => hK M (fr_tr (fr_up (fr_rfl _ _) ⟨rfl, by decide, by decide⟩) h4) h5 o2 (.int (zI (w N)))
          first
          | (exfalso; omega)
          | (have h43 : t_nx n tx p = 43 := by omega
             rw [h43, jn_43, zI_zw] at e
             exact e _)
          | (have h45 : t_nx n tx p = 45 := by omega
             rw [h45, jn_45, zI_zw] at e
             exact e _)
        · refine ev_iloadn_1 i166_64 ?_
          refine ev_iloadn_3 i166_65 ?_
          refine ew_iadd i166_66 ?_
          refine ev_goto i166_67 ?_
          refine ev_istoren_1 i166_73 rfl ?_
          refine ev_goto i166_74 ?_
          have e := fun o2 => hK M (fr_tr (fr_up (fr_rfl _ _) ⟨rfl, by decide, by decide⟩) h4) h5 o2 (.int (zI (w N)))
          first
          | (exfalso; omega)
          | (have h43 : t_nx n tx p = 43 := by omega
             rw [h43, jn_43, zI_zw] at e
             exact e _)
          | (have h45 : t_nx n tx p = 45 := by omega
             rw [h45, jn_45, zI_zw] at e
             exact e _)
    · refine ev_aloadn_0 i166_21 ?_
      refine ev_virt0 i166_22 g166_22 rfl (by decide +kernel) (Nat.le_of_ble_eq_true rfl) (m_byteAt hS.1 p0 ?_)
      refine ew_bipush i166_25 (by decide) ?_
      refine ew_icmpne i166_27 (by omega) (fun c27 => ?_) (fun c27 => ?_)
      · exfalso; omega
      · refine ev_aloadn_0 i166_30 ?_
        refine ev_virt0 i166_31 g166_31 rfl (by decide +kernel) (Nat.le_of_ble_eq_true rfl) (m_byteAt hS.1 p0 ?_)
        refine ew_bipush i166_34 (by decide) ?_
        refine ew_icmpne i166_36 (by omega) (fun c36 => ?_) (fun c36 => ?_)
        · refine ew_iconst i166_43 ?_
          refine ev_istoren_2 i166_44 rfl ?_
          refine ev_aloadn_0 i166_45 ?_
          refine ev_dup i166_46 rfl ?_
          refine ew_getI i166_47 g166_47 rfl (by first | exact hS.2.1 | exact hS.1.2.2.2.2.2 | exact hM.men | exact hM.told | exact hM.road | exact hM.stand _ (by omega) (by omega) | exact hM.reach _ (by omega) (by omega) | exact hM.arm _ (by omega) (by omega) | exact hM.late _ (by omega) (by omega) | exact hM.len _ (by omega) (by omega) | exact hM.corn _ (by omega) (by omega) | exact hM.say (by omega) (by omega) _ (by omega) (by omega) | exact hM.tone _ (by omega) (by omega)) (fun b47 => ?_)
          refine ew_iconst i166_50 ?_
          refine ew_iadd i166_51 ?_
          refine ev_putI i166_52 g166_52 rfl ?_
          refine ev_aloadn_0 i166_55 ?_
          refine ev_virt0 i166_56 g166_56 rfl (by decide +kernel) (Nat.le_of_ble_eq_true rfl) (hc _ _ _ _ _ _ N b tc hE (hS.sAt (by omega)) (fun M h4 h5 => ?_))
          refine ev_istoren_3 i166_59 rfl ?_
          refine ev_iloadn_2 i166_60 ?_
          first
          | refine ew_ifeqB i166_61 (fun c61 => ?_) (fun c61 => ?_)
          | refine ew_ifeq i166_61 (by omega) (fun c61 => ?_) (fun c61 => ?_)
          · refine ev_iloadn_1 i166_70 ?_
            refine ev_iloadn_3 i166_71 ?_
            refine ew_isub i166_72 ?_
            refine ev_istoren_1 i166_73 rfl ?_
            refine ev_goto i166_74 ?_
            have e := fun o2 => hK M (fr_tr (fr_up (fr_rfl _ _) ⟨rfl, by decide, by decide⟩) h4) h5 o2 (.int (zI (w N)))
            first
            | (exfalso; omega)
            | (have h43 : t_nx n tx p = 43 := by omega
               rw [h43, jn_43, zI_zw] at e
               exact e _)
            | (have h45 : t_nx n tx p = 45 := by omega
               rw [h45, jn_45, zI_zw] at e
               exact e _)
          · refine ev_iloadn_1 i166_64 ?_
            refine ev_iloadn_3 i166_65 ?_
            refine ew_iadd i166_66 ?_
            refine ev_goto i166_67 ?_
            refine ev_istoren_1 i166_73 rfl ?_
            refine ev_goto i166_74 ?_
            have e := fun o2 => hK M (fr_tr (fr_up (fr_rfl _ _) ⟨rfl, by decide, by decide⟩) h4) h5 o2 (.int (zI (w N)))
            first
            | (exfalso; omega)
            | (have h43 : t_nx n tx p = 43 := by omega
               rw [h43, jn_43, zI_zw] at e
               exact e _)
            | (have h45 : t_nx n tx p = 45 := by omega
               rw [h45, jn_45, zI_zw] at e
               exact e _)
        · refine ew_iconst i166_39 ?_
          refine ev_goto i166_40 ?_
          refine ev_istoren_2 i166_44 rfl ?_
          refine ev_aloadn_0 i166_45 ?_
          refine ev_dup i166_46 rfl ?_
          refine ew_getI i166_47 g166_47 rfl (by first | exact hS.2.1 | exact hS.1.2.2.2.2.2 | exact hM.men | exact hM.told | exact hM.road | exact hM.stand _ (by omega) (by omega) | exact hM.reach _ (by omega) (by omega) | exact hM.arm _ (by omega) (by omega) | exact hM.late _ (by omega) (by omega) | exact hM.len _ (by omega) (by omega) | exact hM.corn _ (by omega) (by omega) | exact hM.say (by omega) (by omega) _ (by omega) (by omega) | exact hM.tone _ (by omega) (by omega)) (fun b47 => ?_)
          refine ew_iconst i166_50 ?_
          refine ew_iadd i166_51 ?_
          refine ev_putI i166_52 g166_52 rfl ?_
          refine ev_aloadn_0 i166_55 ?_
          refine ev_virt0 i166_56 g166_56 rfl (by decide +kernel) (Nat.le_of_ble_eq_true rfl) (hc _ _ _ _ _ _ N b tc hE (hS.sAt (by omega)) (fun M h4 h5 => ?_))
          refine ev_istoren_3 i166_59 rfl ?_
          refine ev_iloadn_2 i166_60 ?_
          first
          | refine ew_ifeqB i166_61 (fun c61 => ?_) (fun c61 => ?_)
          | refine ew_ifeq i166_61 (by omega) (fun c61 => ?_) (fun c61 => ?_)
          · refine ev_iloadn_1 i166_70 ?_
            refine ev_iloadn_3 i166_71 ?_
            refine ew_isub i166_72 ?_
            refine ev_istoren_1 i166_73 rfl ?_
            refine ev_goto i166_74 ?_
            have e := fun o2 => hK M (fr_tr (fr_up (fr_rfl _ _) ⟨rfl, by decide, by decide⟩) h4) h5 o2 (.int (zI (w N)))
            first
            | (exfalso; omega)
            | (have h43 : t_nx n tx p = 43 := by omega
               rw [h43, jn_43, zI_zw] at e
               exact e _)
            | (have h45 : t_nx n tx p = 45 := by omega
               rw [h45, jn_45, zI_zw] at e
               exact e _)
          · refine ev_iloadn_1 i166_64 ?_
            refine ev_iloadn_3 i166_65 ?_
            refine ew_iadd i166_66 ?_
            refine ev_goto i166_67 ?_
            refine ev_istoren_1 i166_73 rfl ?_
            refine ev_goto i166_74 ?_
            have e := fun o2 => hK M (fr_tr (fr_up (fr_rfl _ _) ⟨rfl, by decide, by decide⟩) h4) h5 o2 (.int (zI (w N)))
            first
            | (exfalso; omega)
            | (have h43 : t_nx n tx p = 43 := by omega
               rw [h43, jn_43, zI_zw] at e
               exact e _)
            | (have h45 : t_nx n tx p = 45 := by omega
               rw [h45, jn_45, zI_zw] at e
               exact e _)
theorem R3_fail : Rfail 3 RL3 E cm4 n tx o := by
  intro X d I L sw K N b tc p v q hd hE p0 q0 hS hl hc hv hK o2 o3
  obtain ⟨d, rfl⟩ : ∃ d', d = d' + 4 := ⟨d - 4, by omega⟩
  have r := hS.1.nx_r p0
  have b1 := hS.1.1
  have hx : t_nx n tx p = 43 ∨ t_nx n tx p = 45 := by unfold lof at hl; omega
  have lt := t_nx_lt (n := n) (tx := tx) (p := p) (by omega)
  refine ev_aloadn_0 i166_5 ?_
  refine ew_getI i166_6 g166_6 rfl (by first | exact hS.2.1 | exact hS.1.2.2.2.2.2 | exact hM.men | exact hM.told | exact hM.road | exact hM.stand _ (by omega) (by omega) | exact hM.reach _ (by omega) (by omega) | exact hM.arm _ (by omega) (by omega) | exact hM.late _ (by omega) (by omega) | exact hM.len _ (by omega) (by omega) | exact hM.corn _ (by omega) (by omega) | exact hM.say (by omega) (by omega) _ (by omega) (by omega) | exact hM.tone _ (by omega) (by omega)) (fun b6 => ?_)
  refine ew_ifge i166_9 (by omega) (fun c9 => ?_) (fun c9 => ?_)
  · exfalso; omega
  · refine ev_aloadn_0 i166_12 ?_
    refine ev_virt0 i166_13 g166_13 rfl (by decide +kernel) (Nat.le_of_ble_eq_true rfl) (m_byteAt hS.1 p0 ?_)
    refine ew_bipush i166_16 (by decide) ?_
    refine ew_icmpeq i166_18 (by omega) (fun c18 => ?_) (fun c18 => ?_)
    · refine ev_aloadn_0 i166_30 ?_
      refine ev_virt0 i166_31 g166_31 rfl (by decide +kernel) (Nat.le_of_ble_eq_true rfl) (m_byteAt hS.1 p0 ?_)
      refine ew_bipush i166_34 (by decide) ?_
      refine ew_icmpne i166_36 (by omega) (fun c36 => ?_) (fun c36 => ?_)
      · refine ew_iconst i166_43 ?_
        refine ev_istoren_2 i166_44 rfl ?_
        refine ev_aloadn_0 i166_45 ?_
        refine ev_dup i166_46 rfl ?_
        refine ew_getI i166_47 g166_47 rfl (by first | exact hS.2.1 | exact hS.1.2.2.2.2.2 | exact hM.men | exact hM.told | exact hM.road | exact hM.stand _ (by omega) (by omega) | exact hM.reach _ (by omega) (by omega) | exact hM.arm _ (by omega) (by omega) | exact hM.late _ (by omega) (by omega) | exact hM.len _ (by omega) (by omega) | exact hM.corn _ (by omega) (by omega) | exact hM.say (by omega) (by omega) _ (by omega) (by omega) | exact hM.tone _ (by omega) (by omega)) (fun b47 => ?_)
        refine ew_iconst i166_50 ?_
        refine ew_iadd i166_51 ?_
        refine ev_putI i166_52 g166_52 rfl ?_
        refine ev_aloadn_0 i166_55 ?_
        refine ev_virt0 i166_56 g166_56 rfl (by decide +kernel) (Nat.le_of_ble_eq_true rfl) (hc _ _ _ _ _ _ N b tc hE (hS.sAt (by omega)) (fun M r h4 h5 h6 => ?_))
        refine ev_istoren_3 i166_59 rfl ?_
        refine ev_iloadn_2 i166_60 ?_
        first
        | refine ew_ifeqB i166_61 (fun c61 => ?_) (fun c61 => ?_)
        | refine ew_ifeq i166_61 (by omega) (fun c61 => ?_) (fun c61 => ?_)
        · refine ev_iloadn_1 i166_70 ?_
          refine ev_iloadn_3 i166_71 ?_
          refine ew_isub i166_72 ?_
          refine ev_istoren_1 i166_73 rfl ?_
          refine ev_goto i166_74 ?_
          refine ev_aloadn_0 i166_5 ?_
          refine ew_getI i166_6 g166_6 rfl (by first | exact h5.2 | exact hM.men | exact hM.told | exact hM.road | exact hM.stand _ (by omega) (by omega) | exact hM.reach _ (by omega) (by omega) | exact hM.arm _ (by omega) (by omega) | exact hM.late _ (by omega) (by omega) | exact hM.len _ (by omega) (by omega) | exact hM.corn _ (by omega) (by omega) | exact hM.say (by omega) (by omega) _ (by omega) (by omega) | exact hM.tone _ (by omega) (by omega)) (fun b6 => ?_)
          refine ew_ifge i166_9 (by omega) (fun c9 => ?_) (fun c9 => ?_)
          · refine ev_iloadn_1 i166_77 ?_
            refine ev_ireturn i166_78 r166 ?_
            rw [← zI_zw]
            exact hK _ _ (fr_tr (fr_up (fr_rfl _ _) ⟨rfl, by decide, by decide⟩) h4) h5 (zw_r _)
          · exfalso; omega
        · refine ev_iloadn_1 i166_64 ?_
          refine ev_iloadn_3 i166_65 ?_
          refine ew_iadd i166_66 ?_
          refine ev_goto i166_67 ?_
          refine ev_istoren_1 i166_73 rfl ?_
          refine ev_goto i166_74 ?_
          refine ev_aloadn_0 i166_5 ?_
          refine ew_getI i166_6 g166_6 rfl (by first | exact h5.2 | exact hM.men | exact hM.told | exact hM.road | exact hM.stand _ (by omega) (by omega) | exact hM.reach _ (by omega) (by omega) | exact hM.arm _ (by omega) (by omega) | exact hM.late _ (by omega) (by omega) | exact hM.len _ (by omega) (by omega) | exact hM.corn _ (by omega) (by omega) | exact hM.say (by omega) (by omega) _ (by omega) (by omega) | exact hM.tone _ (by omega) (by omega)) (fun b6 => ?_)
          refine ew_ifge i166_9 (by omega) (fun c9 => ?_) (fun c9 => ?_)
          · refine ev_iloadn_1 i166_77 ?_
            refine ev_ireturn i166_78 r166 ?_
            rw [← zI_zw]
            exact hK _ _ (fr_tr (fr_up (fr_rfl _ _) ⟨rfl, by decide, by decide⟩) h4) h5 (zw_r _)
          · exfalso; omega
      · refine ew_iconst i166_39 ?_
        refine ev_goto i166_40 ?_
        refine ev_istoren_2 i166_44 rfl ?_
        refine ev_aloadn_0 i166_45 ?_
        refine ev_dup i166_46 rfl ?_
        refine ew_getI i166_47 g166_47 rfl (by first | exact hS.2.1 | exact hS.1.2.2.2.2.2 | exact hM.men | exact hM.told | exact hM.road | exact hM.stand _ (by omega) (by omega) | exact hM.reach _ (by omega) (by omega) | exact hM.arm _ (by omega) (by omega) | exact hM.late _ (by omega) (by omega) | exact hM.len _ (by omega) (by omega) | exact hM.corn _ (by omega) (by omega) | exact hM.say (by omega) (by omega) _ (by omega) (by omega) | exact hM.tone _ (by omega) (by omega)) (fun b47 => ?_)
        refine ew_iconst i166_50 ?_
        refine ew_iadd i166_51 ?_
        refine ev_putI i166_52 g166_52 rfl ?_
        refine ev_aloadn_0 i166_55 ?_
        refine ev_virt0 i166_56 g166_56 rfl (by decide +kernel) (Nat.le_of_ble_eq_true rfl) (hc _ _ _ _ _ _ N b tc hE (hS.sAt (by omega)) (fun M r h4 h5 h6 => ?_))
        refine ev_istoren_3 i166_59 rfl ?_
        refine ev_iloadn_2 i166_60 ?_
        first
        | refine ew_ifeqB i166_61 (fun c61 => ?_) (fun c61 => ?_)
        | refine ew_ifeq i166_61 (by omega) (fun c61 => ?_) (fun c61 => ?_)
        · refine ev_iloadn_1 i166_70 ?_
          refine ev_iloadn_3 i166_71 ?_
          refine ew_isub i166_72 ?_
          refine ev_istoren_1 i166_73 rfl ?_
          refine ev_goto i166_74 ?_
          refine ev_aloadn_0 i166_5 ?_
          refine ew_getI i166_6 g166_6 rfl (by first | exact h5.2 | exact hM.men | exact hM.told | exact hM.road | exact hM.stand _ (by omega) (by omega) | exact hM.reach _ (by omega) (by omega) | exact hM.arm _ (by omega) (by omega) | exact hM.late _ (by omega) (by omega) | exact hM.len _ (by omega) (by omega) | exact hM.corn _ (by omega) (by omega) | exact hM.say (by omega) (by omega) _ (by omega) (by omega) | exact hM.tone _ (by omega) (by omega)) (fun b6 => ?_)
          refine ew_ifge i166_9 (by omega) (fun c9 => ?_) (fun c9 => ?_)
          · refine ev_iloadn_1 i166_77 ?_
            refine ev_ireturn i166_78 r166 ?_
            rw [← zI_zw]
            exact hK _ _ (fr_tr (fr_up (fr_rfl _ _) ⟨rfl, by decide, by decide⟩) h4) h5 (zw_r _)
          · exfalso; omega
        · refine ev_iloadn_1 i166_64 ?_
          refine ev_iloadn_3 i166_65 ?_
          refine ew_iadd i166_66 ?_
          refine ev_goto i166_67 ?_
          refine ev_istoren_1 i166_73 rfl ?_
          refine ev_goto i166_74 ?_
          refine ev_aloadn_0 i166_5 ?_
          refine ew_getI i166_6 g166_6 rfl (by first | exact h5.2 | exact hM.men | exact hM.told | exact hM.road | exact hM.stand _ (by omega) (by omega) | exact hM.reach _ (by omega) (by omega) | exact hM.arm _ (by omega) (by omega) | exact hM.late _ (by omega) (by omega) | exact hM.len _ (by omega) (by omega) | exact hM.corn _ (by omega) (by omega) | exact hM.say (by omega) (by omega) _ (by omega) (by omega) | exact hM.tone _ (by omega) (by omega)) (fun b6 => ?_)
          refine ew_ifge i166_9 (by omega) (fun c9 => ?_) (fun c9 => ?_)
          · refine ev_iloadn_1 i166_77 ?_
            refine ev_ireturn i166_78 r166 ?_
            rw [← zI_zw]
            exact hK _ _ (fr_tr (fr_up (fr_rfl _ _) ⟨rfl, by decide, by decide⟩) h4) h5 (zw_r _)
          · exfalso; omega
    · refine ev_aloadn_0 i166_21 ?_
      refine ev_virt0 i166_22 g166_22 rfl (by decide +kernel) (Nat.le_of_ble_eq_true rfl) (m_byteAt hS.1 p0 ?_)
      refine ew_bipush i166_25 (by decide) ?_
      refine ew_icmpne i166_27 (by omega) (fun c27 => ?_) (fun c27 => ?_)
      · exfalso; omega
      · refine ev_aloadn_0 i166_30 ?_
        refine ev_virt0 i166_31 g166_31 rfl (by decide +kernel) (Nat.le_of_ble_eq_true rfl) (m_byteAt hS.1 p0 ?_)
        refine ew_bipush i166_34 (by decide) ?_
        refine ew_icmpne i166_36 (by omega) (fun c36 => ?_) (fun c36 => ?_)
        · refine ew_iconst i166_43 ?_
          refine ev_istoren_2 i166_44 rfl ?_
          refine ev_aloadn_0 i166_45 ?_
          refine ev_dup i166_46 rfl ?_
          refine ew_getI i166_47 g166_47 rfl (by first | exact hS.2.1 | exact hS.1.2.2.2.2.2 | exact hM.men | exact hM.told | exact hM.road | exact hM.stand _ (by omega) (by omega) | exact hM.reach _ (by omega) (by omega) | exact hM.arm _ (by omega) (by omega) | exact hM.late _ (by omega) (by omega) | exact hM.len _ (by omega) (by omega) | exact hM.corn _ (by omega) (by omega) | exact hM.say (by omega) (by omega) _ (by omega) (by omega) | exact hM.tone _ (by omega) (by omega)) (fun b47 => ?_)
          refine ew_iconst i166_50 ?_
          refine ew_iadd i166_51 ?_
          refine ev_putI i166_52 g166_52 rfl ?_
          refine ev_aloadn_0 i166_55 ?_
          refine ev_virt0 i166_56 g166_56 rfl (by decide +kernel) (Nat.le_of_ble_eq_true rfl) (hc _ _ _ _ _ _ N b tc hE (hS.sAt (by omega)) (fun M r h4 h5 h6 => ?_))
          refine ev_istoren_3 i166_59 rfl ?_
          refine ev_iloadn_2 i166_60 ?_
          first
          | refine ew_ifeqB i166_61 (fun c61 => ?_) (fun c61 => ?_)
          | refine ew_ifeq i166_61 (by omega) (fun c61 => ?_) (fun c61 => ?_)
          · refine ev_iloadn_1 i166_70 ?_
            refine ev_iloadn_3 i166_71 ?_
            refine ew_isub i166_72 ?_
            refine ev_istoren_1 i166_73 rfl ?_
            refine ev_goto i166_74 ?_
            refine ev_aloadn_0 i166_5 ?_
            refine ew_getI i166_6 g166_6 rfl (by first | exact h5.2 | exact hM.men | exact hM.told | exact hM.road | exact hM.stand _ (by omega) (by omega) | exact hM.reach _ (by omega) (by omega) | exact hM.arm _ (by omega) (by omega) | exact hM.late _ (by omega) (by omega) | exact hM.len _ (by omega) (by omega) | exact hM.corn _ (by omega) (by omega) | exact hM.say (by omega) (by omega) _ (by omega) (by omega) | exact hM.tone _ (by omega) (by omega)) (fun b6 => ?_)
            refine ew_ifge i166_9 (by omega) (fun c9 => ?_) (fun c9 => ?_)
            · refine ev_iloadn_1 i166_77 ?_
              refine ev_ireturn i166_78 r166 ?_
              rw [← zI_zw]
              exact hK _ _ (fr_tr (fr_up (fr_rfl _ _) ⟨rfl, by decide, by decide⟩) h4) h5 (zw_r _)
            · exfalso; omega
          · refine ev_iloadn_1 i166_64 ?_
            refine ev_iloadn_3 i166_65 ?_
            refine ew_iadd i166_66 ?_
            refine ev_goto i166_67 ?_
            refine ev_istoren_1 i166_73 rfl ?_
            refine ev_goto i166_74 ?_
            refine ev_aloadn_0 i166_5 ?_
            refine ew_getI i166_6 g166_6 rfl (by first | exact h5.2 | exact hM.men | exact hM.told | exact hM.road | exact hM.stand _ (by omega) (by omega) | exact hM.reach _ (by omega) (by omega) | exact hM.arm _ (by omega) (by omega) | exact hM.late _ (by omega) (by omega) | exact hM.len _ (by omega) (by omega) | exact hM.corn _ (by omega) (by omega) | exact hM.say (by omega) (by omega) _ (by omega) (by omega) | exact hM.tone _ (by omega) (by omega)) (fun b6 => ?_)
            refine ew_ifge i166_9 (by omega) (fun c9 => ?_) (fun c9 => ?_)
            · refine ev_iloadn_1 i166_77 ?_
              refine ev_ireturn i166_78 r166 ?_
              rw [← zI_zw]
              exact hK _ _ (fr_tr (fr_up (fr_rfl _ _) ⟨rfl, by decide, by decide⟩) h4) h5 (zw_r _)
            · exfalso; omega
        · refine ew_iconst i166_39 ?_
          refine ev_goto i166_40 ?_
          refine ev_istoren_2 i166_44 rfl ?_
          refine ev_aloadn_0 i166_45 ?_
          refine ev_dup i166_46 rfl ?_
          refine ew_getI i166_47 g166_47 rfl (by first | exact hS.2.1 | exact hS.1.2.2.2.2.2 | exact hM.men | exact hM.told | exact hM.road | exact hM.stand _ (by omega) (by omega) | exact hM.reach _ (by omega) (by omega) | exact hM.arm _ (by omega) (by omega) | exact hM.late _ (by omega) (by omega) | exact hM.len _ (by omega) (by omega) | exact hM.corn _ (by omega) (by omega) | exact hM.say (by omega) (by omega) _ (by omega) (by omega) | exact hM.tone _ (by omega) (by omega)) (fun b47 => ?_)
          refine ew_iconst i166_50 ?_
          refine ew_iadd i166_51 ?_
          refine ev_putI i166_52 g166_52 rfl ?_
          refine ev_aloadn_0 i166_55 ?_
          refine ev_virt0 i166_56 g166_56 rfl (by decide +kernel) (Nat.le_of_ble_eq_true rfl) (hc _ _ _ _ _ _ N b tc hE (hS.sAt (by omega)) (fun M r h4 h5 h6 => ?_))
          refine ev_istoren_3 i166_59 rfl ?_
          refine ev_iloadn_2 i166_60 ?_
          first
          | refine ew_ifeqB i166_61 (fun c61 => ?_) (fun c61 => ?_)
          | refine ew_ifeq i166_61 (by omega) (fun c61 => ?_) (fun c61 => ?_)
          · refine ev_iloadn_1 i166_70 ?_
            refine ev_iloadn_3 i166_71 ?_
            refine ew_isub i166_72 ?_
            refine ev_istoren_1 i166_73 rfl ?_
            refine ev_goto i166_74 ?_
            refine ev_aloadn_0 i166_5 ?_
            refine ew_getI i166_6 g166_6 rfl (by first | exact h5.2 | exact hM.men | exact hM.told | exact hM.road | exact hM.stand _ (by omega) (by omega) | exact hM.reach _ (by omega) (by omega) | exact hM.arm _ (by omega) (by omega) | exact hM.late _ (by omega) (by omega) | exact hM.len _ (by omega) (by omega) | exact hM.corn _ (by omega) (by omega) | exact hM.say (by omega) (by omega) _ (by omega) (by omega) | exact hM.tone _ (by omega) (by omega)) (fun b6 => ?_)
            refine ew_ifge i166_9 (by omega) (fun c9 => ?_) (fun c9 => ?_)
            · refine ev_iloadn_1 i166_77 ?_
              refine ev_ireturn i166_78 r166 ?_
              rw [← zI_zw]
              exact hK _ _ (fr_tr (fr_up (fr_rfl _ _) ⟨rfl, by decide, by decide⟩) h4) h5 (zw_r _)
            · exfalso; omega
          · refine ev_iloadn_1 i166_64 ?_
            refine ev_iloadn_3 i166_65 ?_
            refine ew_iadd i166_66 ?_
            refine ev_goto i166_67 ?_
            refine ev_istoren_1 i166_73 rfl ?_
            refine ev_goto i166_74 ?_
            refine ev_aloadn_0 i166_5 ?_
            refine ew_getI i166_6 g166_6 rfl (by first | exact h5.2 | exact hM.men | exact hM.told | exact hM.road | exact hM.stand _ (by omega) (by omega) | exact hM.reach _ (by omega) (by omega) | exact hM.arm _ (by omega) (by omega) | exact hM.late _ (by omega) (by omega) | exact hM.len _ (by omega) (by omega) | exact hM.corn _ (by omega) (by omega) | exact hM.say (by omega) (by omega) _ (by omega) (by omega) | exact hM.tone _ (by omega) (by omega)) (fun b6 => ?_)
            refine ew_ifge i166_9 (by omega) (fun c9 => ?_) (fun c9 => ?_)
            · refine ev_iloadn_1 i166_77 ?_
              refine ev_ireturn i166_78 r166 ?_
              rw [← zI_zw]
              exact hK _ _ (fr_tr (fr_up (fr_rfl _ _) ⟨rfl, by decide, by decide⟩) h4) h5 (zw_r _)
            · exfalso; omega
theorem R3_ent : Rent RL3 E cm3 cm4 n tx o := by
  intro X d I L sw K N b tc p q w hd hE q0 hS hc hK
  obtain ⟨d, rfl⟩ : ∃ d', d = d' + 4 := ⟨d - 4, by omega⟩
  refine ev_enter (lv := [.ref 72, .null, .null, .null]) l166 rfl (Nat.le_of_ble_eq_true rfl) ?_
  refine ev_aloadn_0 i166_0 ?_
  refine ev_virt0 i166_1 g166_1 rfl (by decide +kernel) (Nat.le_of_ble_eq_true rfl) (hc _ _ _ _ _ _ N b tc hE hS (fun M h4 h5 => ?_))
  refine ev_istoren_1 i166_4 rfl ?_
  exact hK M h4 h5 _ _
theorem R3_entf : Rentf E cm3 cm4 n tx o := by
  intro X d I L sw K N b tc p q hd hE q0 hS hc hK
  obtain ⟨d, rfl⟩ : ∃ d', d = d' + 4 := ⟨d - 4, by omega⟩
  refine ev_enter (lv := [.ref 72, .null, .null, .null]) l166 rfl (Nat.le_of_ble_eq_true rfl) ?_
  refine ev_aloadn_0 i166_0 ?_
  refine ev_virt0 i166_1 g166_1 rfl (by decide +kernel) (Nat.le_of_ble_eq_true rfl) (hc _ _ _ _ _ _ N b tc hE hS (fun M r h4 h5 h6 => ?_))
  refine ev_istoren_1 i166_4 rfl ?_
  refine ev_aloadn_0 i166_5 ?_
  refine ew_getI i166_6 g166_6 rfl (h5.2) (fun b6 => ?_)
  refine ew_ifge i166_9 (by omega) (fun c9 => ?_) (fun c9 => ?_)
  · refine ev_iloadn_1 i166_77 ?_
    refine ev_ireturn i166_78 r166 ?_
    exact hK _ _ h4 h5 h6
  · exfalso; omega
theorem R4_end : Rend 4 (RL4 n tx) n tx o := by
  intro X d I L sw K N b tc p v hd p0 hS hl hK o3
  obtain ⟨d, rfl⟩ : ∃ d', d = d' + 4 := ⟨d - 4, by omega⟩
  have r := hS.1.nx_r p0
  have hx : ¬ t_nx n tx p = 42 ∧ ¬ t_nx n tx p = 47 ∧ ¬ t_nx n tx p = 37 := by unfold lof at hl; omega
  refine ev_aloadn_0 i167_10 ?_
  refine ew_getI i167_11 g167_11 rfl (by first | exact hS.2.1 | exact hM.men | exact hM.told | exact hM.road | exact hM.stand _ (by omega) (by omega) | exact hM.reach _ (by omega) (by omega) | exact hM.arm _ (by omega) (by omega) | exact hM.late _ (by omega) (by omega) | exact hM.len _ (by omega) (by omega) | exact hM.corn _ (by omega) (by omega) | exact hM.say (by omega) (by omega) _ (by omega) (by omega) | exact hM.tone _ (by omega) (by omega)) (fun b11 => ?_)
  refine ew_ifge i167_14 (by omega) (fun c14 => ?_) (fun c14 => ?_)
  · refine ev_iloadn_1 i167_94 ?_
    refine ev_ireturn i167_95 r167 ?_
    first
    | (exfalso; omega)
    | exact hK I (fr_rfl _ _) hS
  · refine ev_iloadn_2 i167_17 ?_
    refine ew_bipush i167_18 (by decide) ?_
    refine ew_icmpeq i167_20 (by omega) (fun c20 => ?_) (fun c20 => ?_)
    · exfalso; omega
    · refine ev_iloadn_2 i167_23 ?_
      refine ew_bipush i167_24 (by decide) ?_
      refine ew_icmpeq i167_26 (by omega) (fun c26 => ?_) (fun c26 => ?_)
      · exfalso; omega
      · refine ev_iloadn_2 i167_29 ?_
        refine ew_bipush i167_30 (by decide) ?_
        refine ew_icmpne i167_32 (by omega) (fun c32 => ?_) (fun c32 => ?_)
        · refine ev_iloadn_1 i167_94 ?_
          refine ev_ireturn i167_95 r167 ?_
          first
          | (exfalso; omega)
          | exact hK I (fr_rfl _ _) hS
        · exfalso; omega
theorem R4_step : Rstep 4 (RL4 n tx) E cm5 n tx o := by
  intro X d I L sw K N b tc p v q w hd hE p0 q0 hS hl hc hv hw hK o3
  obtain ⟨d, rfl⟩ : ∃ d', d = d' + 4 := ⟨d - 4, by omega⟩
  have r := hS.1.nx_r p0
  have b1 := hS.1.1
  have hx : t_nx n tx p = 42 ∨ t_nx n tx p = 47 ∨ t_nx n tx p = 37 := by unfold lof at hl; omega
  have lt := t_nx_lt (n := n) (tx := tx) (p := p) (by omega)
  refine ev_aloadn_0 i167_10 ?_
  refine ew_getI i167_11 g167_11 rfl (by first | exact hS.2.1 | exact hS.1.2.2.2.2.2 | exact hM.men | exact hM.told | exact hM.road | exact hM.stand _ (by omega) (by omega) | exact hM.reach _ (by omega) (by omega) | exact hM.arm _ (by omega) (by omega) | exact hM.late _ (by omega) (by omega) | exact hM.len _ (by omega) (by omega) | exact hM.corn _ (by omega) (by omega) | exact hM.say (by omega) (by omega) _ (by omega) (by omega) | exact hM.tone _ (by omega) (by omega)) (fun b11 => ?_)
  refine ew_ifge i167_14 (by omega) (fun c14 => ?_) (fun c14 => ?_)
  · exfalso; omega
  · refine ev_iloadn_2 i167_17 ?_
    refine ew_bipush i167_18 (by decide) ?_
    refine ew_icmpeq i167_20 (by omega) (fun c20 => ?_) (fun c20 => ?_)
    · refine ev_aloadn_0 i167_35 ?_
      refine ev_dup i167_36 rfl ?_
      refine ew_getI i167_37 g167_37 rfl (by first | exact hS.2.1 | exact hS.1.2.2.2.2.2 | exact hM.men | exact hM.told | exact hM.road | exact hM.stand _ (by omega) (by omega) | exact hM.reach _ (by omega) (by omega) | exact hM.arm _ (by omega) (by omega) | exact hM.late _ (by omega) (by omega) | exact hM.len _ (by omega) (by omega) | exact hM.corn _ (by omega) (by omega) | exact hM.say (by omega) (by omega) _ (by omega) (by omega) | exact hM.tone _ (by omega) (by omega)) (fun b37 => ?_)
      refine ew_iconst i167_40 ?_
      refine ew_iadd i167_41 ?_
      refine ev_putI i167_42 g167_42 rfl ?_
      refine ev_aloadn_0 i167_45 ?_
      refine ev_virt0 i167_46 g167_46 rfl (by decide +kernel) (Nat.le_of_ble_eq_true rfl) (hc _ _ _ _ _ _ N b tc hE (hS.sAt (by omega)) (fun M h4 h5 => ?_))
      refine ev_istoren_3 i167_49 rfl ?_
      refine ev_iloadn_2 i167_50 ?_
      refine ew_bipush i167_51 (by decide) ?_
      refine ew_icmpne i167_53 (by omega) (fun c53 => ?_) (fun c53 => ?_)
      · refine ev_iloadn_3 i167_62 ?_
        first
        | refine ew_ifneB i167_63 (fun c63 => ?_) (fun c63 => ?_)
        | refine ew_ifne i167_63 (by omega) (fun c63 => ?_) (fun c63 => ?_)
        · refine ev_iloadn_2 i167_70 ?_
          refine ew_bipush i167_71 (by decide) ?_
          refine ew_icmpne i167_73 (by omega) (fun c73 => ?_) (fun c73 => ?_)
          · refine ev_iloadn_1 i167_82 ?_
            refine ev_iloadn_3 i167_83 ?_
            refine ew_iremS i167_84 (by omega) (by omega) ?_
            have e := hK M (fr_tr (fr_up (fr_rfl _ _) ⟨rfl, by decide, by decide⟩) h4) h5 (.int (zI (w N)))
            refine ev_istoren_1 i167_85 rfl ?_
            refine ev_aloadn_0 i167_86 ?_
            refine ev_virt0 i167_87 g167_87 rfl (by decide +kernel) (Nat.le_of_ble_eq_true rfl) (m_byteAt h5.1 q0 ?_)
            refine ev_istoren_2 i167_90 rfl ?_
            refine ev_goto i167_91 ?_
            first
            | (exfalso; omega)
            | (have h42 : t_nx n tx p = 42 := by omega
               rw [h42, jn_42, zI_zw] at e
               exact e)
            | (have h47 : t_nx n tx p = 47 := by omega
               rw [h47, jn_47, if_neg (by omega), zI_zw] at e
               exact e)
            | (have h47 : t_nx n tx p = 47 := by omega
               rw [h47, jn_47, if_pos (by omega)] at e
               exact e)
            | (have h37 : t_nx n tx p = 37 := by omega
               rw [h37, jn_37, if_neg (by omega), zI_zw] at e
               exact e)
            | (rcases (show t_nx n tx p = 47 ∨ t_nx n tx p = 37 by omega) with h | h
               · rw [h, jn_47, if_pos (by omega)] at e
                 exact e
               · rw [h, jn_37, if_pos (by omega)] at e
                 exact e)
          · refine ev_iloadn_1 i167_76 ?_
            refine ev_iloadn_3 i167_77 ?_
            refine ew_idivS i167_78 (by omega) (by omega) ?_
            refine ev_goto i167_79 ?_
            have e := hK M (fr_tr (fr_up (fr_rfl _ _) ⟨rfl, by decide, by decide⟩) h4) h5 (.int (zI (w N)))
            refine ev_istoren_1 i167_85 rfl ?_
            refine ev_aloadn_0 i167_86 ?_
            refine ev_virt0 i167_87 g167_87 rfl (by decide +kernel) (Nat.le_of_ble_eq_true rfl) (m_byteAt h5.1 q0 ?_)
            refine ev_istoren_2 i167_90 rfl ?_
            refine ev_goto i167_91 ?_
            first
            | (exfalso; omega)
            | (have h42 : t_nx n tx p = 42 := by omega
               rw [h42, jn_42, zI_zw] at e
               exact e)
            | (have h47 : t_nx n tx p = 47 := by omega
               rw [h47, jn_47, if_neg (by omega), zI_zw] at e
               exact e)
            | (have h47 : t_nx n tx p = 47 := by omega
               rw [h47, jn_47, if_pos (by omega)] at e
               exact e)
            | (have h37 : t_nx n tx p = 37 := by omega
               rw [h37, jn_37, if_neg (by omega), zI_zw] at e
               exact e)
            | (rcases (show t_nx n tx p = 47 ∨ t_nx n tx p = 37 by omega) with h | h
               · rw [h, jn_47, if_pos (by omega)] at e
                 exact e
               · rw [h, jn_37, if_pos (by omega)] at e
                 exact e)
        · refine ew_iconst i167_66 ?_
          refine ev_goto i167_67 ?_
          have e := hK M (fr_tr (fr_up (fr_rfl _ _) ⟨rfl, by decide, by decide⟩) h4) h5 (.int (zI (w N)))
          refine ev_istoren_1 i167_85 rfl ?_
          refine ev_aloadn_0 i167_86 ?_
          refine ev_virt0 i167_87 g167_87 rfl (by decide +kernel) (Nat.le_of_ble_eq_true rfl) (m_byteAt h5.1 q0 ?_)
          refine ev_istoren_2 i167_90 rfl ?_
          refine ev_goto i167_91 ?_
          first
          | (exfalso; omega)
          | (have h42 : t_nx n tx p = 42 := by omega
             rw [h42, jn_42, zI_zw] at e
             exact e)
          | (have h47 : t_nx n tx p = 47 := by omega
             rw [h47, jn_47, if_neg (by omega), zI_zw] at e
             exact e)
          | (have h47 : t_nx n tx p = 47 := by omega
             rw [h47, jn_47, if_pos (by omega)] at e
             exact e)
          | (have h37 : t_nx n tx p = 37 := by omega
             rw [h37, jn_37, if_neg (by omega), zI_zw] at e
             exact e)
          | (rcases (show t_nx n tx p = 47 ∨ t_nx n tx p = 37 by omega) with h | h
             · rw [h, jn_47, if_pos (by omega)] at e
               exact e
             · rw [h, jn_37, if_pos (by omega)] at e
               exact e)
      · refine ev_iloadn_1 i167_56 ?_
        refine ev_iloadn_3 i167_57 ?_
        refine ew_imul i167_58 ?_
        refine ev_goto i167_59 ?_
        have e := hK M (fr_tr (fr_up (fr_rfl _ _) ⟨rfl, by decide, by decide⟩) h4) h5 (.int (zI (w N)))
        refine ev_istoren_1 i167_85 rfl ?_
        refine ev_aloadn_0 i167_86 ?_
        refine ev_virt0 i167_87 g167_87 rfl (by decide +kernel) (Nat.le_of_ble_eq_true rfl) (m_byteAt h5.1 q0 ?_)
        refine ev_istoren_2 i167_90 rfl ?_
        refine ev_goto i167_91 ?_
        first
        | (exfalso; omega)
        | (have h42 : t_nx n tx p = 42 := by omega
           rw [h42, jn_42, zI_zw] at e
           exact e)
        | (have h47 : t_nx n tx p = 47 := by omega
           rw [h47, jn_47, if_neg (by omega), zI_zw] at e
           exact e)
        | (have h47 : t_nx n tx p = 47 := by omega
           rw [h47, jn_47, if_pos (by omega)] at e
           exact e)
        | (have h37 : t_nx n tx p = 37 := by omega
           rw [h37, jn_37, if_neg (by omega), zI_zw] at e
           exact e)
        | (rcases (show t_nx n tx p = 47 ∨ t_nx n tx p = 37 by omega) with h | h
           · rw [h, jn_47, if_pos (by omega)] at e
             exact e
           · rw [h, jn_37, if_pos (by omega)] at e
             exact e)
    · refine ev_iloadn_2 i167_23 ?_
      refine ew_bipush i167_24 (by decide) ?_
      refine ew_icmpeq i167_26 (by omega) (fun c26 => ?_) (fun c26 => ?_)
      · refine ev_aloadn_0 i167_35 ?_
        refine ev_dup i167_36 rfl ?_
        refine ew_getI i167_37 g167_37 rfl (by first | exact hS.2.1 | exact hS.1.2.2.2.2.2 | exact hM.men | exact hM.told | exact hM.road | exact hM.stand _ (by omega) (by omega) | exact hM.reach _ (by omega) (by omega) | exact hM.arm _ (by omega) (by omega) | exact hM.late _ (by omega) (by omega) | exact hM.len _ (by omega) (by omega) | exact hM.corn _ (by omega) (by omega) | exact hM.say (by omega) (by omega) _ (by omega) (by omega) | exact hM.tone _ (by omega) (by omega)) (fun b37 => ?_)
        refine ew_iconst i167_40 ?_
        refine ew_iadd i167_41 ?_
        refine ev_putI i167_42 g167_42 rfl ?_
        refine ev_aloadn_0 i167_45 ?_
        refine ev_virt0 i167_46 g167_46 rfl (by decide +kernel) (Nat.le_of_ble_eq_true rfl) (hc _ _ _ _ _ _ N b tc hE (hS.sAt (by omega)) (fun M h4 h5 => ?_))
        refine ev_istoren_3 i167_49 rfl ?_
        refine ev_iloadn_2 i167_50 ?_
        refine ew_bipush i167_51 (by decide) ?_
        refine ew_icmpne i167_53 (by omega) (fun c53 => ?_) (fun c53 => ?_)
        · refine ev_iloadn_3 i167_62 ?_
          first
          | refine ew_ifneB i167_63 (fun c63 => ?_) (fun c63 => ?_)
          | refine ew_ifne i167_63 (by omega) (fun c63 => ?_) (fun c63 => ?_)
          · refine ev_iloadn_2 i167_70 ?_
            refine ew_bipush i167_71 (by decide) ?_
            refine ew_icmpne i167_73 (by omega) (fun c73 => ?_) (fun c73 => ?_)
            · refine ev_iloadn_1 i167_82 ?_
              refine ev_iloadn_3 i167_83 ?_
              refine ew_iremS i167_84 (by omega) (by omega) ?_
              have e := hK M (fr_tr (fr_up (fr_rfl _ _) ⟨rfl, by decide, by decide⟩) h4) h5 (.int (zI (w N)))
              refine ev_istoren_1 i167_85 rfl ?_
              refine ev_aloadn_0 i167_86 ?_
              refine ev_virt0 i167_87 g167_87 rfl (by decide +kernel) (Nat.le_of_ble_eq_true rfl) (m_byteAt h5.1 q0 ?_)
              refine ev_istoren_2 i167_90 rfl ?_
              refine ev_goto i167_91 ?_
              first
              | (exfalso; omega)
              | (have h42 : t_nx n tx p = 42 := by omega
                 rw [h42, jn_42, zI_zw] at e
                 exact e)
              | (have h47 : t_nx n tx p = 47 := by omega
                 rw [h47, jn_47, if_neg (by omega), zI_zw] at e
                 exact e)
              | (have h47 : t_nx n tx p = 47 := by omega
                 rw [h47, jn_47, if_pos (by omega)] at e
                 exact e)
              | (have h37 : t_nx n tx p = 37 := by omega
                 rw [h37, jn_37, if_neg (by omega), zI_zw] at e
                 exact e)
              | (rcases (show t_nx n tx p = 47 ∨ t_nx n tx p = 37 by omega) with h | h
                 · rw [h, jn_47, if_pos (by omega)] at e
                   exact e
                 · rw [h, jn_37, if_pos (by omega)] at e
                   exact e)
            · refine ev_iloadn_1 i167_76 ?_
              refine ev_iloadn_3 i167_77 ?_
              refine ew_idivS i167_78 (by omega) (by omega) ?_
              refine ev_goto i167_79 ?_
              have e := hK M (fr_tr (fr_up (fr_rfl _ _) ⟨rfl, by decide, by decide⟩) h4) h5 (.int (zI (w N)))
              refine ev_istoren_1 i167_85 rfl ?_
              refine ev_aloadn_0 i167_86 ?_
              refine ev_virt0 i167_87 g167_87 rfl (by decide +kernel) (Nat.le_of_ble_eq_true rfl) (m_byteAt h5.1 q0 ?_)
              refine ev_istoren_2 i167_90 rfl ?_
              refine ev_goto i167_91 ?_
              first
              | (exfalso; omega)
              | (have h42 : t_nx n tx p = 42 := by omega
                 rw [h42, jn_42, zI_zw] at e
                 exact e)
              | (have h47 : t_nx n tx p = 47 := by omega
                 rw [h47, jn_47, if_neg (by omega), zI_zw] at e
                 exact e)
              | (have h47 : t_nx n tx p = 47 := by omega
                 rw [h47, jn_47, if_pos (by omega)] at e
                 exact e)
              | (have h37 : t_nx n tx p = 37 := by omega
                 rw [h37, jn_37, if_neg (by omega), zI_zw] at e
                 exact e)
              | (rcases (show t_nx n tx p = 47 ∨ t_nx n tx p = 37 by omega) with h | h
                 · rw [h, jn_47, if_pos (by omega)] at e
                   exact e
                 · rw [h, jn_37, if_pos (by omega)] at e
                   exact e)
          · refine ew_iconst i167_66 ?_
            refine ev_goto i167_67 ?_
            have e := hK M (fr_tr (fr_up (fr_rfl _ _) ⟨rfl, by decide, by decide⟩) h4) h5 (.int (zI (w N)))
            refine ev_istoren_1 i167_85 rfl ?_
            refine ev_aloadn_0 i167_86 ?_
            refine ev_virt0 i167_87 g167_87 rfl (by decide +kernel) (Nat.le_of_ble_eq_true rfl) (m_byteAt h5.1 q0 ?_)
            refine ev_istoren_2 i167_90 rfl ?_
            refine ev_goto i167_91 ?_
            first
            | (exfalso; omega)
            | (have h42 : t_nx n tx p = 42 := by omega
               rw [h42, jn_42, zI_zw] at e
               exact e)
            | (have h47 : t_nx n tx p = 47 := by omega
               rw [h47, jn_47, if_neg (by omega), zI_zw] at e
               exact e)
            | (have h47 : t_nx n tx p = 47 := by omega
               rw [h47, jn_47, if_pos (by omega)] at e
               exact e)
            | (have h37 : t_nx n tx p = 37 := by omega
               rw [h37, jn_37, if_neg (by omega), zI_zw] at e
               exact e)
            | (rcases (show t_nx n tx p = 47 ∨ t_nx n tx p = 37 by omega) with h | h
               · rw [h, jn_47, if_pos (by omega)] at e
                 exact e
               · rw [h, jn_37, if_pos (by omega)] at e
                 exact e)
        · refine ev_iloadn_1 i167_56 ?_
          refine ev_iloadn_3 i167_57 ?_
          refine ew_imul i167_58 ?_
          refine ev_goto i167_59 ?_
          have e := hK M (fr_tr (fr_up (fr_rfl _ _) ⟨rfl, by decide, by decide⟩) h4) h5 (.int (zI (w N)))
          refine ev_istoren_1 i167_85 rfl ?_
          refine ev_aloadn_0 i167_86 ?_
          refine ev_virt0 i167_87 g167_87 rfl (by decide +kernel) (Nat.le_of_ble_eq_true rfl) (m_byteAt h5.1 q0 ?_)
          refine ev_istoren_2 i167_90 rfl ?_
          refine ev_goto i167_91 ?_
          first
          | (exfalso; omega)
          | (have h42 : t_nx n tx p = 42 := by omega
             rw [h42, jn_42, zI_zw] at e
             exact e)
          | (have h47 : t_nx n tx p = 47 := by omega
             rw [h47, jn_47, if_neg (by omega), zI_zw] at e
             exact e)
          | (have h47 : t_nx n tx p = 47 := by omega
             rw [h47, jn_47, if_pos (by omega)] at e
             exact e)
          | (have h37 : t_nx n tx p = 37 := by omega
             rw [h37, jn_37, if_neg (by omega), zI_zw] at e
             exact e)
          | (rcases (show t_nx n tx p = 47 ∨ t_nx n tx p = 37 by omega) with h | h
             · rw [h, jn_47, if_pos (by omega)] at e
               exact e
             · rw [h, jn_37, if_pos (by omega)] at e
               exact e)
      · refine ev_iloadn_2 i167_29 ?_
        refine ew_bipush i167_30 (by decide) ?_
        refine ew_icmpne i167_32 (by omega) (fun c32 => ?_) (fun c32 => ?_)
        · exfalso; omega
        · refine ev_aloadn_0 i167_35 ?_
          refine ev_dup i167_36 rfl ?_
          refine ew_getI i167_37 g167_37 rfl (by first | exact hS.2.1 | exact hS.1.2.2.2.2.2 | exact hM.men | exact hM.told | exact hM.road | exact hM.stand _ (by omega) (by omega) | exact hM.reach _ (by omega) (by omega) | exact hM.arm _ (by omega) (by omega) | exact hM.late _ (by omega) (by omega) | exact hM.len _ (by omega) (by omega) | exact hM.corn _ (by omega) (by omega) | exact hM.say (by omega) (by omega) _ (by omega) (by omega) | exact hM.tone _ (by omega) (by omega)) (fun b37 => ?_)
          refine ew_iconst i167_40 ?_
          refine ew_iadd i167_41 ?_
          refine ev_putI i167_42 g167_42 rfl ?_
          refine ev_aloadn_0 i167_45 ?_
          refine ev_virt0 i167_46 g167_46 rfl (by decide +kernel) (Nat.le_of_ble_eq_true rfl) (hc _ _ _ _ _ _ N b tc hE (hS.sAt (by omega)) (fun M h4 h5 => ?_))
          refine ev_istoren_3 i167_49 rfl ?_
          refine ev_iloadn_2 i167_50 ?_
          refine ew_bipush i167_51 (by decide) ?_
          refine ew_icmpne i167_53 (by omega) (fun c53 => ?_) (fun c53 => ?_)
          · refine ev_iloadn_3 i167_62 ?_
            first
            | refine ew_ifneB i167_63 (fun c63 => ?_) (fun c63 => ?_)
            | refine ew_ifne i167_63 (by omega) (fun c63 => ?_) (fun c63 => ?_)
            · refine ev_iloadn_2 i167_70 ?_
              refine ew_bipush i167_71 (by decide) ?_
              refine ew_icmpne i167_73 (by omega) (fun c73 => ?_) (fun c73 => ?_)
              · refine ev_iloadn_1 i167_82 ?_
                refine ev_iloadn_3 i167_83 ?_
                refine ew_iremS i167_84 (by omega) (by omega) ?_
                have e := hK M (fr_tr (fr_up (fr_rfl _ _) ⟨rfl, by decide, by decide⟩) h4) h5 (.int (zI (w N)))
                refine ev_istoren_1 i167_85 rfl ?_
                refine ev_aloadn_0 i167_86 ?_
                refine ev_virt0 i167_87 g167_87 rfl (by decide +kernel) (Nat.le_of_ble_eq_true rfl) (m_byteAt h5.1 q0 ?_)
                refine ev_istoren_2 i167_90 rfl ?_
                refine ev_goto i167_91 ?_
                first
                | (exfalso; omega)
                | (have h42 : t_nx n tx p = 42 := by omega
                   rw [h42, jn_42, zI_zw] at e
                   exact e)
                | (have h47 : t_nx n tx p = 47 := by omega
                   rw [h47, jn_47, if_neg (by omega), zI_zw] at e
                   exact e)
                | (have h47 : t_nx n tx p = 47 := by omega
                   rw [h47, jn_47, if_pos (by omega)] at e
                   exact e)
                | (have h37 : t_nx n tx p = 37 := by omega
                   rw [h37, jn_37, if_neg (by omega), zI_zw] at e
                   exact e)
                | (rcases (show t_nx n tx p = 47 ∨ t_nx n tx p = 37 by omega) with h | h
                   · rw [h, jn_47, if_pos (by omega)] at e
                     exact e
                   · rw [h, jn_37, if_pos (by omega)] at e
                     exact e)
              · refine ev_iloadn_1 i167_76 ?_
                refine ev_iloadn_3 i167_77 ?_
                refine ew_idivS i167_78 (by omega) (by omega) ?_
                refine ev_goto i167_79 ?_
                have e := hK M (fr_tr (fr_up (fr_rfl _ _) ⟨rfl, by decide, by decide⟩) h4) h5 (.int (zI (w N)))
                refine ev_istoren_1 i167_85 rfl ?_
                refine ev_aloadn_0 i167_86 ?_
                refine ev_virt0 i167_87 g167_87 rfl (by decide +kernel) (Nat.le_of_ble_eq_true rfl) (m_byteAt h5.1 q0 ?_)
                refine ev_istoren_2 i167_90 rfl ?_
                refine ev_goto i167_91 ?_
                first
                | (exfalso; omega)
                | (have h42 : t_nx n tx p = 42 := by omega
                   rw [h42, jn_42, zI_zw] at e
                   exact e)
                | (have h47 : t_nx n tx p = 47 := by omega
                   rw [h47, jn_47, if_neg (by omega), zI_zw] at e
                   exact e)
                | (have h47 : t_nx n tx p = 47 := by omega
                   rw [h47, jn_47, if_pos (by omega)] at e
                   exact e)
                | (have h37 : t_nx n tx p = 37 := by omega
                   rw [h37, jn_37, if_neg (by omega), zI_zw] at e
                   exact e)
                | (rcases (show t_nx n tx p = 47 ∨ t_nx n tx p = 37 by omega) with h | h
                   · rw [h, jn_47, if_pos (by omega)] at e
                     exact e
                   · rw [h, jn_37, if_pos (by omega)] at e
                     exact e)
            · refine ew_iconst i167_66 ?_
              refine ev_goto i167_67 ?_
              have e := hK M (fr_tr (fr_up (fr_rfl _ _) ⟨rfl, by decide, by decide⟩) h4) h5 (.int (zI (w N)))
              refine ev_istoren_1 i167_85 rfl ?_
              refine ev_aloadn_0 i167_86 ?_
              refine ev_virt0 i167_87 g167_87 rfl (by decide +kernel) (Nat.le_of_ble_eq_true rfl) (m_byteAt h5.1 q0 ?_)
              refine ev_istoren_2 i167_90 rfl ?_
              refine ev_goto i167_91 ?_
              first
              | (exfalso; omega)
              | (have h42 : t_nx n tx p = 42 := by omega
                 rw [h42, jn_42, zI_zw] at e
                 exact e)
              | (have h47 : t_nx n tx p = 47 := by omega
                 rw [h47, jn_47, if_neg (by omega), zI_zw] at e
                 exact e)
              | (have h47 : t_nx n tx p = 47 := by omega
                 rw [h47, jn_47, if_pos (by omega)] at e
                 exact e)
              | (have h37 : t_nx n tx p = 37 := by omega
                 rw [h37, jn_37, if_neg (by omega), zI_zw] at e
                 exact e)
              | (rcases (show t_nx n tx p = 47 ∨ t_nx n tx p = 37 by omega) with h | h
                 · rw [h, jn_47, if_pos (by omega)] at e
                   exact e
                 · rw [h, jn_37, if_pos (by omega)] at e
                   exact e)
          · refine ev_iloadn_1 i167_56 ?_
            refine ev_iloadn_3 i167_57 ?_
            refine ew_imul i167_58 ?_
            refine ev_goto i167_59 ?_
            have e := hK M (fr_tr (fr_up (fr_rfl _ _) ⟨rfl, by decide, by decide⟩) h4) h5 (.int (zI (w N)))
            refine ev_istoren_1 i167_85 rfl ?_
            refine ev_aloadn_0 i167_86 ?_
            refine ev_virt0 i167_87 g167_87 rfl (by decide +kernel) (Nat.le_of_ble_eq_true rfl) (m_byteAt h5.1 q0 ?_)
            refine ev_istoren_2 i167_90 rfl ?_
            refine ev_goto i167_91 ?_
            first
            | (exfalso; omega)
            | (have h42 : t_nx n tx p = 42 := by omega
               rw [h42, jn_42, zI_zw] at e
               exact e)
            | (have h47 : t_nx n tx p = 47 := by omega
               rw [h47, jn_47, if_neg (by omega), zI_zw] at e
               exact e)
            | (have h47 : t_nx n tx p = 47 := by omega
               rw [h47, jn_47, if_pos (by omega)] at e
               exact e)
            | (have h37 : t_nx n tx p = 37 := by omega
               rw [h37, jn_37, if_neg (by omega), zI_zw] at e
               exact e)
            | (rcases (show t_nx n tx p = 47 ∨ t_nx n tx p = 37 by omega) with h | h
               · rw [h, jn_47, if_pos (by omega)] at e
                 exact e
               · rw [h, jn_37, if_pos (by omega)] at e
                 exact e)
theorem R4_fail : Rfail 4 (RL4 n tx) E cm5 n tx o := by
  intro X d I L sw K N b tc p v q hd hE p0 q0 hS hl hc hv hK o3
  obtain ⟨d, rfl⟩ : ∃ d', d = d' + 4 := ⟨d - 4, by omega⟩
  have r := hS.1.nx_r p0
  have b1 := hS.1.1
  have hx : t_nx n tx p = 42 ∨ t_nx n tx p = 47 ∨ t_nx n tx p = 37 := by unfold lof at hl; omega
  have lt := t_nx_lt (n := n) (tx := tx) (p := p) (by omega)
  refine ev_aloadn_0 i167_10 ?_
  refine ew_getI i167_11 g167_11 rfl (by first | exact hS.2.1 | exact hS.1.2.2.2.2.2 | exact hM.men | exact hM.told | exact hM.road | exact hM.stand _ (by omega) (by omega) | exact hM.reach _ (by omega) (by omega) | exact hM.arm _ (by omega) (by omega) | exact hM.late _ (by omega) (by omega) | exact hM.len _ (by omega) (by omega) | exact hM.corn _ (by omega) (by omega) | exact hM.say (by omega) (by omega) _ (by omega) (by omega) | exact hM.tone _ (by omega) (by omega)) (fun b11 => ?_)
  refine ew_ifge i167_14 (by omega) (fun c14 => ?_) (fun c14 => ?_)
  · exfalso; omega
  · refine ev_iloadn_2 i167_17 ?_
    refine ew_bipush i167_18 (by decide) ?_
    refine ew_icmpeq i167_20 (by omega) (fun c20 => ?_) (fun c20 => ?_)
    · refine ev_aloadn_0 i167_35 ?_
      refine ev_dup i167_36 rfl ?_
      refine ew_getI i167_37 g167_37 rfl (by first | exact hS.2.1 | exact hS.1.2.2.2.2.2 | exact hM.men | exact hM.told | exact hM.road | exact hM.stand _ (by omega) (by omega) | exact hM.reach _ (by omega) (by omega) | exact hM.arm _ (by omega) (by omega) | exact hM.late _ (by omega) (by omega) | exact hM.len _ (by omega) (by omega) | exact hM.corn _ (by omega) (by omega) | exact hM.say (by omega) (by omega) _ (by omega) (by omega) | exact hM.tone _ (by omega) (by omega)) (fun b37 => ?_)
      refine ew_iconst i167_40 ?_
      refine ew_iadd i167_41 ?_
      refine ev_putI i167_42 g167_42 rfl ?_
      refine ev_aloadn_0 i167_45 ?_
      refine ev_virt0 i167_46 g167_46 rfl (by decide +kernel) (Nat.le_of_ble_eq_true rfl) (hc _ _ _ _ _ _ N b tc hE (hS.sAt (by omega)) (fun M r h4 h5 h6 => ?_))
      refine ev_istoren_3 i167_49 rfl ?_
      refine ev_iloadn_2 i167_50 ?_
      refine ew_bipush i167_51 (by decide) ?_
      refine ew_icmpne i167_53 (by omega) (fun c53 => ?_) (fun c53 => ?_)
      · refine ev_iloadn_3 i167_62 ?_
        first
        | refine ew_ifneB i167_63 (fun c63 => ?_) (fun c63 => ?_)
        | refine ew_ifne i167_63 (by omega) (fun c63 => ?_) (fun c63 => ?_)
        · refine ev_iloadn_2 i167_70 ?_
          refine ew_bipush i167_71 (by decide) ?_
          refine ew_icmpne i167_73 (by omega) (fun c73 => ?_) (fun c73 => ?_)
          · refine ev_iloadn_1 i167_82 ?_
            refine ev_iloadn_3 i167_83 ?_
            refine ew_iremS i167_84 (by omega) (by omega) ?_
            refine ev_istoren_1 i167_85 rfl ?_
            refine ev_aloadn_0 i167_86 ?_
            refine ev_virt0 i167_87 g167_87 rfl (by decide +kernel) (Nat.le_of_ble_eq_true rfl) (m_byteAt h5.1 q0 ?_)
            refine ev_istoren_2 i167_90 rfl ?_
            refine ev_goto i167_91 ?_
            refine ev_aloadn_0 i167_10 ?_
            refine ew_getI i167_11 g167_11 rfl (by first | exact h5.2 | exact hM.men | exact hM.told | exact hM.road | exact hM.stand _ (by omega) (by omega) | exact hM.reach _ (by omega) (by omega) | exact hM.arm _ (by omega) (by omega) | exact hM.late _ (by omega) (by omega) | exact hM.len _ (by omega) (by omega) | exact hM.corn _ (by omega) (by omega) | exact hM.say (by omega) (by omega) _ (by omega) (by omega) | exact hM.tone _ (by omega) (by omega)) (fun b11 => ?_)
            refine ew_ifge i167_14 (by omega) (fun c14 => ?_) (fun c14 => ?_)
            · refine ev_iloadn_1 i167_94 ?_
              refine ev_ireturn i167_95 r167 ?_
              rw [← zI_zw]
              exact hK _ _ (fr_tr (fr_up (fr_rfl _ _) ⟨rfl, by decide, by decide⟩) h4) h5 (zw_r _)
            · exfalso; omega
          · refine ev_iloadn_1 i167_76 ?_
            refine ev_iloadn_3 i167_77 ?_
            refine ew_idivS i167_78 (by omega) (by omega) ?_
            refine ev_goto i167_79 ?_
            refine ev_istoren_1 i167_85 rfl ?_
            refine ev_aloadn_0 i167_86 ?_
            refine ev_virt0 i167_87 g167_87 rfl (by decide +kernel) (Nat.le_of_ble_eq_true rfl) (m_byteAt h5.1 q0 ?_)
            refine ev_istoren_2 i167_90 rfl ?_
            refine ev_goto i167_91 ?_
            refine ev_aloadn_0 i167_10 ?_
            refine ew_getI i167_11 g167_11 rfl (by first | exact h5.2 | exact hM.men | exact hM.told | exact hM.road | exact hM.stand _ (by omega) (by omega) | exact hM.reach _ (by omega) (by omega) | exact hM.arm _ (by omega) (by omega) | exact hM.late _ (by omega) (by omega) | exact hM.len _ (by omega) (by omega) | exact hM.corn _ (by omega) (by omega) | exact hM.say (by omega) (by omega) _ (by omega) (by omega) | exact hM.tone _ (by omega) (by omega)) (fun b11 => ?_)
            refine ew_ifge i167_14 (by omega) (fun c14 => ?_) (fun c14 => ?_)
            · refine ev_iloadn_1 i167_94 ?_
              refine ev_ireturn i167_95 r167 ?_
              rw [← zI_zw]
              exact hK _ _ (fr_tr (fr_up (fr_rfl _ _) ⟨rfl, by decide, by decide⟩) h4) h5 (zw_r _)
            · exfalso; omega
        · refine ew_iconst i167_66 ?_
          refine ev_goto i167_67 ?_
          refine ev_istoren_1 i167_85 rfl ?_
          refine ev_aloadn_0 i167_86 ?_
          refine ev_virt0 i167_87 g167_87 rfl (by decide +kernel) (Nat.le_of_ble_eq_true rfl) (m_byteAt h5.1 q0 ?_)
          refine ev_istoren_2 i167_90 rfl ?_
          refine ev_goto i167_91 ?_
          refine ev_aloadn_0 i167_10 ?_
          refine ew_getI i167_11 g167_11 rfl (by first | exact h5.2 | exact hM.men | exact hM.told | exact hM.road | exact hM.stand _ (by omega) (by omega) | exact hM.reach _ (by omega) (by omega) | exact hM.arm _ (by omega) (by omega) | exact hM.late _ (by omega) (by omega) | exact hM.len _ (by omega) (by omega) | exact hM.corn _ (by omega) (by omega) | exact hM.say (by omega) (by omega) _ (by omega) (by omega) | exact hM.tone _ (by omega) (by omega)) (fun b11 => ?_)
          refine ew_ifge i167_14 (by omega) (fun c14 => ?_) (fun c14 => ?_)
          · refine ev_iloadn_1 i167_94 ?_
            refine ev_ireturn i167_95 r167 ?_
            rw [← zI_zw]
            exact hK _ _ (fr_tr (fr_up (fr_rfl _ _) ⟨rfl, by decide, by decide⟩) h4) h5 (zw_r _)
          · exfalso; omega
      · refine ev_iloadn_1 i167_56 ?_
        refine ev_iloadn_3 i167_57 ?_
        refine ew_imul i167_58 ?_
        refine ev_goto i167_59 ?_
        refine ev_istoren_1 i167_85 rfl ?_
        refine ev_aloadn_0 i167_86 ?_
        refine ev_virt0 i167_87 g167_87 rfl (by decide +kernel) (Nat.le_of_ble_eq_true rfl) (m_byteAt h5.1 q0 ?_)
        refine ev_istoren_2 i167_90 rfl ?_
        refine ev_goto i167_91 ?_
        refine ev_aloadn_0 i167_10 ?_
        refine ew_getI i167_11 g167_11 rfl (by first | exact h5.2 | exact hM.men | exact hM.told | exact hM.road | exact hM.stand _ (by omega) (by omega) | exact hM.reach _ (by omega) (by omega) | exact hM.arm _ (by omega) (by omega) | exact hM.late _ (by omega) (by omega) | exact hM.len _ (by omega) (by omega) | exact hM.corn _ (by omega) (by omega) | exact hM.say (by omega) (by omega) _ (by omega) (by omega) | exact hM.tone _ (by omega) (by omega)) (fun b11 => ?_)
        refine ew_ifge i167_14 (by omega) (fun c14 => ?_) (fun c14 => ?_)
        · refine ev_iloadn_1 i167_94 ?_
          refine ev_ireturn i167_95 r167 ?_
          rw [← zI_zw]
          exact hK _ _ (fr_tr (fr_up (fr_rfl _ _) ⟨rfl, by decide, by decide⟩) h4) h5 (zw_r _)
        · exfalso; omega
    · refine ev_iloadn_2 i167_23 ?_
      refine ew_bipush i167_24 (by decide) ?_
      refine ew_icmpeq i167_26 (by omega) (fun c26 => ?_) (fun c26 => ?_)
      · refine ev_aloadn_0 i167_35 ?_
        refine ev_dup i167_36 rfl ?_
        refine ew_getI i167_37 g167_37 rfl (by first | exact hS.2.1 | exact hS.1.2.2.2.2.2 | exact hM.men | exact hM.told | exact hM.road | exact hM.stand _ (by omega) (by omega) | exact hM.reach _ (by omega) (by omega) | exact hM.arm _ (by omega) (by omega) | exact hM.late _ (by omega) (by omega) | exact hM.len _ (by omega) (by omega) | exact hM.corn _ (by omega) (by omega) | exact hM.say (by omega) (by omega) _ (by omega) (by omega) | exact hM.tone _ (by omega) (by omega)) (fun b37 => ?_)
        refine ew_iconst i167_40 ?_
        refine ew_iadd i167_41 ?_
        refine ev_putI i167_42 g167_42 rfl ?_
        refine ev_aloadn_0 i167_45 ?_
        refine ev_virt0 i167_46 g167_46 rfl (by decide +kernel) (Nat.le_of_ble_eq_true rfl) (hc _ _ _ _ _ _ N b tc hE (hS.sAt (by omega)) (fun M r h4 h5 h6 => ?_))
        refine ev_istoren_3 i167_49 rfl ?_
        refine ev_iloadn_2 i167_50 ?_
        refine ew_bipush i167_51 (by decide) ?_
        refine ew_icmpne i167_53 (by omega) (fun c53 => ?_) (fun c53 => ?_)
        · refine ev_iloadn_3 i167_62 ?_
          first
          | refine ew_ifneB i167_63 (fun c63 => ?_) (fun c63 => ?_)
          | refine ew_ifne i167_63 (by omega) (fun c63 => ?_) (fun c63 => ?_)
          · refine ev_iloadn_2 i167_70 ?_
            refine ew_bipush i167_71 (by decide) ?_
            refine ew_icmpne i167_73 (by omega) (fun c73 => ?_) (fun c73 => ?_)
            · refine ev_iloadn_1 i167_82 ?_
              refine ev_iloadn_3 i167_83 ?_
              refine ew_iremS i167_84 (by omega) (by omega) ?_
              refine ev_istoren_1 i167_85 rfl ?_
              refine ev_aloadn_0 i167_86 ?_
              refine ev_virt0 i167_87 g167_87 rfl (by decide +kernel) (Nat.le_of_ble_eq_true rfl) (m_byteAt h5.1 q0 ?_)
              refine ev_istoren_2 i167_90 rfl ?_
              refine ev_goto i167_91 ?_
              refine ev_aloadn_0 i167_10 ?_
              refine ew_getI i167_11 g167_11 rfl (by first | exact h5.2 | exact hM.men | exact hM.told | exact hM.road | exact hM.stand _ (by omega) (by omega) | exact hM.reach _ (by omega) (by omega) | exact hM.arm _ (by omega) (by omega) | exact hM.late _ (by omega) (by omega) | exact hM.len _ (by omega) (by omega) | exact hM.corn _ (by omega) (by omega) | exact hM.say (by omega) (by omega) _ (by omega) (by omega) | exact hM.tone _ (by omega) (by omega)) (fun b11 => ?_)
              refine ew_ifge i167_14 (by omega) (fun c14 => ?_) (fun c14 => ?_)
              · refine ev_iloadn_1 i167_94 ?_
                refine ev_ireturn i167_95 r167 ?_
                rw [← zI_zw]
                exact hK _ _ (fr_tr (fr_up (fr_rfl _ _) ⟨rfl, by decide, by decide⟩) h4) h5 (zw_r _)
              · exfalso; omega
            · refine ev_iloadn_1 i167_76 ?_
              refine ev_iloadn_3 i167_77 ?_
              refine ew_idivS i167_78 (by omega) (by omega) ?_
              refine ev_goto i167_79 ?_
              refine ev_istoren_1 i167_85 rfl ?_
              refine ev_aloadn_0 i167_86 ?_
              refine ev_virt0 i167_87 g167_87 rfl (by decide +kernel) (Nat.le_of_ble_eq_true rfl) (m_byteAt h5.1 q0 ?_)
              refine ev_istoren_2 i167_90 rfl ?_
              refine ev_goto i167_91 ?_
              refine ev_aloadn_0 i167_10 ?_
              refine ew_getI i167_11 g167_11 rfl (by first | exact h5.2 | exact hM.men | exact hM.told | exact hM.road | exact hM.stand _ (by omega) (by omega) | exact hM.reach _ (by omega) (by omega) | exact hM.arm _ (by omega) (by omega) | exact hM.late _ (by omega) (by omega) | exact hM.len _ (by omega) (by omega) | exact hM.corn _ (by omega) (by omega) | exact hM.say (by omega) (by omega) _ (by omega) (by omega) | exact hM.tone _ (by omega) (by omega)) (fun b11 => ?_)
              refine ew_ifge i167_14 (by omega) (fun c14 => ?_) (fun c14 => ?_)
              · refine ev_iloadn_1 i167_94 ?_
                refine ev_ireturn i167_95 r167 ?_
                rw [← zI_zw]
                exact hK _ _ (fr_tr (fr_up (fr_rfl _ _) ⟨rfl, by decide, by decide⟩) h4) h5 (zw_r _)
              · exfalso; omega
          · refine ew_iconst i167_66 ?_
            refine ev_goto i167_67 ?_
            refine ev_istoren_1 i167_85 rfl ?_
            refine ev_aloadn_0 i167_86 ?_
            refine ev_virt0 i167_87 g167_87 rfl (by decide +kernel) (Nat.le_of_ble_eq_true rfl) (m_byteAt h5.1 q0 ?_)
            refine ev_istoren_2 i167_90 rfl ?_
            refine ev_goto i167_91 ?_
            refine ev_aloadn_0 i167_10 ?_
            refine ew_getI i167_11 g167_11 rfl (by first | exact h5.2 | exact hM.men | exact hM.told | exact hM.road | exact hM.stand _ (by omega) (by omega) | exact hM.reach _ (by omega) (by omega) | exact hM.arm _ (by omega) (by omega) | exact hM.late _ (by omega) (by omega) | exact hM.len _ (by omega) (by omega) | exact hM.corn _ (by omega) (by omega) | exact hM.say (by omega) (by omega) _ (by omega) (by omega) | exact hM.tone _ (by omega) (by omega)) (fun b11 => ?_)
            refine ew_ifge i167_14 (by omega) (fun c14 => ?_) (fun c14 => ?_)
            · refine ev_iloadn_1 i167_94 ?_
              refine ev_ireturn i167_95 r167 ?_
              rw [← zI_zw]
              exact hK _ _ (fr_tr (fr_up (fr_rfl _ _) ⟨rfl, by decide, by decide⟩) h4) h5 (zw_r _)
            · exfalso; omega
        · refine ev_iloadn_1 i167_56 ?_
          refine ev_iloadn_3 i167_57 ?_
          refine ew_imul i167_58 ?_
          refine ev_goto i167_59 ?_
          refine ev_istoren_1 i167_85 rfl ?_
          refine ev_aloadn_0 i167_86 ?_
          refine ev_virt0 i167_87 g167_87 rfl (by decide +kernel) (Nat.le_of_ble_eq_true rfl) (m_byteAt h5.1 q0 ?_)
          refine ev_istoren_2 i167_90 rfl ?_
          refine ev_goto i167_91 ?_
          refine ev_aloadn_0 i167_10 ?_
          refine ew_getI i167_11 g167_11 rfl (by first | exact h5.2 | exact hM.men | exact hM.told | exact hM.road | exact hM.stand _ (by omega) (by omega) | exact hM.reach _ (by omega) (by omega) | exact hM.arm _ (by omega) (by omega) | exact hM.late _ (by omega) (by omega) | exact hM.len _ (by omega) (by omega) | exact hM.corn _ (by omega) (by omega) | exact hM.say (by omega) (by omega) _ (by omega) (by omega) | exact hM.tone _ (by omega) (by omega)) (fun b11 => ?_)
          refine ew_ifge i167_14 (by omega) (fun c14 => ?_) (fun c14 => ?_)
          · refine ev_iloadn_1 i167_94 ?_
            refine ev_ireturn i167_95 r167 ?_
            rw [← zI_zw]
            exact hK _ _ (fr_tr (fr_up (fr_rfl _ _) ⟨rfl, by decide, by decide⟩) h4) h5 (zw_r _)
          · exfalso; omega
      · refine ev_iloadn_2 i167_29 ?_
        refine ew_bipush i167_30 (by decide) ?_
        refine ew_icmpne i167_32 (by omega) (fun c32 => ?_) (fun c32 => ?_)
        · exfalso; omega
        · refine ev_aloadn_0 i167_35 ?_
          refine ev_dup i167_36 rfl ?_
          refine ew_getI i167_37 g167_37 rfl (by first | exact hS.2.1 | exact hS.1.2.2.2.2.2 | exact hM.men | exact hM.told | exact hM.road | exact hM.stand _ (by omega) (by omega) | exact hM.reach _ (by omega) (by omega) | exact hM.arm _ (by omega) (by omega) | exact hM.late _ (by omega) (by omega) | exact hM.len _ (by omega) (by omega) | exact hM.corn _ (by omega) (by omega) | exact hM.say (by omega) (by omega) _ (by omega) (by omega) | exact hM.tone _ (by omega) (by omega)) (fun b37 => ?_)
          refine ew_iconst i167_40 ?_
          refine ew_iadd i167_41 ?_
          refine ev_putI i167_42 g167_42 rfl ?_
          refine ev_aloadn_0 i167_45 ?_
          refine ev_virt0 i167_46 g167_46 rfl (by decide +kernel) (Nat.le_of_ble_eq_true rfl) (hc _ _ _ _ _ _ N b tc hE (hS.sAt (by omega)) (fun M r h4 h5 h6 => ?_))
          refine ev_istoren_3 i167_49 rfl ?_
          refine ev_iloadn_2 i167_50 ?_
          refine ew_bipush i167_51 (by decide) ?_
          refine ew_icmpne i167_53 (by omega) (fun c53 => ?_) (fun c53 => ?_)
          · refine ev_iloadn_3 i167_62 ?_
            first
            | refine ew_ifneB i167_63 (fun c63 => ?_) (fun c63 => ?_)
            | refine ew_ifne i167_63 (by omega) (fun c63 => ?_) (fun c63 => ?_)
            · refine ev_iloadn_2 i167_70 ?_
              refine ew_bipush i167_71 (by decide) ?_
              refine ew_icmpne i167_73 (by omega) (fun c73 => ?_) (fun c73 => ?_)
              · refine ev_iloadn_1 i167_82 ?_
                refine ev_iloadn_3 i167_83 ?_
                refine ew_iremS i167_84 (by omega) (by omega) ?_
                refine ev_istoren_1 i167_85 rfl ?_
                refine ev_aloadn_0 i167_86 ?_
                refine ev_virt0 i167_87 g167_87 rfl (by decide +kernel) (Nat.le_of_ble_eq_true rfl) (m_byteAt h5.1 q0 ?_)
                refine ev_istoren_2 i167_90 rfl ?_
                refine ev_goto i167_91 ?_
                refine ev_aloadn_0 i167_10 ?_
                refine ew_getI i167_11 g167_11 rfl (by first | exact h5.2 | exact hM.men | exact hM.told | exact hM.road | exact hM.stand _ (by omega) (by omega) | exact hM.reach _ (by omega) (by omega) | exact hM.arm _ (by omega) (by omega) | exact hM.late _ (by omega) (by omega) | exact hM.len _ (by omega) (by omega) | exact hM.corn _ (by omega) (by omega) | exact hM.say (by omega) (by omega) _ (by omega) (by omega) | exact hM.tone _ (by omega) (by omega)) (fun b11 => ?_)
                refine ew_ifge i167_14 (by omega) (fun c14 => ?_) (fun c14 => ?_)
                · refine ev_iloadn_1 i167_94 ?_
                  refine ev_ireturn i167_95 r167 ?_
                  rw [← zI_zw]
                  exact hK _ _ (fr_tr (fr_up (fr_rfl _ _) ⟨rfl, by decide, by decide⟩) h4) h5 (zw_r _)
                · exfalso; omega
              · refine ev_iloadn_1 i167_76 ?_
                refine ev_iloadn_3 i167_77 ?_
                refine ew_idivS i167_78 (by omega) (by omega) ?_
                refine ev_goto i167_79 ?_
                refine ev_istoren_1 i167_85 rfl ?_
                refine ev_aloadn_0 i167_86 ?_
                refine ev_virt0 i167_87 g167_87 rfl (by decide +kernel) (Nat.le_of_ble_eq_true rfl) (m_byteAt h5.1 q0 ?_)
                refine ev_istoren_2 i167_90 rfl ?_
                refine ev_goto i167_91 ?_
                refine ev_aloadn_0 i167_10 ?_
                refine ew_getI i167_11 g167_11 rfl (by first | exact h5.2 | exact hM.men | exact hM.told | exact hM.road | exact hM.stand _ (by omega) (by omega) | exact hM.reach _ (by omega) (by omega) | exact hM.arm _ (by omega) (by omega) | exact hM.late _ (by omega) (by omega) | exact hM.len _ (by omega) (by omega) | exact hM.corn _ (by omega) (by omega) | exact hM.say (by omega) (by omega) _ (by omega) (by omega) | exact hM.tone _ (by omega) (by omega)) (fun b11 => ?_)
                refine ew_ifge i167_14 (by omega) (fun c14 => ?_) (fun c14 => ?_)
                · refine ev_iloadn_1 i167_94 ?_
                  refine ev_ireturn i167_95 r167 ?_
                  rw [← zI_zw]
                  exact hK _ _ (fr_tr (fr_up (fr_rfl _ _) ⟨rfl, by decide, by decide⟩) h4) h5 (zw_r _)
                · exfalso; omega
            · refine ew_iconst i167_66 ?_
              refine ev_goto i167_67 ?_
              refine ev_istoren_1 i167_85 rfl ?_
              refine ev_aloadn_0 i167_86 ?_
              refine ev_virt0 i167_87 g167_87 rfl (by decide +kernel) (Nat.le_of_ble_eq_true rfl) (m_byteAt h5.1 q0 ?_)
              refine ev_istoren_2 i167_90 rfl ?_
              refine ev_goto i167_91 ?_
              refine ev_aloadn_0 i167_10 ?_
              refine ew_getI i167_11 g167_11 rfl (by first | exact h5.2 | exact hM.men | exact hM.told | exact hM.road | exact hM.stand _ (by omega) (by omega) | exact hM.reach _ (by omega) (by omega) | exact hM.arm _ (by omega) (by omega) | exact hM.late _ (by omega) (by omega) | exact hM.len _ (by omega) (by omega) | exact hM.corn _ (by omega) (by omega) | exact hM.say (by omega) (by omega) _ (by omega) (by omega) | exact hM.tone _ (by omega) (by omega)) (fun b11 => ?_)
              refine ew_ifge i167_14 (by omega) (fun c14 => ?_) (fun c14 => ?_)
              · refine ev_iloadn_1 i167_94 ?_
                refine ev_ireturn i167_95 r167 ?_
                rw [← zI_zw]
                exact hK _ _ (fr_tr (fr_up (fr_rfl _ _) ⟨rfl, by decide, by decide⟩) h4) h5 (zw_r _)
              · exfalso; omega
          · refine ev_iloadn_1 i167_56 ?_
            refine ev_iloadn_3 i167_57 ?_
            refine ew_imul i167_58 ?_
            refine ev_goto i167_59 ?_
            refine ev_istoren_1 i167_85 rfl ?_
            refine ev_aloadn_0 i167_86 ?_
            refine ev_virt0 i167_87 g167_87 rfl (by decide +kernel) (Nat.le_of_ble_eq_true rfl) (m_byteAt h5.1 q0 ?_)
            refine ev_istoren_2 i167_90 rfl ?_
            refine ev_goto i167_91 ?_
            refine ev_aloadn_0 i167_10 ?_
            refine ew_getI i167_11 g167_11 rfl (by first | exact h5.2 | exact hM.men | exact hM.told | exact hM.road | exact hM.stand _ (by omega) (by omega) | exact hM.reach _ (by omega) (by omega) | exact hM.arm _ (by omega) (by omega) | exact hM.late _ (by omega) (by omega) | exact hM.len _ (by omega) (by omega) | exact hM.corn _ (by omega) (by omega) | exact hM.say (by omega) (by omega) _ (by omega) (by omega) | exact hM.tone _ (by omega) (by omega)) (fun b11 => ?_)
            refine ew_ifge i167_14 (by omega) (fun c14 => ?_) (fun c14 => ?_)
            · refine ev_iloadn_1 i167_94 ?_
              refine ev_ireturn i167_95 r167 ?_
              rw [← zI_zw]
              exact hK _ _ (fr_tr (fr_up (fr_rfl _ _) ⟨rfl, by decide, by decide⟩) h4) h5 (zw_r _)
            · exfalso; omega
theorem R4_ent : Rent (RL4 n tx) E cm4 cm5 n tx o := by
  intro X d I L sw K N b tc p q w hd hE q0 hS hc hK
  obtain ⟨d, rfl⟩ : ∃ d', d = d' + 4 := ⟨d - 4, by omega⟩
  refine ev_enter (lv := [.ref 72, .null, .null, .null]) l167 rfl (Nat.le_of_ble_eq_true rfl) ?_
  refine ev_aloadn_0 i167_0 ?_
  refine ev_virt0 i167_1 g167_1 rfl (by decide +kernel) (Nat.le_of_ble_eq_true rfl) (hc _ _ _ _ _ _ N b tc hE hS (fun M h4 h5 => ?_))
  refine ev_istoren_1 i167_4 rfl ?_
  refine ev_aloadn_0 i167_5 ?_
  refine ev_virt0 i167_6 g167_6 rfl (by decide +kernel) (Nat.le_of_ble_eq_true rfl) (m_byteAt h5.1 q0 ?_)
  refine ev_istoren_2 i167_9 rfl ?_
  exact hK M h4 h5 _
theorem R4_entf : Rentf E cm4 cm5 n tx o := by
  intro X d I L sw K N b tc p q hd hE q0 hS hc hK
  obtain ⟨d, rfl⟩ : ∃ d', d = d' + 4 := ⟨d - 4, by omega⟩
  refine ev_enter (lv := [.ref 72, .null, .null, .null]) l167 rfl (Nat.le_of_ble_eq_true rfl) ?_
  refine ev_aloadn_0 i167_0 ?_
  refine ev_virt0 i167_1 g167_1 rfl (by decide +kernel) (Nat.le_of_ble_eq_true rfl) (hc _ _ _ _ _ _ N b tc hE hS (fun M r h4 h5 h6 => ?_))
  refine ev_istoren_1 i167_4 rfl ?_
  refine ev_aloadn_0 i167_5 ?_
  refine ev_virt0 i167_6 g167_6 rfl (by decide +kernel) (Nat.le_of_ble_eq_true rfl) (m_byteAt h5.1 q0 ?_)
  refine ev_istoren_2 i167_9 rfl ?_
  refine ev_aloadn_0 i167_10 ?_
  refine ew_getI i167_11 g167_11 rfl (h5.2) (fun b11 => ?_)
  refine ew_ifge i167_14 (by omega) (fun c14 => ?_) (fun c14 => ?_)
  · refine ev_iloadn_1 i167_94 ?_
    refine ev_ireturn i167_95 r167 ?_
    exact hK _ _ h4 h5 h6
  · exfalso; omega
theorem R2_end : Rend 2 RL2 n tx o := by
  intro X d I L sw K N b tc p v hd p0 hS hl hK o2 o3
  obtain ⟨d, rfl⟩ : ∃ d', d = d' + 4 := ⟨d - 4, by omega⟩
  have r := hS.1.nx_r p0
  have hx : ¬ t_nx n tx p = 60 ∧ ¬ t_nx n tx p = 61 ∧ ¬ t_nx n tx p = 62 := by unfold lof at hl; omega
  refine ev_aloadn_0 i165_5 ?_
  refine ev_virt0 i165_6 g165_6 rfl (by decide +kernel) (Nat.le_of_ble_eq_true rfl) (m_byteAt hS.1 p0 ?_)
  refine ev_istoren_2 i165_9 rfl ?_
  refine ev_aloadn_0 i165_10 ?_
  refine ew_getI i165_11 g165_11 rfl (by first | exact hS.2.1 | exact hM.men | exact hM.told | exact hM.road | exact hM.stand _ (by omega) (by omega) | exact hM.reach _ (by omega) (by omega) | exact hM.arm _ (by omega) (by omega) | exact hM.late _ (by omega) (by omega) | exact hM.len _ (by omega) (by omega) | exact hM.corn _ (by omega) (by omega) | exact hM.say (by omega) (by omega) _ (by omega) (by omega) | exact hM.tone _ (by omega) (by omega)) (fun b11 => ?_)
  refine ew_ifge i165_14 (by omega) (fun c14 => ?_) (fun c14 => ?_)
  · refine ev_iloadn_1 i165_35 ?_
    refine ev_ireturn i165_36 r165 ?_
    first
    | (exfalso; omega)
    | exact hK I (fr_rfl _ _) hS
  · refine ev_iloadn_2 i165_17 ?_
    refine ew_bipush i165_18 (by decide) ?_
    refine ew_icmpeq i165_20 (by omega) (fun c20 => ?_) (fun c20 => ?_)
    · exfalso; omega
    · refine ev_iloadn_2 i165_23 ?_
      refine ew_bipush i165_24 (by decide) ?_
      refine ew_icmpeq i165_26 (by omega) (fun c26 => ?_) (fun c26 => ?_)
      · exfalso; omega
      · refine ev_iloadn_2 i165_29 ?_
        refine ew_bipush i165_30 (by decide) ?_
        refine ew_icmpeq i165_32 (by omega) (fun c32 => ?_) (fun c32 => ?_)
        · exfalso; omega
        · refine ev_iloadn_1 i165_35 ?_
          refine ev_ireturn i165_36 r165 ?_
          first
          | (exfalso; omega)
          | exact hK I (fr_rfl _ _) hS
/-- one comparison alone -/
theorem R2_step {X : ts_X} {d : Nat} {I : Nat → Nat → Int32} {L : Nat → Nat → Int64} {sw : Bool} {K : Option Value → ts_H → Prop} {N : Int → Int} {b : Int} {tc : Nat} {p v q : Int} {w : (Int → Int) → Int} (hd : 8 ≤ d) (hE : E ≤ d) (p0 : 0 ≤ p) (hS : SM I b tc n tx p o N) (hl : lof (t_nx n tx p) = 2) (hc : CMs E cm3 n tx (p + 1) o q w) (hv : -2147483648 ≤ v ∧ v ≤ 2147483647) (hw : -2147483648 ≤ w N ∧ w N ≤ 2147483647) (hK : ∀ J, fr frw I J → SM J b tc n tx q o N → K (some (.int (zI (jn (t_nx n tx p) v (w N))))) (J, L, ts_P0 sw, ts_S0)) : RL2 X (d + 1) I L sw K p v := by
  intro o2 o3
  obtain ⟨d, rfl⟩ : ∃ d', d = d' + 4 := ⟨d - 4, by omega⟩
  have r := hS.1.nx_r p0
  have b1 := hS.1.1
  have hx : t_nx n tx p = 60 ∨ t_nx n tx p = 61 ∨ t_nx n tx p = 62 := by unfold lof at hl; omega
  have lt := t_nx_lt (n := n) (tx := tx) (p := p) (by omega)
  refine ev_aloadn_0 i165_5 ?_
  refine ev_virt0 i165_6 g165_6 rfl (by decide +kernel) (Nat.le_of_ble_eq_true rfl) (m_byteAt hS.1 p0 ?_)
  refine ev_istoren_2 i165_9 rfl ?_
  refine ev_aloadn_0 i165_10 ?_
  refine ew_getI i165_11 g165_11 rfl (by first | exact hS.2.1 | exact hS.1.2.2.2.2.2 | exact hM.men | exact hM.told | exact hM.road | exact hM.stand _ (by omega) (by omega) | exact hM.reach _ (by omega) (by omega) | exact hM.arm _ (by omega) (by omega) | exact hM.late _ (by omega) (by omega) | exact hM.len _ (by omega) (by omega) | exact hM.corn _ (by omega) (by omega) | exact hM.say (by omega) (by omega) _ (by omega) (by omega) | exact hM.tone _ (by omega) (by omega)) (fun b11 => ?_)
  refine ew_ifge i165_14 (by omega) (fun c14 => ?_) (fun c14 => ?_)
  · exfalso; omega
  · refine ev_iloadn_2 i165_17 ?_
    refine ew_bipush i165_18 (by decide) ?_
    refine ew_icmpeq i165_20 (by omega) (fun c20 => ?_) (fun c20 => ?_)
    · refine ev_aloadn_0 i165_37 ?_
      refine ev_dup i165_38 rfl ?_
      refine ew_getI i165_39 g165_39 rfl (by first | exact hS.2.1 | exact hS.1.2.2.2.2.2 | exact hM.men | exact hM.told | exact hM.road | exact hM.stand _ (by omega) (by omega) | exact hM.reach _ (by omega) (by omega) | exact hM.arm _ (by omega) (by omega) | exact hM.late _ (by omega) (by omega) | exact hM.len _ (by omega) (by omega) | exact hM.corn _ (by omega) (by omega) | exact hM.say (by omega) (by omega) _ (by omega) (by omega) | exact hM.tone _ (by omega) (by omega)) (fun b39 => ?_)
      refine ew_iconst i165_42 ?_
      refine ew_iadd i165_43 ?_
      refine ev_putI i165_44 g165_44 rfl ?_
      refine ev_aloadn_0 i165_47 ?_
      refine ev_virt0 i165_48 g165_48 rfl (by decide +kernel) (Nat.le_of_ble_eq_true rfl) (hc _ _ _ _ _ _ N b tc hE (hS.sAt (by omega)) (fun M h4 h5 => ?_))
      refine ev_istoren_3 i165_51 rfl ?_
      refine ev_iloadn_2 i165_52 ?_
      refine ew_bipush i165_53 (by decide) ?_
      refine ew_icmpne i165_55 (by omega) (fun c55 => ?_) (fun c55 => ?_)
      · refine ev_iloadn_2 i165_66 ?_
        refine ew_bipush i165_67 (by decide) ?_
        refine ew_icmpne i165_69 (by omega) (fun c69 => ?_) (fun c69 => ?_)
        · refine ev_iloadn_1 i165_80 ?_
          refine ev_iloadn_3 i165_81 ?_
          refine ew_icmple i165_82 (by omega) (fun c82 => ?_) (fun c82 => ?_)
          · refine ew_iconst i165_89 ?_
            refine ev_ireturn i165_90 r165 ?_
            have e := hK M (fr_tr (fr_up (fr_rfl _ _) ⟨rfl, by decide, by decide⟩) h4) h5
            rcases hx with h | h | h
            · rw [h, jn_60] at e
              exact zK e (by omega)
            · rw [h, jn_61] at e
              exact zK e (by omega)
            · rw [h, jn_62] at e
              exact zK e (by omega)
          · refine ew_iconst i165_85 ?_
            refine ev_goto i165_86 ?_
            refine ev_ireturn i165_90 r165 ?_
            have e := hK M (fr_tr (fr_up (fr_rfl _ _) ⟨rfl, by decide, by decide⟩) h4) h5
            rcases hx with h | h | h
            · rw [h, jn_60] at e
              exact zK e (by omega)
            · rw [h, jn_61] at e
              exact zK e (by omega)
            · rw [h, jn_62] at e
              exact zK e (by omega)
        · refine ev_iloadn_1 i165_72 ?_
          refine ev_iloadn_3 i165_73 ?_
          refine ew_icmpne i165_74 (by omega) (fun c74 => ?_) (fun c74 => ?_)
          · refine ew_iconst i165_89 ?_
            refine ev_ireturn i165_90 r165 ?_
            have e := hK M (fr_tr (fr_up (fr_rfl _ _) ⟨rfl, by decide, by decide⟩) h4) h5
            rcases hx with h | h | h
            · rw [h, jn_60] at e
              exact zK e (by omega)
            · rw [h, jn_61] at e
              exact zK e (by omega)
            · rw [h, jn_62] at e
              exact zK e (by omega)
          · refine ev_goto i165_77 ?_
            refine ew_iconst i165_85 ?_
            refine ev_goto i165_86 ?_
            refine ev_ireturn i165_90 r165 ?_
            have e := hK M (fr_tr (fr_up (fr_rfl _ _) ⟨rfl, by decide, by decide⟩) h4) h5
            rcases hx with h | h | h
            · rw [h, jn_60] at e
              exact zK e (by omega)
            · rw [h, jn_61] at e
              exact zK e (by omega)
            · rw [h, jn_62] at e
              exact zK e (by omega)
      · refine ev_iloadn_1 i165_58 ?_
        refine ev_iloadn_3 i165_59 ?_
        refine ew_icmpge i165_60 (by omega) (fun c60 => ?_) (fun c60 => ?_)
        · refine ew_iconst i165_89 ?_
          refine ev_ireturn i165_90 r165 ?_
          have e := hK M (fr_tr (fr_up (fr_rfl _ _) ⟨rfl, by decide, by decide⟩) h4) h5
          rcases hx with h | h | h
          · rw [h, jn_60] at e
            exact zK e (by omega)
          · rw [h, jn_61] at e
            exact zK e (by omega)
          · rw [h, jn_62] at e
            exact zK e (by omega)
        · refine ev_goto i165_63 ?_
          refine ew_iconst i165_85 ?_
          refine ev_goto i165_86 ?_
          refine ev_ireturn i165_90 r165 ?_
          have e := hK M (fr_tr (fr_up (fr_rfl _ _) ⟨rfl, by decide, by decide⟩) h4) h5
          rcases hx with h | h | h
          · rw [h, jn_60] at e
            exact zK e (by omega)
          · rw [h, jn_61] at e
            exact zK e (by omega)
          · rw [h, jn_62] at e
            exact zK e (by omega)
    · refine ev_iloadn_2 i165_23 ?_
      refine ew_bipush i165_24 (by decide) ?_
      refine ew_icmpeq i165_26 (by omega) (fun c26 => ?_) (fun c26 => ?_)
      · refine ev_aloadn_0 i165_37 ?_
        refine ev_dup i165_38 rfl ?_
        refine ew_getI i165_39 g165_39 rfl (by first | exact hS.2.1 | exact hS.1.2.2.2.2.2 | exact hM.men | exact hM.told | exact hM.road | exact hM.stand _ (by omega) (by omega) | exact hM.reach _ (by omega) (by omega) | exact hM.arm _ (by omega) (by omega) | exact hM.late _ (by omega) (by omega) | exact hM.len _ (by omega) (by omega) | exact hM.corn _ (by omega) (by omega) | exact hM.say (by omega) (by omega) _ (by omega) (by omega) | exact hM.tone _ (by omega) (by omega)) (fun b39 => ?_)
        refine ew_iconst i165_42 ?_
        refine ew_iadd i165_43 ?_
        refine ev_putI i165_44 g165_44 rfl ?_
        refine ev_aloadn_0 i165_47 ?_
        refine ev_virt0 i165_48 g165_48 rfl (by decide +kernel) (Nat.le_of_ble_eq_true rfl) (hc _ _ _ _ _ _ N b tc hE (hS.sAt (by omega)) (fun M h4 h5 => ?_))
        refine ev_istoren_3 i165_51 rfl ?_
        refine ev_iloadn_2 i165_52 ?_
        refine ew_bipush i165_53 (by decide) ?_
        refine ew_icmpne i165_55 (by omega) (fun c55 => ?_) (fun c55 => ?_)
        · refine ev_iloadn_2 i165_66 ?_
          refine ew_bipush i165_67 (by decide) ?_
          refine ew_icmpne i165_69 (by omega) (fun c69 => ?_) (fun c69 => ?_)
          · refine ev_iloadn_1 i165_80 ?_
            refine ev_iloadn_3 i165_81 ?_
            refine ew_icmple i165_82 (by omega) (fun c82 => ?_) (fun c82 => ?_)
            · refine ew_iconst i165_89 ?_
              refine ev_ireturn i165_90 r165 ?_
              have e := hK M (fr_tr (fr_up (fr_rfl _ _) ⟨rfl, by decide, by decide⟩) h4) h5
              rcases hx with h | h | h
              · rw [h, jn_60] at e
                exact zK e (by omega)
              · rw [h, jn_61] at e
                exact zK e (by omega)
              · rw [h, jn_62] at e
                exact zK e (by omega)
            · refine ew_iconst i165_85 ?_
              refine ev_goto i165_86 ?_
              refine ev_ireturn i165_90 r165 ?_
              have e := hK M (fr_tr (fr_up (fr_rfl _ _) ⟨rfl, by decide, by decide⟩) h4) h5
              rcases hx with h | h | h
              · rw [h, jn_60] at e
                exact zK e (by omega)
              · rw [h, jn_61] at e
                exact zK e (by omega)
              · rw [h, jn_62] at e
                exact zK e (by omega)
          · refine ev_iloadn_1 i165_72 ?_
            refine ev_iloadn_3 i165_73 ?_
            refine ew_icmpne i165_74 (by omega) (fun c74 => ?_) (fun c74 => ?_)
            · refine ew_iconst i165_89 ?_
              refine ev_ireturn i165_90 r165 ?_
              have e := hK M (fr_tr (fr_up (fr_rfl _ _) ⟨rfl, by decide, by decide⟩) h4) h5
              rcases hx with h | h | h
              · rw [h, jn_60] at e
                exact zK e (by omega)
              · rw [h, jn_61] at e
                exact zK e (by omega)
              · rw [h, jn_62] at e
                exact zK e (by omega)
            · refine ev_goto i165_77 ?_
              refine ew_iconst i165_85 ?_
              refine ev_goto i165_86 ?_
              refine ev_ireturn i165_90 r165 ?_
              have e := hK M (fr_tr (fr_up (fr_rfl _ _) ⟨rfl, by decide, by decide⟩) h4) h5
              rcases hx with h | h | h
              · rw [h, jn_60] at e
                exact zK e (by omega)
              · rw [h, jn_61] at e
                exact zK e (by omega)
              · rw [h, jn_62] at e
                exact zK e (by omega)
        · refine ev_iloadn_1 i165_58 ?_
          refine ev_iloadn_3 i165_59 ?_
          refine ew_icmpge i165_60 (by omega) (fun c60 => ?_) (fun c60 => ?_)
          · refine ew_iconst i165_89 ?_
            refine ev_ireturn i165_90 r165 ?_
            have e := hK M (fr_tr (fr_up (fr_rfl _ _) ⟨rfl, by decide, by decide⟩) h4) h5
            rcases hx with h | h | h
            · rw [h, jn_60] at e
              exact zK e (by omega)
            · rw [h, jn_61] at e
              exact zK e (by omega)
            · rw [h, jn_62] at e
              exact zK e (by omega)
          · refine ev_goto i165_63 ?_
            refine ew_iconst i165_85 ?_
            refine ev_goto i165_86 ?_
            refine ev_ireturn i165_90 r165 ?_
            have e := hK M (fr_tr (fr_up (fr_rfl _ _) ⟨rfl, by decide, by decide⟩) h4) h5
            rcases hx with h | h | h
            · rw [h, jn_60] at e
              exact zK e (by omega)
            · rw [h, jn_61] at e
              exact zK e (by omega)
            · rw [h, jn_62] at e
              exact zK e (by omega)
      · refine ev_iloadn_2 i165_29 ?_
        refine ew_bipush i165_30 (by decide) ?_
        refine ew_icmpeq i165_32 (by omega) (fun c32 => ?_) (fun c32 => ?_)
        · refine ev_aloadn_0 i165_37 ?_
          refine ev_dup i165_38 rfl ?_
          refine ew_getI i165_39 g165_39 rfl (by first | exact hS.2.1 | exact hS.1.2.2.2.2.2 | exact hM.men | exact hM.told | exact hM.road | exact hM.stand _ (by omega) (by omega) | exact hM.reach _ (by omega) (by omega) | exact hM.arm _ (by omega) (by omega) | exact hM.late _ (by omega) (by omega) | exact hM.len _ (by omega) (by omega) | exact hM.corn _ (by omega) (by omega) | exact hM.say (by omega) (by omega) _ (by omega) (by omega) | exact hM.tone _ (by omega) (by omega)) (fun b39 => ?_)
          refine ew_iconst i165_42 ?_
          refine ew_iadd i165_43 ?_
          refine ev_putI i165_44 g165_44 rfl ?_
          refine ev_aloadn_0 i165_47 ?_
          refine ev_virt0 i165_48 g165_48 rfl (by decide +kernel) (Nat.le_of_ble_eq_true rfl) (hc _ _ _ _ _ _ N b tc hE (hS.sAt (by omega)) (fun M h4 h5 => ?_))
          refine ev_istoren_3 i165_51 rfl ?_
          refine ev_iloadn_2 i165_52 ?_
          refine ew_bipush i165_53 (by decide) ?_
          refine ew_icmpne i165_55 (by omega) (fun c55 => ?_) (fun c55 => ?_)
          · refine ev_iloadn_2 i165_66 ?_
            refine ew_bipush i165_67 (by decide) ?_
            refine ew_icmpne i165_69 (by omega) (fun c69 => ?_) (fun c69 => ?_)
            · refine ev_iloadn_1 i165_80 ?_
              refine ev_iloadn_3 i165_81 ?_
              refine ew_icmple i165_82 (by omega) (fun c82 => ?_) (fun c82 => ?_)
              · refine ew_iconst i165_89 ?_
                refine ev_ireturn i165_90 r165 ?_
                have e := hK M (fr_tr (fr_up (fr_rfl _ _) ⟨rfl, by decide, by decide⟩) h4) h5
                rcases hx with h | h | h
                · rw [h, jn_60] at e
                  exact zK e (by omega)
                · rw [h, jn_61] at e
                  exact zK e (by omega)
                · rw [h, jn_62] at e
                  exact zK e (by omega)
              · refine ew_iconst i165_85 ?_
                refine ev_goto i165_86 ?_
                refine ev_ireturn i165_90 r165 ?_
                have e := hK M (fr_tr (fr_up (fr_rfl _ _) ⟨rfl, by decide, by decide⟩) h4) h5
                rcases hx with h | h | h
                · rw [h, jn_60] at e
                  exact zK e (by omega)
                · rw [h, jn_61] at e
                  exact zK e (by omega)
                · rw [h, jn_62] at e
                  exact zK e (by omega)
            · refine ev_iloadn_1 i165_72 ?_
              refine ev_iloadn_3 i165_73 ?_
              refine ew_icmpne i165_74 (by omega) (fun c74 => ?_) (fun c74 => ?_)
              · refine ew_iconst i165_89 ?_
                refine ev_ireturn i165_90 r165 ?_
                have e := hK M (fr_tr (fr_up (fr_rfl _ _) ⟨rfl, by decide, by decide⟩) h4) h5
                rcases hx with h | h | h
                · rw [h, jn_60] at e
                  exact zK e (by omega)
                · rw [h, jn_61] at e
                  exact zK e (by omega)
                · rw [h, jn_62] at e
                  exact zK e (by omega)
              · refine ev_goto i165_77 ?_
                refine ew_iconst i165_85 ?_
                refine ev_goto i165_86 ?_
                refine ev_ireturn i165_90 r165 ?_
                have e := hK M (fr_tr (fr_up (fr_rfl _ _) ⟨rfl, by decide, by decide⟩) h4) h5
                rcases hx with h | h | h
                · rw [h, jn_60] at e
                  exact zK e (by omega)
                · rw [h, jn_61] at e
                  exact zK e (by omega)
                · rw [h, jn_62] at e
                  exact zK e (by omega)
          · refine ev_iloadn_1 i165_58 ?_
            refine ev_iloadn_3 i165_59 ?_
            refine ew_icmpge i165_60 (by omega) (fun c60 => ?_) (fun c60 => ?_)
            · refine ew_iconst i165_89 ?_
              refine ev_ireturn i165_90 r165 ?_
              have e := hK M (fr_tr (fr_up (fr_rfl _ _) ⟨rfl, by decide, by decide⟩) h4) h5
              rcases hx with h | h | h
              · rw [h, jn_60] at e
                exact zK e (by omega)
              · rw [h, jn_61] at e
                exact zK e (by omega)
              · rw [h, jn_62] at e
                exact zK e (by omega)
            · refine ev_goto i165_63 ?_
              refine ew_iconst i165_85 ?_
              refine ev_goto i165_86 ?_
              refine ev_ireturn i165_90 r165 ?_
              have e := hK M (fr_tr (fr_up (fr_rfl _ _) ⟨rfl, by decide, by decide⟩) h4) h5
              rcases hx with h | h | h
              · rw [h, jn_60] at e
                exact zK e (by omega)
              · rw [h, jn_61] at e
                exact zK e (by omega)
              · rw [h, jn_62] at e
                exact zK e (by omega)
        · exfalso; omega
theorem R2_fail : Rfail 2 RL2 E cm3 n tx o := by
  intro X d I L sw K N b tc p v q hd hE p0 q0 hS hl hc hv hK o2 o3
  obtain ⟨d, rfl⟩ : ∃ d', d = d' + 4 := ⟨d - 4, by omega⟩
  have r := hS.1.nx_r p0
  have b1 := hS.1.1
  have hx : t_nx n tx p = 60 ∨ t_nx n tx p = 61 ∨ t_nx n tx p = 62 := by unfold lof at hl; omega
  have lt := t_nx_lt (n := n) (tx := tx) (p := p) (by omega)
  refine ev_aloadn_0 i165_5 ?_
  refine ev_virt0 i165_6 g165_6 rfl (by decide +kernel) (Nat.le_of_ble_eq_true rfl) (m_byteAt hS.1 p0 ?_)
  refine ev_istoren_2 i165_9 rfl ?_
  refine ev_aloadn_0 i165_10 ?_
  refine ew_getI i165_11 g165_11 rfl (by first | exact hS.2.1 | exact hS.1.2.2.2.2.2 | exact hM.men | exact hM.told | exact hM.road | exact hM.stand _ (by omega) (by omega) | exact hM.reach _ (by omega) (by omega) | exact hM.arm _ (by omega) (by omega) | exact hM.late _ (by omega) (by omega) | exact hM.len _ (by omega) (by omega) | exact hM.corn _ (by omega) (by omega) | exact hM.say (by omega) (by omega) _ (by omega) (by omega) | exact hM.tone _ (by omega) (by omega)) (fun b11 => ?_)
  refine ew_ifge i165_14 (by omega) (fun c14 => ?_) (fun c14 => ?_)
  · exfalso; omega
  · refine ev_iloadn_2 i165_17 ?_
    refine ew_bipush i165_18 (by decide) ?_
    refine ew_icmpeq i165_20 (by omega) (fun c20 => ?_) (fun c20 => ?_)
    · refine ev_aloadn_0 i165_37 ?_
      refine ev_dup i165_38 rfl ?_
      refine ew_getI i165_39 g165_39 rfl (by first | exact hS.2.1 | exact hS.1.2.2.2.2.2 | exact hM.men | exact hM.told | exact hM.road | exact hM.stand _ (by omega) (by omega) | exact hM.reach _ (by omega) (by omega) | exact hM.arm _ (by omega) (by omega) | exact hM.late _ (by omega) (by omega) | exact hM.len _ (by omega) (by omega) | exact hM.corn _ (by omega) (by omega) | exact hM.say (by omega) (by omega) _ (by omega) (by omega) | exact hM.tone _ (by omega) (by omega)) (fun b39 => ?_)
      refine ew_iconst i165_42 ?_
      refine ew_iadd i165_43 ?_
      refine ev_putI i165_44 g165_44 rfl ?_
      refine ev_aloadn_0 i165_47 ?_
      refine ev_virt0 i165_48 g165_48 rfl (by decide +kernel) (Nat.le_of_ble_eq_true rfl) (hc _ _ _ _ _ _ N b tc hE (hS.sAt (by omega)) (fun M r h4 h5 h6 => ?_))
      refine ev_istoren_3 i165_51 rfl ?_
      refine ev_iloadn_2 i165_52 ?_
      refine ew_bipush i165_53 (by decide) ?_
      refine ew_icmpne i165_55 (by omega) (fun c55 => ?_) (fun c55 => ?_)
      · refine ev_iloadn_2 i165_66 ?_
        refine ew_bipush i165_67 (by decide) ?_
        refine ew_icmpne i165_69 (by omega) (fun c69 => ?_) (fun c69 => ?_)
        · refine ev_iloadn_1 i165_80 ?_
          refine ev_iloadn_3 i165_81 ?_
          refine ew_icmple i165_82 (by omega) (fun c82 => ?_) (fun c82 => ?_)
          · refine ew_iconst i165_89 ?_
            refine ev_ireturn i165_90 r165 ?_
            exact hK M _ (fr_tr (fr_up (fr_rfl _ _) ⟨rfl, by decide, by decide⟩) h4) h5 (by omega)
          · refine ew_iconst i165_85 ?_
            refine ev_goto i165_86 ?_
            refine ev_ireturn i165_90 r165 ?_
            exact hK M _ (fr_tr (fr_up (fr_rfl _ _) ⟨rfl, by decide, by decide⟩) h4) h5 (by omega)
        · refine ev_iloadn_1 i165_72 ?_
          refine ev_iloadn_3 i165_73 ?_
          refine ew_icmpne i165_74 (by omega) (fun c74 => ?_) (fun c74 => ?_)
          · refine ew_iconst i165_89 ?_
            refine ev_ireturn i165_90 r165 ?_
            exact hK M _ (fr_tr (fr_up (fr_rfl _ _) ⟨rfl, by decide, by decide⟩) h4) h5 (by omega)
          · refine ev_goto i165_77 ?_
            refine ew_iconst i165_85 ?_
            refine ev_goto i165_86 ?_
            refine ev_ireturn i165_90 r165 ?_
            exact hK M _ (fr_tr (fr_up (fr_rfl _ _) ⟨rfl, by decide, by decide⟩) h4) h5 (by omega)
      · refine ev_iloadn_1 i165_58 ?_
        refine ev_iloadn_3 i165_59 ?_
        refine ew_icmpge i165_60 (by omega) (fun c60 => ?_) (fun c60 => ?_)
        · refine ew_iconst i165_89 ?_
          refine ev_ireturn i165_90 r165 ?_
          exact hK M _ (fr_tr (fr_up (fr_rfl _ _) ⟨rfl, by decide, by decide⟩) h4) h5 (by omega)
        · refine ev_goto i165_63 ?_
          refine ew_iconst i165_85 ?_
          refine ev_goto i165_86 ?_
          refine ev_ireturn i165_90 r165 ?_
          exact hK M _ (fr_tr (fr_up (fr_rfl _ _) ⟨rfl, by decide, by decide⟩) h4) h5 (by omega)
    · refine ev_iloadn_2 i165_23 ?_
      refine ew_bipush i165_24 (by decide) ?_
      refine ew_icmpeq i165_26 (by omega) (fun c26 => ?_) (fun c26 => ?_)
      · refine ev_aloadn_0 i165_37 ?_
        refine ev_dup i165_38 rfl ?_
        refine ew_getI i165_39 g165_39 rfl (by first | exact hS.2.1 | exact hS.1.2.2.2.2.2 | exact hM.men | exact hM.told | exact hM.road | exact hM.stand _ (by omega) (by omega) | exact hM.reach _ (by omega) (by omega) | exact hM.arm _ (by omega) (by omega) | exact hM.late _ (by omega) (by omega) | exact hM.len _ (by omega) (by omega) | exact hM.corn _ (by omega) (by omega) | exact hM.say (by omega) (by omega) _ (by omega) (by omega) | exact hM.tone _ (by omega) (by omega)) (fun b39 => ?_)
        refine ew_iconst i165_42 ?_
        refine ew_iadd i165_43 ?_
        refine ev_putI i165_44 g165_44 rfl ?_
        refine ev_aloadn_0 i165_47 ?_
        refine ev_virt0 i165_48 g165_48 rfl (by decide +kernel) (Nat.le_of_ble_eq_true rfl) (hc _ _ _ _ _ _ N b tc hE (hS.sAt (by omega)) (fun M r h4 h5 h6 => ?_))
        refine ev_istoren_3 i165_51 rfl ?_
        refine ev_iloadn_2 i165_52 ?_
        refine ew_bipush i165_53 (by decide) ?_
        refine ew_icmpne i165_55 (by omega) (fun c55 => ?_) (fun c55 => ?_)
        · refine ev_iloadn_2 i165_66 ?_
          refine ew_bipush i165_67 (by decide) ?_
          refine ew_icmpne i165_69 (by omega) (fun c69 => ?_) (fun c69 => ?_)
          · refine ev_iloadn_1 i165_80 ?_
            refine ev_iloadn_3 i165_81 ?_
            refine ew_icmple i165_82 (by omega) (fun c82 => ?_) (fun c82 => ?_)
            · refine ew_iconst i165_89 ?_
              refine ev_ireturn i165_90 r165 ?_
              exact hK M _ (fr_tr (fr_up (fr_rfl _ _) ⟨rfl, by decide, by decide⟩) h4) h5 (by omega)
            · refine ew_iconst i165_85 ?_
              refine ev_goto i165_86 ?_
              refine ev_ireturn i165_90 r165 ?_
              exact hK M _ (fr_tr (fr_up (fr_rfl _ _) ⟨rfl, by decide, by decide⟩) h4) h5 (by omega)
          · refine ev_iloadn_1 i165_72 ?_
            refine ev_iloadn_3 i165_73 ?_
            refine ew_icmpne i165_74 (by omega) (fun c74 => ?_) (fun c74 => ?_)
            · refine ew_iconst i165_89 ?_
              refine ev_ireturn i165_90 r165 ?_
              exact hK M _ (fr_tr (fr_up (fr_rfl _ _) ⟨rfl, by decide, by decide⟩) h4) h5 (by omega)
            · refine ev_goto i165_77 ?_
              refine ew_iconst i165_85 ?_
              refine ev_goto i165_86 ?_
              refine ev_ireturn i165_90 r165 ?_
              exact hK M _ (fr_tr (fr_up (fr_rfl _ _) ⟨rfl, by decide, by decide⟩) h4) h5 (by omega)
        · refine ev_iloadn_1 i165_58 ?_
          refine ev_iloadn_3 i165_59 ?_
          refine ew_icmpge i165_60 (by omega) (fun c60 => ?_) (fun c60 => ?_)
          · refine ew_iconst i165_89 ?_
            refine ev_ireturn i165_90 r165 ?_
            exact hK M _ (fr_tr (fr_up (fr_rfl _ _) ⟨rfl, by decide, by decide⟩) h4) h5 (by omega)
          · refine ev_goto i165_63 ?_
            refine ew_iconst i165_85 ?_
            refine ev_goto i165_86 ?_
            refine ev_ireturn i165_90 r165 ?_
            exact hK M _ (fr_tr (fr_up (fr_rfl _ _) ⟨rfl, by decide, by decide⟩) h4) h5 (by omega)
      · refine ev_iloadn_2 i165_29 ?_
        refine ew_bipush i165_30 (by decide) ?_
        refine ew_icmpeq i165_32 (by omega) (fun c32 => ?_) (fun c32 => ?_)
        · refine ev_aloadn_0 i165_37 ?_
          refine ev_dup i165_38 rfl ?_
          refine ew_getI i165_39 g165_39 rfl (by first | exact hS.2.1 | exact hS.1.2.2.2.2.2 | exact hM.men | exact hM.told | exact hM.road | exact hM.stand _ (by omega) (by omega) | exact hM.reach _ (by omega) (by omega) | exact hM.arm _ (by omega) (by omega) | exact hM.late _ (by omega) (by omega) | exact hM.len _ (by omega) (by omega) | exact hM.corn _ (by omega) (by omega) | exact hM.say (by omega) (by omega) _ (by omega) (by omega) | exact hM.tone _ (by omega) (by omega)) (fun b39 => ?_)
          refine ew_iconst i165_42 ?_
          refine ew_iadd i165_43 ?_
          refine ev_putI i165_44 g165_44 rfl ?_
          refine ev_aloadn_0 i165_47 ?_
          refine ev_virt0 i165_48 g165_48 rfl (by decide +kernel) (Nat.le_of_ble_eq_true rfl) (hc _ _ _ _ _ _ N b tc hE (hS.sAt (by omega)) (fun M r h4 h5 h6 => ?_))
          refine ev_istoren_3 i165_51 rfl ?_
          refine ev_iloadn_2 i165_52 ?_
          refine ew_bipush i165_53 (by decide) ?_
          refine ew_icmpne i165_55 (by omega) (fun c55 => ?_) (fun c55 => ?_)
          · refine ev_iloadn_2 i165_66 ?_
            refine ew_bipush i165_67 (by decide) ?_
            refine ew_icmpne i165_69 (by omega) (fun c69 => ?_) (fun c69 => ?_)
            · refine ev_iloadn_1 i165_80 ?_
              refine ev_iloadn_3 i165_81 ?_
              refine ew_icmple i165_82 (by omega) (fun c82 => ?_) (fun c82 => ?_)
              · refine ew_iconst i165_89 ?_
                refine ev_ireturn i165_90 r165 ?_
                exact hK M _ (fr_tr (fr_up (fr_rfl _ _) ⟨rfl, by decide, by decide⟩) h4) h5 (by omega)
              · refine ew_iconst i165_85 ?_
                refine ev_goto i165_86 ?_
                refine ev_ireturn i165_90 r165 ?_
                exact hK M _ (fr_tr (fr_up (fr_rfl _ _) ⟨rfl, by decide, by decide⟩) h4) h5 (by omega)
            · refine ev_iloadn_1 i165_72 ?_
              refine ev_iloadn_3 i165_73 ?_
              refine ew_icmpne i165_74 (by omega) (fun c74 => ?_) (fun c74 => ?_)
              · refine ew_iconst i165_89 ?_
                refine ev_ireturn i165_90 r165 ?_
                exact hK M _ (fr_tr (fr_up (fr_rfl _ _) ⟨rfl, by decide, by decide⟩) h4) h5 (by omega)
              · refine ev_goto i165_77 ?_
                refine ew_iconst i165_85 ?_
                refine ev_goto i165_86 ?_
                refine ev_ireturn i165_90 r165 ?_
                exact hK M _ (fr_tr (fr_up (fr_rfl _ _) ⟨rfl, by decide, by decide⟩) h4) h5 (by omega)
          · refine ev_iloadn_1 i165_58 ?_
            refine ev_iloadn_3 i165_59 ?_
            refine ew_icmpge i165_60 (by omega) (fun c60 => ?_) (fun c60 => ?_)
            · refine ew_iconst i165_89 ?_
              refine ev_ireturn i165_90 r165 ?_
              exact hK M _ (fr_tr (fr_up (fr_rfl _ _) ⟨rfl, by decide, by decide⟩) h4) h5 (by omega)
            · refine ev_goto i165_63 ?_
              refine ew_iconst i165_85 ?_
              refine ev_goto i165_86 ?_
              refine ev_ireturn i165_90 r165 ?_
              exact hK M _ (fr_tr (fr_up (fr_rfl _ _) ⟨rfl, by decide, by decide⟩) h4) h5 (by omega)
        · exfalso; omega
theorem R2_ent : Rent RL2 E cm2 cm3 n tx o := by
  intro X d I L sw K N b tc p q w hd hE q0 hS hc hK
  obtain ⟨d, rfl⟩ : ∃ d', d = d' + 4 := ⟨d - 4, by omega⟩
  refine ev_enter (lv := [.ref 72, .null, .null, .null]) l165 rfl (Nat.le_of_ble_eq_true rfl) ?_
  refine ev_aloadn_0 i165_0 ?_
  refine ev_virt0 i165_1 g165_1 rfl (by decide +kernel) (Nat.le_of_ble_eq_true rfl) (hc _ _ _ _ _ _ N b tc hE hS (fun M h4 h5 => ?_))
  refine ev_istoren_1 i165_4 rfl ?_
  exact hK M h4 h5 _ _
theorem R2_entf : Rentf E cm2 cm3 n tx o := by
  intro X d I L sw K N b tc p q hd hE q0 hS hc hK
  obtain ⟨d, rfl⟩ : ∃ d', d = d' + 4 := ⟨d - 4, by omega⟩
  refine ev_enter (lv := [.ref 72, .null, .null, .null]) l165 rfl (Nat.le_of_ble_eq_true rfl) ?_
  refine ev_aloadn_0 i165_0 ?_
  refine ev_virt0 i165_1 g165_1 rfl (by decide +kernel) (Nat.le_of_ble_eq_true rfl) (hc _ _ _ _ _ _ N b tc hE hS (fun M r h4 h5 h6 => ?_))
  refine ev_istoren_1 i165_4 rfl ?_
  refine ev_aloadn_0 i165_5 ?_
  refine ev_virt0 i165_6 g165_6 rfl (by decide +kernel) (Nat.le_of_ble_eq_true rfl) (m_byteAt h5.1 q0 ?_)
  refine ev_istoren_2 i165_9 rfl ?_
  refine ev_aloadn_0 i165_10 ?_
  refine ew_getI i165_11 g165_11 rfl (h5.2) (fun b11 => ?_)
  refine ew_ifge i165_14 (by omega) (fun c14 => ?_) (fun c14 => ?_)
  · refine ev_iloadn_1 i165_35 ?_
    refine ev_ireturn i165_36 r165 ?_
    exact hK _ _ h4 h5 h6
  · exfalso; omega
end RG
