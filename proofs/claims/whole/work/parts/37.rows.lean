theorem i249_0 : ts_ins 249 0 = some (.iconst 0, 1, 0) := by decide +kernel
theorem i249_1 : ts_ins 249 1 = some (.istore_n 3, 2, 0) := by decide +kernel
theorem i249_2 : ts_ins 249 2 = some (.aload_n 0, 3, 0) := by decide +kernel
theorem i249_3 : ts_ins 249 3 = some (.arraylength, 4, 0) := by decide +kernel
theorem i249_4 : ts_ins 249 4 = some (.istore 4, 6, 0) := by decide +kernel
theorem i249_6 : ts_ins 249 6 = some (.iload_n 3, 7, 0) := by decide +kernel
theorem i249_7 : ts_ins 249 7 = some (.iload 4, 9, 0) := by decide +kernel
theorem i249_9 : ts_ins 249 9 = some (.if_icmp .ge 13, 12, 22) := by decide +kernel
theorem i249_12 : ts_ins 249 12 = some (.aload_n 0, 13, 0) := by decide +kernel
theorem i249_13 : ts_ins 249 13 = some (.iload_n 3, 14, 0) := by decide +kernel
theorem i249_14 : ts_ins 249 14 = some (.lload_n 1, 15, 0) := by decide +kernel
theorem i249_15 : ts_ins 249 15 = some (.lastore, 16, 0) := by decide +kernel
theorem i249_16 : ts_ins 249 16 = some (.iinc 3 1, 19, 0) := by decide +kernel
theorem i249_19 : ts_ins 249 19 = some (.goto (-13), 22, 6) := by decide +kernel
theorem i249_22 : ts_ins 249 22 = some (.return_, 23, 0) := by decide +kernel
theorem r249 : ts_rt 249 = (none, 0, 0) := by decide +kernel
theorem l249 : ts_ml 249 = 5 := by decide +kernel
theorem i63_0 : ts_ins 63 0 = some (.aload_n 0, 1, 0) := by decide +kernel
theorem i63_1 : ts_ins 63 1 = some (.iconst 2, 2, 0) := by decide +kernel
theorem i63_2 : ts_ins 63 2 = some (.putfield 15, 5, 0) := by decide +kernel
theorem g63_2 : ts_fmm 63 15 = some (7, 1, 0, false) := by decide +kernel
theorem i63_5 : ts_ins 63 5 = some (.aload_n 0, 6, 0) := by decide +kernel
theorem i63_6 : ts_ins 63 6 = some (.iload_n 1, 7, 0) := by decide +kernel
theorem i63_7 : ts_ins 63 7 = some (.putfield 22, 10, 0) := by decide +kernel
theorem g63_7 : ts_fmm 63 22 = some (7, 3, 0, false) := by decide +kernel
theorem i63_10 : ts_ins 63 10 = some (.aload_n 0, 11, 0) := by decide +kernel
theorem i63_11 : ts_ins 63 11 = some (.iload_n 2, 12, 0) := by decide +kernel
theorem i63_12 : ts_ins 63 12 = some (.putfield 25, 15, 0) := by decide +kernel
theorem g63_12 : ts_fmm 63 25 = some (7, 4, 0, false) := by decide +kernel
theorem i63_15 : ts_ins 63 15 = some (.aload_n 0, 16, 0) := by decide +kernel
theorem i63_16 : ts_ins 63 16 = some (.getfield 9, 19, 0) := by decide +kernel
theorem g63_16 : ts_fm 63 9 = some (7, 0, 2) := by decide +kernel
theorem i63_19 : ts_ins 63 19 = some (.lconst 0, 20, 0) := by decide +kernel
theorem i63_20 : ts_ins 63 20 = some (.invokestatic 28, 23, 0) := by decide +kernel
theorem g63_20 : ts_cal (ts_mc 63) 28 = some (1, 249, 2) := by decide +kernel
theorem i63_23 : ts_ins 63 23 = some (.return_, 24, 0) := by decide +kernel
theorem r63 : ts_rt 63 = (none, 0, 0) := by decide +kernel
theorem l63 : ts_ml 63 = 3 := by decide +kernel
theorem i131_0 : ts_ins 131 0 = some (.iload_n 1, 1, 0) := by decide +kernel
theorem i131_1 : ts_ins 131 1 = some (.invokestatic 358, 4, 0) := by decide +kernel
theorem g131_1 : ts_cal (ts_mc 131) 358 = some (1, 138, 1) := by decide +kernel
theorem i131_4 : ts_ins 131 4 = some (.ifCond .eq 16, 7, 20) := by decide +kernel
theorem i131_7 : ts_ins 131 7 = some (.iload_n 2, 8, 0) := by decide +kernel
theorem i131_8 : ts_ins 131 8 = some (.invokestatic 370, 11, 0) := by decide +kernel
theorem g131_8 : ts_cal (ts_mc 131) 370 = some (1, 57, 1) := by decide +kernel
theorem i131_11 : ts_ins 131 11 = some (.ifCond .eq 9, 14, 20) := by decide +kernel
theorem i131_14 : ts_ins 131 14 = some (.iload_n 3, 15, 0) := by decide +kernel
theorem i131_15 : ts_ins 131 15 = some (.bipush 60, 17, 0) := by decide +kernel
theorem i131_17 : ts_ins 131 17 = some (.if_icmp .le 5, 20, 22) := by decide +kernel
theorem i131_20 : ts_ins 131 20 = some (.iconst (-1), 21, 0) := by decide +kernel
theorem i131_21 : ts_ins 131 21 = some (.ireturn, 22, 0) := by decide +kernel
theorem i131_22 : ts_ins 131 22 = some (.iload_n 3, 23, 0) := by decide +kernel
theorem i131_23 : ts_ins 131 23 = some (.ifCond .ge 6, 26, 29) := by decide +kernel
theorem i131_26 : ts_ins 131 26 = some (.bipush (-14), 28, 0) := by decide +kernel
theorem i131_28 : ts_ins 131 28 = some (.ireturn, 29, 0) := by decide +kernel
theorem i131_29 : ts_ins 131 29 = some (.aload_n 0, 30, 0) := by decide +kernel
theorem i131_30 : ts_ins 131 30 = some (.getfield 87, 33, 0) := by decide +kernel
theorem g131_30 : ts_fm 131 87 = some (11, 12, 2) := by decide +kernel
theorem i131_33 : ts_ins 131 33 = some (.iload_n 1, 34, 0) := by decide +kernel
theorem i131_34 : ts_ins 131 34 = some (.aaload, 35, 0) := by decide +kernel
theorem i131_35 : ts_ins 131 35 = some (.iload_n 2, 36, 0) := by decide +kernel
theorem i131_36 : ts_ins 131 36 = some (.iload_n 3, 37, 0) := by decide +kernel
theorem i131_37 : ts_ins 131 37 = some (.invokevirtual 373, 40, 0) := by decide +kernel
theorem g131_37 : ts_cal (ts_mc 131) 373 = some (0, 63, 2) := by decide +kernel
theorem i131_40 : ts_ins 131 40 = some (.iconst 1, 41, 0) := by decide +kernel
theorem i131_41 : ts_ins 131 41 = some (.ireturn, 42, 0) := by decide +kernel
theorem r131 : ts_rt 131 = ((some .int), 0, 0) := by decide +kernel
theorem l131 : ts_ml 131 = 4 := by decide +kernel
theorem i67_0 : ts_ins 67 0 = some (.aload_n 0, 1, 0) := by decide +kernel
theorem i67_1 : ts_ins 67 1 = some (.getfield 22, 4, 0) := by decide +kernel
theorem g67_1 : ts_fm 67 22 = some (7, 3, 0) := by decide +kernel
theorem i67_4 : ts_ins 67 4 = some (.tableswitch 62 0 4 #[36, 41, 46, 62, 50], 40, 0) := by decide +kernel
theorem i67_40 : ts_ins 67 40 = some (.lload_n 1, 41, 0) := by decide +kernel
theorem i67_41 : ts_ins 67 41 = some (.l2i, 42, 0) := by decide +kernel
theorem i67_42 : ts_ins 67 42 = some (.i2b, 43, 0) := by decide +kernel
theorem i67_43 : ts_ins 67 43 = some (.i2l, 44, 0) := by decide +kernel
theorem i67_44 : ts_ins 67 44 = some (.lreturn, 45, 0) := by decide +kernel
theorem i67_45 : ts_ins 67 45 = some (.lload_n 1, 46, 0) := by decide +kernel
theorem i67_46 : ts_ins 67 46 = some (.l2i, 47, 0) := by decide +kernel
theorem i67_47 : ts_ins 67 47 = some (.i2s, 48, 0) := by decide +kernel
theorem i67_48 : ts_ins 67 48 = some (.i2l, 49, 0) := by decide +kernel
theorem i67_49 : ts_ins 67 49 = some (.lreturn, 50, 0) := by decide +kernel
theorem i67_50 : ts_ins 67 50 = some (.lload_n 1, 51, 0) := by decide +kernel
theorem i67_51 : ts_ins 67 51 = some (.l2i, 52, 0) := by decide +kernel
theorem i67_52 : ts_ins 67 52 = some (.i2l, 53, 0) := by decide +kernel
theorem i67_53 : ts_ins 67 53 = some (.lreturn, 54, 0) := by decide +kernel
theorem i67_54 : ts_ins 67 54 = some (.lload_n 1, 55, 0) := by decide +kernel
theorem i67_55 : ts_ins 67 55 = some (.lconst 0, 56, 0) := by decide +kernel
theorem i67_56 : ts_ins 67 56 = some (.lcmp, 57, 0) := by decide +kernel
theorem i67_57 : ts_ins 67 57 = some (.ifCond .eq 7, 60, 64) := by decide +kernel
theorem i67_60 : ts_ins 67 60 = some (.lconst 1, 61, 0) := by decide +kernel
theorem i67_61 : ts_ins 67 61 = some (.goto 4, 64, 65) := by decide +kernel
theorem i67_64 : ts_ins 67 64 = some (.lconst 0, 65, 0) := by decide +kernel
theorem i67_65 : ts_ins 67 65 = some (.lreturn, 66, 0) := by decide +kernel
theorem i67_66 : ts_ins 67 66 = some (.lload_n 1, 67, 0) := by decide +kernel
theorem i67_67 : ts_ins 67 67 = some (.lreturn, 68, 0) := by decide +kernel
theorem r67 : ts_rt 67 = ((some .long), 0, 0) := by decide +kernel
theorem l67 : ts_ml 67 = 3 := by decide +kernel
theorem i66_0 : ts_ins 66 0 = some (.aload_n 0, 1, 0) := by decide +kernel
theorem i66_1 : ts_ins 66 1 = some (.iload_n 1, 2, 0) := by decide +kernel
theorem i66_2 : ts_ins 66 2 = some (.iconst 1, 3, 0) := by decide +kernel
theorem i66_3 : ts_ins 66 3 = some (.invokevirtual 34, 6, 0) := by decide +kernel
theorem g66_3 : ts_cal (ts_mc 66) 34 = some (0, 64, 2) := by decide +kernel
theorem i66_6 : ts_ins 66 6 = some (.ifCond .eq 14, 9, 20) := by decide +kernel
theorem i66_9 : ts_ins 66 9 = some (.aload_n 0, 10, 0) := by decide +kernel
theorem i66_10 : ts_ins 66 10 = some (.getfield 9, 13, 0) := by decide +kernel
theorem g66_10 : ts_fm 66 9 = some (7, 0, 2) := by decide +kernel
theorem i66_13 : ts_ins 66 13 = some (.iload_n 1, 14, 0) := by decide +kernel
theorem i66_14 : ts_ins 66 14 = some (.aload_n 0, 15, 0) := by decide +kernel
theorem i66_15 : ts_ins 66 15 = some (.lload_n 2, 16, 0) := by decide +kernel
theorem i66_16 : ts_ins 66 16 = some (.invokevirtual 40, 19, 0) := by decide +kernel
theorem g66_16 : ts_cal (ts_mc 66) 40 = some (0, 67, 1) := by decide +kernel
theorem i66_19 : ts_ins 66 19 = some (.lastore, 20, 0) := by decide +kernel
theorem i66_20 : ts_ins 66 20 = some (.return_, 21, 0) := by decide +kernel
theorem r66 : ts_rt 66 = (none, 0, 0) := by decide +kernel
theorem l66 : ts_ml 66 = 4 := by decide +kernel
theorem i132_0 : ts_ins 132 0 = some (.aload_n 0, 1, 0) := by decide +kernel
theorem i132_1 : ts_ins 132 1 = some (.iload_n 1, 2, 0) := by decide +kernel
theorem i132_2 : ts_ins 132 2 = some (.iload_n 2, 3, 0) := by decide +kernel
theorem i132_3 : ts_ins 132 3 = some (.invokevirtual 377, 6, 0) := by decide +kernel
theorem g132_3 : ts_cal (ts_mc 132) 377 = some (0, 142, 2) := by decide +kernel
theorem i132_6 : ts_ins 132 6 = some (.istore 5, 8, 0) := by decide +kernel
theorem i132_8 : ts_ins 132 8 = some (.iload 5, 10, 0) := by decide +kernel
theorem i132_10 : ts_ins 132 10 = some (.ifCond .eq 6, 13, 16) := by decide +kernel
theorem i132_13 : ts_ins 132 13 = some (.iload 5, 15, 0) := by decide +kernel
theorem i132_15 : ts_ins 132 15 = some (.ireturn, 16, 0) := by decide +kernel
theorem i132_16 : ts_ins 132 16 = some (.aload_n 0, 17, 0) := by decide +kernel
theorem i132_17 : ts_ins 132 17 = some (.getfield 87, 20, 0) := by decide +kernel
theorem g132_17 : ts_fm 132 87 = some (11, 12, 2) := by decide +kernel
theorem i132_20 : ts_ins 132 20 = some (.iload_n 1, 21, 0) := by decide +kernel
theorem i132_21 : ts_ins 132 21 = some (.aaload, 22, 0) := by decide +kernel
theorem i132_22 : ts_ins 132 22 = some (.iload_n 2, 23, 0) := by decide +kernel
theorem i132_23 : ts_ins 132 23 = some (.lload_n 3, 24, 0) := by decide +kernel
theorem i132_24 : ts_ins 132 24 = some (.invokevirtual 380, 27, 0) := by decide +kernel
theorem g132_24 : ts_cal (ts_mc 132) 380 = some (0, 66, 2) := by decide +kernel
theorem i132_27 : ts_ins 132 27 = some (.iconst 1, 28, 0) := by decide +kernel
theorem i132_28 : ts_ins 132 28 = some (.ireturn, 29, 0) := by decide +kernel
theorem r132 : ts_rt 132 = ((some .int), 0, 0) := by decide +kernel
theorem l132 : ts_ml 132 = 6 := by decide +kernel
theorem i134_0 : ts_ins 134 0 = some (.iload_n 1, 1, 0) := by decide +kernel
theorem i134_1 : ts_ins 134 1 = some (.invokestatic 358, 4, 0) := by decide +kernel
theorem g134_1 : ts_cal (ts_mc 134) 358 = some (1, 138, 1) := by decide +kernel
theorem i134_4 : ts_ins 134 4 = some (.ifCond .eq 10, 7, 14) := by decide +kernel
theorem i134_7 : ts_ins 134 7 = some (.iload_n 3, 8, 0) := by decide +kernel
theorem i134_8 : ts_ins 134 8 = some (.invokestatic 358, 11, 0) := by decide +kernel
theorem g134_8 : ts_cal (ts_mc 134) 358 = some (1, 138, 1) := by decide +kernel
theorem i134_11 : ts_ins 134 11 = some (.ifCond .ne 5, 14, 16) := by decide +kernel
theorem i134_14 : ts_ins 134 14 = some (.iconst (-1), 15, 0) := by decide +kernel
theorem i134_15 : ts_ins 134 15 = some (.ireturn, 16, 0) := by decide +kernel
theorem i134_16 : ts_ins 134 16 = some (.aload_n 0, 17, 0) := by decide +kernel
theorem i134_17 : ts_ins 134 17 = some (.getfield 87, 20, 0) := by decide +kernel
theorem g134_17 : ts_fm 134 87 = some (11, 12, 2) := by decide +kernel
theorem i134_20 : ts_ins 134 20 = some (.iload_n 1, 21, 0) := by decide +kernel
theorem i134_21 : ts_ins 134 21 = some (.aaload, 22, 0) := by decide +kernel
theorem i134_22 : ts_ins 134 22 = some (.astore 6, 24, 0) := by decide +kernel
theorem i134_24 : ts_ins 134 24 = some (.aload_n 0, 25, 0) := by decide +kernel
theorem i134_25 : ts_ins 134 25 = some (.getfield 87, 28, 0) := by decide +kernel
theorem g134_25 : ts_fm 134 87 = some (11, 12, 2) := by decide +kernel
theorem i134_28 : ts_ins 134 28 = some (.iload_n 3, 29, 0) := by decide +kernel
theorem i134_29 : ts_ins 134 29 = some (.aaload, 30, 0) := by decide +kernel
theorem i134_30 : ts_ins 134 30 = some (.astore 7, 32, 0) := by decide +kernel
theorem i134_32 : ts_ins 134 32 = some (.aload 6, 34, 0) := by decide +kernel
theorem i134_34 : ts_ins 134 34 = some (.invokevirtual 388, 37, 0) := by decide +kernel
theorem g134_34 : ts_cal (ts_mc 134) 388 = some (0, 58, 0) := by decide +kernel
theorem i134_37 : ts_ins 134 37 = some (.ifCond .ne 11, 40, 48) := by decide +kernel
theorem i134_40 : ts_ins 134 40 = some (.aload 7, 42, 0) := by decide +kernel
theorem i134_42 : ts_ins 134 42 = some (.invokevirtual 388, 45, 0) := by decide +kernel
theorem g134_42 : ts_cal (ts_mc 134) 388 = some (0, 58, 0) := by decide +kernel
theorem i134_45 : ts_ins 134 45 = some (.ifCond .eq 6, 48, 51) := by decide +kernel
theorem i134_48 : ts_ins 134 48 = some (.bipush (-11), 50, 0) := by decide +kernel
theorem i134_50 : ts_ins 134 50 = some (.ireturn, 51, 0) := by decide +kernel
theorem i134_51 : ts_ins 134 51 = some (.aload 6, 53, 0) := by decide +kernel
theorem i134_53 : ts_ins 134 53 = some (.invokevirtual 391, 56, 0) := by decide +kernel
theorem g134_53 : ts_cal (ts_mc 134) 391 = some (0, 60, 0) := by decide +kernel
theorem i134_56 : ts_ins 134 56 = some (.ifCond .eq 24, 59, 80) := by decide +kernel
theorem i134_59 : ts_ins 134 59 = some (.aload 7, 61, 0) := by decide +kernel
theorem i134_61 : ts_ins 134 61 = some (.invokevirtual 391, 64, 0) := by decide +kernel
theorem g134_61 : ts_cal (ts_mc 134) 391 = some (0, 60, 0) := by decide +kernel
theorem i134_64 : ts_ins 134 64 = some (.ifCond .eq 16, 67, 80) := by decide +kernel
theorem i134_67 : ts_ins 134 67 = some (.aload 6, 69, 0) := by decide +kernel
theorem i134_69 : ts_ins 134 69 = some (.getfield 394, 72, 0) := by decide +kernel
theorem g134_69 : ts_fm 134 394 = some (7, 3, 0) := by decide +kernel
theorem i134_72 : ts_ins 134 72 = some (.aload 7, 74, 0) := by decide +kernel
theorem i134_74 : ts_ins 134 74 = some (.getfield 394, 77, 0) := by decide +kernel
theorem g134_74 : ts_fm 134 394 = some (7, 3, 0) := by decide +kernel
theorem i134_77 : ts_ins 134 77 = some (.if_icmp .eq 6, 80, 83) := by decide +kernel
theorem i134_80 : ts_ins 134 80 = some (.bipush (-12), 82, 0) := by decide +kernel
theorem i134_82 : ts_ins 134 82 = some (.ireturn, 83, 0) := by decide +kernel
theorem i134_83 : ts_ins 134 83 = some (.aload 6, 85, 0) := by decide +kernel
theorem i134_85 : ts_ins 134 85 = some (.iload_n 2, 86, 0) := by decide +kernel
theorem i134_86 : ts_ins 134 86 = some (.iload 5, 88, 0) := by decide +kernel
theorem i134_88 : ts_ins 134 88 = some (.invokevirtual 397, 91, 0) := by decide +kernel
theorem g134_88 : ts_cal (ts_mc 134) 397 = some (0, 64, 2) := by decide +kernel
theorem i134_91 : ts_ins 134 91 = some (.ifCond .eq 15, 94, 106) := by decide +kernel
theorem i134_94 : ts_ins 134 94 = some (.aload 7, 96, 0) := by decide +kernel
theorem i134_96 : ts_ins 134 96 = some (.iload 4, 98, 0) := by decide +kernel
theorem i134_98 : ts_ins 134 98 = some (.iload 5, 100, 0) := by decide +kernel
theorem i134_100 : ts_ins 134 100 = some (.invokevirtual 397, 103, 0) := by decide +kernel
theorem g134_100 : ts_cal (ts_mc 134) 397 = some (0, 64, 2) := by decide +kernel
theorem i134_103 : ts_ins 134 103 = some (.ifCond .ne 6, 106, 109) := by decide +kernel
theorem i134_106 : ts_ins 134 106 = some (.bipush (-13), 108, 0) := by decide +kernel
theorem i134_108 : ts_ins 134 108 = some (.ireturn, 109, 0) := by decide +kernel
theorem i134_109 : ts_ins 134 109 = some (.aload 6, 111, 0) := by decide +kernel
theorem i134_111 : ts_ins 134 111 = some (.getfield 384, 114, 0) := by decide +kernel
theorem g134_111 : ts_fm 134 384 = some (7, 0, 2) := by decide +kernel
theorem i134_114 : ts_ins 134 114 = some (.iload_n 2, 115, 0) := by decide +kernel
theorem i134_115 : ts_ins 134 115 = some (.aload 7, 117, 0) := by decide +kernel
theorem i134_117 : ts_ins 134 117 = some (.getfield 384, 120, 0) := by decide +kernel
theorem g134_117 : ts_fm 134 384 = some (7, 0, 2) := by decide +kernel
theorem i134_120 : ts_ins 134 120 = some (.iload 4, 122, 0) := by decide +kernel
theorem i134_122 : ts_ins 134 122 = some (.iload 5, 124, 0) := by decide +kernel
theorem i134_124 : ts_ins 134 124 = some (.invokestatic 320, 127, 0) := by decide +kernel
theorem g134_124 : ts_cal (ts_mc 134) 320 = some (9, 0, 5) := by decide +kernel
theorem i134_127 : ts_ins 134 127 = some (.iload 5, 129, 0) := by decide +kernel
theorem i134_129 : ts_ins 134 129 = some (.ireturn, 130, 0) := by decide +kernel
theorem r134 : ts_rt 134 = ((some .int), 0, 0) := by decide +kernel
theorem l134 : ts_ml 134 = 8 := by decide +kernel
/-! ROWS: keep, row, put, shift -/
abbrev fs1 : Nat → Nat → Prop := fun a _ => 60 ≤ a ∧ a ≤ 71
abbrev fsm : Nat → Nat → Prop := fun a _ => 93 ≤ a ∧ a ≤ 96
theorem zi2b_b (a : Int) : -128 ≤ zi2b a ∧ zi2b a ≤ 127 := by
  unfold zi2b
  rw [Int8.toInt_toInt32]
  have h1 := Int8.le_toInt (zI a).toInt8
  have h2 := Int8.toInt_lt (zI a).toInt8
  omega
def g_fit (so v : Int) : Int := if so = 0 then zi2b v else if so = 1 then zi2s v else if so = 2 then (zI v).toInt else if so = 4 then (if v = 0 then 0 else 1) else v
theorem g_fit_r {so v : Int} (hv : -9223372036854775808 ≤ v ∧ v ≤ 9223372036854775807) : -9223372036854775808 ≤ g_fit so v ∧ g_fit so v ≤ 9223372036854775807 := by
  have h1 := zi2b_r v
  have h2 := zi2s_r v
  have h3 := zI_r (zI v)
  unfold g_fit
  omega
def g_rowA (x so n : Int) : Int := if ¬ ((0 ≤ x ∧ x < 6) ∧ (0 ≤ so ∧ so < 5) ∧ n ≤ 60) then -1 else if n < 0 then -14 else 1
def g_rowS (s : ts_Sh) (x so n : Int) : ts_Sh := if ((0 ≤ x ∧ x < 6) ∧ (0 ≤ so ∧ so < 5) ∧ n ≤ 60) ∧ 0 ≤ n then (zu s.1 x (50 + so), zu s.2.1 x n, fun e k => if e = x then 0 else s.2.2 e k) else s
def g_putA (s : ts_Sh) (x i : Int) : Int := if g_refusal s x i = 0 then 1 else g_refusal s x i
def g_putS (s : ts_Sh) (x i v : Int) : ts_Sh := if g_refusal s x i = 0 then (s.1, s.2.1, fun e k => if e = x ∧ k = i then g_fit (s.1 x - 50) v else s.2.2 e k) else s
abbrev g_shOk (s : ts_Sh) (x i y j n : Int) : Prop := (0 ≤ i ∧ 0 ≤ n ∧ i + n ≤ s.2.1 x) ∧ (0 ≤ j ∧ 0 ≤ n ∧ j + n ≤ s.2.1 y)
def g_shA (s : ts_Sh) (x i y j n : Int) : Int := if ¬ ((0 ≤ x ∧ x < 6) ∧ 0 ≤ y ∧ y < 6) then -1 else if s.1 x < 0 ∨ s.1 y < 0 then -11 else if s.1 x < 50 ∨ ¬ s.1 x = s.1 y then -12 else if g_shOk s x i y j n then n else -13
def g_shS (s : ts_Sh) (x i y j n : Int) : ts_Sh := if ((0 ≤ x ∧ x < 6) ∧ 0 ≤ y ∧ y < 6) ∧ (50 ≤ s.1 x ∧ s.1 x = s.1 y) ∧ g_shOk s x i y j n then (s.1, s.2.1, fun e k => if e = y ∧ j ≤ k ∧ k < j + n then s.2.2 x (i + (k - j)) else s.2.2 e k) else s
section RO1
variable {X : ts_X} {I J : Nat → Nat → Int32} {L M : Nat → Nat → Int64} {sw : Bool} {K : Option Value → ts_H → Prop} {d : Nat} {s : ts_Sh} {q : Nat}
theorem x_fillJ (hq : q < 6) (hK : ∀ M, fr (fun a _ => a = 61 + 2 * q) L M → (∀ k : Int, 0 ≤ k → k < 60 → M (61 + 2 * q) k.toNat = zL 0) → K none (I, M, ts_P0 sw, ts_S0)) : ts_Cal X (d + 1) 249 [.ref (61 + 2 * q), .long (zL (0))] (I, L, ts_P0 sw, ts_S0) K := by
  have loop : ∀ j : Int, 0 ≤ j → j ≤ 60 → ∀ M, fr (fun a _ => a = 61 + 2 * q) L M → (∀ k : Int, 0 ≤ k → k < j → M (61 + 2 * q) k.toNat = zL 0) → ts_Ev X (ts_Cal X (d + 0)) 249 ts_S0 K 6 [.ref (61 + 2 * q), .long (zL (0)), .null, .int (zI (j)), .int (zI (60))] [] (I, M, ts_P0 sw, ts_S0) := by
    refine ts_ind 60 (fun j ih h0 h1 M hM hz => ?_)
    refine ev_iloadn_3 i249_6 ?_
    refine ev_iload_4 i249_7 ?_
    refine ew_icmpge i249_9 (by omega) (fun c9 => ?_) (fun c9 => ?_)
    · refine ev_return i249_22 r249 ?_
      obtain rfl : j = 60 := by omega
      exact hK M hM hz
    · refine ev_aloadn_0 i249_12 ?_
      refine ev_iloadn_3 i249_13 ?_
      refine ev_lloadn_1 i249_14 ?_
      refine ew_lastore i249_15 (she_A hq) (by omega) (by omega) (by omega) ?_
      refine ew_iinc_3 i249_16 rfl ?_
      refine ev_goto i249_19 ?_
      refine ih (by omega) (by omega) (by omega) _ (fr_up hM rfl) (fun k k0 k1 => ?_)
      by_cases c : k = j
      · subst c
        exact ts_up_e _ _ _ _
      · rw [ts_up_nj (by omega)]
        exact hz k k0 (by omega)
  refine ev_enter (lv := [.ref (61 + 2 * q), .long (zL (0)), .null, .null, .null]) l249 rfl (Nat.le_of_ble_eq_true rfl) ?_
  refine ew_iconst i249_0 ?_
  refine ev_istoren_3 i249_1 rfl ?_
  refine ev_aloadn_0 i249_2 ?_
  refine ew_alen i249_3 (she_L hq) ?_
  refine ev_istore_4 i249_4 rfl ?_
  exact loop 0 (by decide) (by decide) L (fr_rfl _ _) (fun k k0 k1 => by omega)
theorem x_holdRow {so n : Int} (hq : q < 6) (hK : ∀ M, fr (fun a _ => a = 61 + 2 * q) L M → (∀ k : Int, 0 ≤ k → k < 60 → M (61 + 2 * q) k.toNat = zL 0) → K none (ts_up (ts_up (ts_up I (60 + 2 * q) 1 (zI 2)) (60 + 2 * q) 3 (zI so)) (60 + 2 * q) 4 (zI n), M, ts_P0 sw, ts_S0)) : ts_Cal X (d + 2) 63 [.ref (60 + 2 * q), .int (zI (so)), .int (zI (n))] (I, L, ts_P0 sw, ts_S0) K := by
  refine ev_enter (lv := [.ref (60 + 2 * q), .int (zI (so)), .int (zI (n))]) l63 rfl (Nat.le_of_ble_eq_true rfl) ?_
  refine ev_aloadn_0 i63_0 ?_
  refine ew_iconst i63_1 ?_
  refine ev_putI i63_2 g63_2 (she_I hq) ?_
  refine ev_aloadn_0 i63_5 ?_
  refine ev_iloadn_1 i63_6 ?_
  refine ev_putI i63_7 g63_7 (she_I hq) ?_
  refine ev_aloadn_0 i63_10 ?_
  refine ev_iloadn_2 i63_11 ?_
  refine ev_putI i63_12 g63_12 (she_I hq) ?_
  refine ev_aloadn_0 i63_15 ?_
  refine ev_getA i63_16 g63_16 (she_I hq) (she_P hq) (by omega) ?_
  refine ew_lconst (z := 0) i63_19 (by decide) ?_
  refine ev_stat2 i63_20 g63_20 (by decide +kernel) (Nat.le_of_ble_eq_true rfl) (x_fillJ hq (fun M h1 h2 => ?_))
  refine ev_return i63_23 r63 ?_
  exact hK M h1 h2
theorem x_row (hS : RXs I L s) {x so n : Int} (hx : -2147483648 ≤ x ∧ x ≤ 2147483647) (hs : -2147483648 ≤ so ∧ so ≤ 2147483647) (hn : -2147483648 ≤ n ∧ n ≤ 2147483647) (hK : ∀ J M, fr fs1 I J → fr fs1 L M → RXs J M (g_rowS s x so n) → K (some (.int (zI (g_rowA x so n)))) (J, M, ts_P0 sw, ts_S0)) : ts_Cal X (d + 3) 131 [.ref 1, .int (zI (x)), .int (zI (so)), .int (zI (n))] (I, L, ts_P0 sw, ts_S0) K := by
  unfold g_rowS g_rowA at hK
  refine ev_enter (lv := [.ref 1, .int (zI (x)), .int (zI (so)), .int (zI (n))]) l131 rfl (Nat.le_of_ble_eq_true rfl) ?_
  refine ev_iloadn_1 i131_0 ?_
  refine ev_stat1 i131_1 g131_1 (by decide +kernel) (Nat.le_of_ble_eq_true rfl) (x_isShelf hx ?_)
  first
  | refine ew_ifeqB i131_4 (fun c4 => ?_) (fun c4 => ?_)
  | refine ew_ifeq i131_4 (by omega) (fun c4 => ?_) (fun c4 => ?_)
  · refine ew_iconst i131_20 ?_
    refine ev_ireturn i131_21 r131 ?_
    rw [if_neg (by omega), if_pos (by omega)] at hK
    exact hK I L (fr_rfl _ _) (fr_rfl _ _) hS
  · refine ev_iloadn_2 i131_7 ?_
    refine ev_stat1 i131_8 g131_8 (by decide +kernel) (Nat.le_of_ble_eq_true rfl) (x_isSort hs ?_)
    first
    | refine ew_ifeqB i131_11 (fun c11 => ?_) (fun c11 => ?_)
    | refine ew_ifeq i131_11 (by omega) (fun c11 => ?_) (fun c11 => ?_)
    · refine ew_iconst i131_20 ?_
      refine ev_ireturn i131_21 r131 ?_
      rw [if_neg (by omega), if_pos (by omega)] at hK
      exact hK I L (fr_rfl _ _) (fr_rfl _ _) hS
    · refine ev_iloadn_3 i131_14 ?_
      refine ew_bipush i131_15 (by decide) ?_
      refine ew_icmple i131_17 (by omega) (fun c17 => ?_) (fun c17 => ?_)
      · refine ev_iloadn_3 i131_22 ?_
        refine ew_ifge i131_23 (by omega) (fun c23 => ?_) (fun c23 => ?_)
        · rw [if_pos (by omega), if_neg (by omega), if_neg (by omega)] at hK
          obtain ⟨q, rfl⟩ : ∃ q : Nat, x = q := ⟨x.toNat, by omega⟩
          have hq : q < 6 := by omega
          refine ev_aloadn_0 i131_29 ?_
          refine ev_getA i131_30 g131_30 rfl rfl (by decide) ?_
          refine ev_iloadn_1 i131_33 ?_
          refine ew_aaload i131_34 rfl (by omega) (by omega) (by omega) (she_Sq hq) (by omega) ?_
          refine ev_iloadn_2 i131_35 ?_
          refine ev_iloadn_3 i131_36 ?_
          refine ev_virt2 i131_37 g131_37 (she_R hq (by decide +kernel)) (by decide +kernel) (Nat.le_of_ble_eq_true rfl) (x_holdRow hq (fun M h1 h2 => ?_))
          refine ew_iconst i131_40 ?_
          refine ev_ireturn i131_41 r131 ?_
          refine hK _ M (fr_up (fr_up (fr_up (fr_rfl _ _) (by omega)) (by omega)) (by omega)) (fr_mo h1 (fun a k r => by omega)) ?_
          refine hS.set hq (fun a ha => by rw [ts_up_na ha, ts_up_na ha, ts_up_na ha]) (fun a ha => fr_row h1 (fun k => ha)) (fun p hp => ⟨zu_n hp, zu_n hp, funext fun k => if_neg hp⟩) ?_ (fun a1 a2 => ?_) (fun a1 => ?_) ?_ (fun k k0 k1 => ?_)
          · simp only [zu_e]
            simp [ts_up]
            exact ⟨by unfold s_holds; rw [if_neg (by omega), if_neg (by omega)], by unfold s_holds; omega, by unfold s_holds; omega⟩
          · simp only [zu_e] at *
            omega
          · simp only [zu_e] at *
            simp [ts_up]
            exact ⟨congrArg zI (by omega), by omega, by omega⟩
          · simp only [zu_e]
            simp [ts_up]
            exact ⟨rfl, by omega, by omega⟩
          · rw [h2 k k0 k1]
            show rl _ _ _ (if (q : Int) = q then 0 else _)
            rw [if_pos rfl]
            exact ⟨rfl, by decide, by decide⟩
        · refine ew_bipush i131_26 (by decide) ?_
          refine ev_ireturn i131_28 r131 ?_
          rw [if_neg (by omega), if_neg (by omega), if_pos (by omega)] at hK
          exact hK I L (fr_rfl _ _) (fr_rfl _ _) hS
      · refine ew_iconst i131_20 ?_
        refine ev_ireturn i131_21 r131 ?_
        rw [if_neg (by omega), if_pos (by omega)] at hK
        exact hK I L (fr_rfl _ _) (fr_rfl _ _) hS
theorem x_fitted (hS : RXs I L s) (hq : q < 6) {v : Int} (h50 : 50 ≤ s.1 q) (hv : -9223372036854775808 ≤ v ∧ v ≤ 9223372036854775807) (hK : K (some (.long (zL (g_fit (s.1 q - 50) v)))) (I, L, ts_P0 sw, ts_S0)) : ts_Cal X (d + 1) 67 [.ref (60 + 2 * q), .long (zL (v))] (I, L, ts_P0 sw, ts_S0) K := by
  have h1 := zi2b_r v
  have h2 := zi2s_r v
  have h3 := zI_r (zI v)
  unfold g_fit at hK
  refine ev_enter (lv := [.ref (60 + 2 * q), .long (zL (v)), .null]) l67 rfl (Nat.le_of_ble_eq_true rfl) ?_
  refine ev_aloadn_0 i67_0 ?_
  refine ew_getI i67_1 g67_1 (she_I hq) ((hS.sort hq h50)) (fun b1 => ?_)
  rcases (show (s.1 q - 50) = 0 ∨ (s.1 q - 50) = 1 ∨ (s.1 q - 50) = 2 ∨ (s.1 q - 50) = 3 ∨ (s.1 q - 50) = 4 ∨ ((s.1 q - 50) < 0 ∨ 4 < (s.1 q - 50)) by omega) with c4 | c4 | c4 | c4 | c4 | c4
  · refine ew_sw (v := 0) i67_4 c4 (t := 40) (by decide) rfl ?_
    refine ev_lloadn_1 i67_40 ?_
    refine ew_l2i i67_41 ?_
    refine ew_i2b i67_42 ?_
    refine ew_i2l i67_43 (by omega) ?_
    refine ev_lreturn i67_44 r67 ?_
    first | exact hK | exact zKl hK (by omega)
  · refine ew_sw (v := 1) i67_4 c4 (t := 45) (by decide) rfl ?_
    refine ev_lloadn_1 i67_45 ?_
    refine ew_l2i i67_46 ?_
    refine ew_i2s i67_47 ?_
    refine ew_i2l i67_48 (by omega) ?_
    refine ev_lreturn i67_49 r67 ?_
    first | exact hK | exact zKl hK (by omega)
  · refine ew_sw (v := 2) i67_4 c4 (t := 50) (by decide) rfl ?_
    refine ev_lloadn_1 i67_50 ?_
    refine ew_l2i i67_51 ?_
    rw [show zI v = zI (zI v).toInt from (zI_of _).symm]
    refine ew_i2l i67_52 (by omega) ?_
    refine ev_lreturn i67_53 r67 ?_
    first | exact hK | exact zKl hK (by omega)
  · refine ew_sw (v := 3) i67_4 c4 (t := 66) (by decide) rfl ?_
    refine ev_lloadn_1 i67_66 ?_
    refine ev_lreturn i67_67 r67 ?_
    first | exact hK | exact zKl hK (by omega)
  · refine ew_sw (v := 4) i67_4 c4 (t := 54) (by decide) rfl ?_
    refine ev_lloadn_1 i67_54 ?_
    refine ew_lconst (z := 0) i67_55 (by decide) ?_
    refine ew_lcmp i67_56 (by omega) (by omega) ?_
    first
    | refine ew_ifeqB i67_57 (fun c57 => ?_) (fun c57 => ?_)
    | refine ew_ifeq i67_57 (by omega) (fun c57 => ?_) (fun c57 => ?_)
    · refine ew_lconst (z := 0) i67_64 (by decide) ?_
      refine ev_lreturn i67_65 r67 ?_
      first | exact hK | exact zKl hK (by omega)
    · refine ew_lconst (z := 1) i67_60 (by decide) ?_
      refine ev_goto i67_61 ?_
      refine ev_lreturn i67_65 r67 ?_
      first | exact hK | exact zKl hK (by omega)
  · refine ew_tswD (t := 66) i67_4 (by omega) c4 (by decide) ?_
    refine ev_lloadn_1 i67_66 ?_
    refine ev_lreturn i67_67 r67 ?_
    first | exact hK | exact zKl hK (by omega)
theorem x_setElement (hS : RXs I L s) (hq : q < 6) {i v : Int} (h50 : 50 ≤ s.1 q) (hi : 0 ≤ i ∧ i < s.2.1 q) (hv : -9223372036854775808 ≤ v ∧ v ≤ 9223372036854775807) (hK : K none (I, ts_up L (61 + 2 * q) i.toNat (zL (g_fit (s.1 q - 50) v)), ts_P0 sw, ts_S0)) : ts_Cal X (d + 2) 66 [.ref (60 + 2 * q), .int (zI (i)), .long (zL (v))] (I, L, ts_P0 sw, ts_S0) K := by
  have hz := (hS.size hq).2
  refine ev_enter (lv := [.ref (60 + 2 * q), .int (zI (i)), .long (zL (v)), .null]) l66 rfl (Nat.le_of_ble_eq_true rfl) ?_
  refine ev_aloadn_0 i66_0 ?_
  refine ev_iloadn_1 i66_1 ?_
  refine ew_iconst i66_2 ?_
  refine ev_virt2 i66_3 g66_3 (she_R hq (by decide +kernel)) (by decide +kernel) (Nat.le_of_ble_eq_true rfl) (x_hasPlaces hS hq (by omega) (by omega) ?_)
  first
  | refine ew_ifeqB i66_6 (fun c6 => ?_) (fun c6 => ?_)
  | refine ew_ifeq i66_6 (by omega) (fun c6 => ?_) (fun c6 => ?_)
  · refine ev_return i66_20 r66 ?_
    first | exact hK | (exfalso; omega)
  · refine ev_aloadn_0 i66_9 ?_
    refine ev_getA i66_10 g66_10 (she_I hq) (she_P hq) (by omega) ?_
    refine ev_iloadn_1 i66_13 ?_
    refine ev_aloadn_0 i66_14 ?_
    refine ev_lloadn_2 i66_15 ?_
    refine ev_virt1 i66_16 g66_16 (she_R hq (by decide +kernel)) (by decide +kernel) (Nat.le_of_ble_eq_true rfl) (x_fitted hS hq h50 hv ?_)
    refine ew_lastore i66_19 (she_A hq) (by omega) (by omega) (by omega) ?_
    refine ev_return i66_20 r66 ?_
    first | exact hK | (exfalso; omega)
theorem x_put (hS : RXs I L s) {x i v : Int} (hx : -2147483648 ≤ x ∧ x ≤ 2147483647) (hi : -2147483648 ≤ i ∧ i ≤ 2147483647) (hv : -9223372036854775808 ≤ v ∧ v ≤ 9223372036854775807) (hK : ∀ M, fr fs1 L M → RXs I M (g_putS s x i v) → K (some (.int (zI (g_putA s x i)))) (I, M, ts_P0 sw, ts_S0)) : ts_Cal X (d + 3) 132 [.ref 1, .int (zI (x)), .int (zI (i)), .long (zL (v))] (I, L, ts_P0 sw, ts_S0) K := by
  have gr := g_refusal_r s x i
  unfold g_putS g_putA at hK
  refine ev_enter (lv := [.ref 1, .int (zI (x)), .int (zI (i)), .long (zL (v)), .null, .null]) l132 rfl (Nat.le_of_ble_eq_true rfl) ?_
  refine ev_aloadn_0 i132_0 ?_
  refine ev_iloadn_1 i132_1 ?_
  refine ev_iloadn_2 i132_2 ?_
  refine ev_virt2 i132_3 g132_3 rfl (by decide +kernel) (Nat.le_of_ble_eq_true rfl) (x_refusal hS hx hi ?_)
  refine ev_istore_5 i132_6 rfl ?_
  refine ev_iload_5 i132_8 ?_
  first
  | refine ew_ifeqB i132_10 (fun c10 => ?_) (fun c10 => ?_)
  | refine ew_ifeq i132_10 (by omega) (fun c10 => ?_) (fun c10 => ?_)
  · rw [if_pos c10, if_pos c10] at hK
    have h0 := g_refusal_0 c10
    obtain ⟨q, rfl⟩ : ∃ q : Nat, x = q := ⟨x.toNat, by omega⟩
    have hq : q < 6 := by omega
    have hz := (hS.size hq).2
    have hfr := g_fit_r (so := s.1 q - 50) hv
    refine ev_aloadn_0 i132_16 ?_
    refine ev_getA i132_17 g132_17 rfl rfl (by decide) ?_
    refine ev_iloadn_1 i132_20 ?_
    refine ew_aaload i132_21 rfl (by omega) (by omega) (by omega) (she_Sq hq) (by omega) ?_
    refine ev_iloadn_2 i132_22 ?_
    refine ev_lloadn_3 i132_23 ?_
    refine ev_virt2 i132_24 g132_24 (she_R hq (by decide +kernel)) (by decide +kernel) (Nat.le_of_ble_eq_true rfl) (x_setElement hS hq h0.2.2.1 h0.2.2.2 hv ?_)
    refine ew_iconst i132_27 ?_
    refine ev_ireturn i132_28 r132 ?_
    refine hK _ (fr_up (fr_rfl _ _) (by omega)) ?_
    refine hS.set hq (fun a ha => rfl) (fun a ha => ts_up_na ha) (fun p hp => ⟨rfl, rfl, funext fun k => if_neg (fun r => hp r.1)⟩) (hS.holds hq) (fun a1 a2 => hS.flail hq ⟨a1, a2⟩) (fun a1 => hS.sort hq a1) (hS.size hq) (fun k k0 k1 => ?_)
    show rl _ _ _ (if (q : Int) = q ∧ k = i then _ else _)
    by_cases c : k = i
    · subst c
      rw [ts_up_e, if_pos ⟨rfl, rfl⟩]
      exact rl_zL hfr
    · rw [ts_up_nj (by omega), if_neg (fun r => c r.2)]
      exact hS.it hq k0 k1
  · refine ev_iload_5 i132_13 ?_
    refine ev_ireturn i132_15 r132 ?_
    rw [if_neg c10, if_neg c10] at hK
    exact hK L (fr_rfl _ _) hS
theorem x_shift (hS : RXs I L s) (hO : ROs s) {x i y j n : Int} (hx : -2147483648 ≤ x ∧ x ≤ 2147483647) (hi : -2147483648 ≤ i ∧ i ≤ 2147483647) (hy : -2147483648 ≤ y ∧ y ≤ 2147483647) (hj : -2147483648 ≤ j ∧ j ≤ 2147483647) (hn : -2147483648 ≤ n ∧ n ≤ 2147483647) (hK : ∀ M, fr fs1 L M → RXs I M (g_shS s x i y j n) → K (some (.int (zI (g_shA s x i y j n)))) (I, M, ts_P0 sw, ts_S0)) : ts_Cal X (d + 2) 134 [.ref 1, .int (zI (x)), .int (zI (i)), .int (zI (y)), .int (zI (j)), .int (zI (n))] (I, L, ts_P0 sw, ts_S0) K := by
  unfold g_shS g_shA at hK
  refine ev_enter (lv := [.ref 1, .int (zI (x)), .int (zI (i)), .int (zI (y)), .int (zI (j)), .int (zI (n)), .null, .null]) l134 rfl (Nat.le_of_ble_eq_true rfl) ?_
  refine ev_iloadn_1 i134_0 ?_
  refine ev_stat1 i134_1 g134_1 (by decide +kernel) (Nat.le_of_ble_eq_true rfl) (x_isShelf hx ?_)
  first
  | refine ew_ifeqB i134_4 (fun c4 => ?_) (fun c4 => ?_)
  | refine ew_ifeq i134_4 (by omega) (fun c4 => ?_) (fun c4 => ?_)
  · refine ew_iconst i134_14 ?_
    refine ev_ireturn i134_15 r134 ?_
    rw [if_neg (by omega), if_pos (by omega)] at hK
    exact hK L (fr_rfl _ _) hS
  · refine ev_iloadn_3 i134_7 ?_
    refine ev_stat1 i134_8 g134_8 (by decide +kernel) (Nat.le_of_ble_eq_true rfl) (x_isShelf hy ?_)
    first
    | refine ew_ifneB i134_11 (fun c11 => ?_) (fun c11 => ?_)
    | refine ew_ifne i134_11 (by omega) (fun c11 => ?_) (fun c11 => ?_)
    · obtain ⟨q, rfl⟩ : ∃ q : Nat, x = q := ⟨x.toNat, by omega⟩
      obtain ⟨p, rfl⟩ : ∃ p : Nat, y = p := ⟨y.toNat, by omega⟩
      have hq : q < 6 := by omega
      have hp : p < 6 := by omega
      have hz := (hS.size hq).2
      have hz2 := (hS.size hp).2
      refine ev_aloadn_0 i134_16 ?_
      refine ev_getA i134_17 g134_17 rfl rfl (by decide) ?_
      refine ev_iloadn_1 i134_20 ?_
      refine ew_aaload i134_21 rfl (by omega) (by omega) (by omega) (she_Sq hq) (by omega) ?_
      refine ev_astore_6 i134_22 rfl ?_
      refine ev_aloadn_0 i134_24 ?_
      refine ev_getA i134_25 g134_25 rfl rfl (by decide) ?_
      refine ev_iloadn_3 i134_28 ?_
      refine ew_aaload i134_29 rfl (by omega) (by omega) (by omega) (she_Sq hp) (by omega) ?_
      refine ev_astore_7 i134_30 rfl ?_
      refine ev_aload_6 i134_32 ?_
      refine ev_virt0 i134_34 g134_34 (she_R hq (by decide +kernel)) (by decide +kernel) (Nat.le_of_ble_eq_true rfl) (x_isEmpty hS hq ?_)
      first
      | refine ew_ifneB i134_37 (fun c37 => ?_) (fun c37 => ?_)
      | refine ew_ifne i134_37 (by omega) (fun c37 => ?_) (fun c37 => ?_)
      · refine ew_bipush i134_48 (by decide) ?_
        refine ev_ireturn i134_50 r134 ?_
        rw [if_neg (by omega), if_neg (by omega), if_pos (by omega)] at hK
        exact hK L (fr_rfl _ _) hS
      · refine ev_aload_7 i134_40 ?_
        refine ev_virt0 i134_42 g134_42 (she_R hp (by decide +kernel)) (by decide +kernel) (Nat.le_of_ble_eq_true rfl) (x_isEmpty hS hp ?_)
        first
        | refine ew_ifeqB i134_45 (fun c45 => ?_) (fun c45 => ?_)
        | refine ew_ifeq i134_45 (by omega) (fun c45 => ?_) (fun c45 => ?_)
        · refine ev_aload_6 i134_51 ?_
          refine ev_virt0 i134_53 g134_53 (she_R hq (by decide +kernel)) (by decide +kernel) (Nat.le_of_ble_eq_true rfl) (x_isRow hS hq ?_)
          first
          | refine ew_ifeqB i134_56 (fun c56 => ?_) (fun c56 => ?_)
          | refine ew_ifeq i134_56 (by omega) (fun c56 => ?_) (fun c56 => ?_)
          · refine ew_bipush i134_80 (by decide) ?_
            refine ev_ireturn i134_82 r134 ?_
            rw [if_neg (by omega), if_neg (by omega), if_neg (by omega), if_pos (by omega)] at hK
            exact hK L (fr_rfl _ _) hS
          · refine ev_aload_7 i134_59 ?_
            refine ev_virt0 i134_61 g134_61 (she_R hp (by decide +kernel)) (by decide +kernel) (Nat.le_of_ble_eq_true rfl) (x_isRow hS hp ?_)
            first
            | refine ew_ifeqB i134_64 (fun c64 => ?_) (fun c64 => ?_)
            | refine ew_ifeq i134_64 (by omega) (fun c64 => ?_) (fun c64 => ?_)
            · refine ew_bipush i134_80 (by decide) ?_
              refine ev_ireturn i134_82 r134 ?_
              rw [if_neg (by omega), if_neg (by omega), if_neg (by omega), if_pos (by omega)] at hK
              exact hK L (fr_rfl _ _) hS
            · refine ev_aload_6 i134_67 ?_
              refine ew_getI i134_69 g134_69 (she_I hq) ((hS.sort hq (by omega))) (fun b69 => ?_)
              refine ev_aload_7 i134_72 ?_
              refine ew_getI i134_74 g134_74 (she_I hp) ((hS.sort hp (by omega))) (fun b74 => ?_)
              refine ew_icmpeq i134_77 (by omega) (fun c77 => ?_) (fun c77 => ?_)
              · refine ev_aload_6 i134_83 ?_
                refine ev_iloadn_2 i134_85 ?_
                refine ev_iload_5 i134_86 ?_
                refine ev_virt2 i134_88 g134_88 (she_R hq (by decide +kernel)) (by decide +kernel) (Nat.le_of_ble_eq_true rfl) (x_hasPlaces hS hq hi hn ?_)
                first
                | refine ew_ifeqB i134_91 (fun c91 => ?_) (fun c91 => ?_)
                | refine ew_ifeq i134_91 (by omega) (fun c91 => ?_) (fun c91 => ?_)
                · refine ew_bipush i134_106 (by decide) ?_
                  refine ev_ireturn i134_108 r134 ?_
                  rw [if_neg (by omega), if_neg (by omega), if_neg (by omega), if_neg (by omega), if_neg (by omega)] at hK
                  exact hK L (fr_rfl _ _) hS
                · refine ev_aload_7 i134_94 ?_
                  refine ev_iload_4 i134_96 ?_
                  refine ev_iload_5 i134_98 ?_
                  refine ev_virt2 i134_100 g134_100 (she_R hp (by decide +kernel)) (by decide +kernel) (Nat.le_of_ble_eq_true rfl) (x_hasPlaces hS hp hj hn ?_)
                  first
                  | refine ew_ifneB i134_103 (fun c103 => ?_) (fun c103 => ?_)
                  | refine ew_ifne i134_103 (by omega) (fun c103 => ?_) (fun c103 => ?_)
                  · refine ev_aload_6 i134_109 ?_
                    refine ev_getA i134_111 g134_111 (she_I hq) (she_P hq) (by omega) ?_
                    refine ev_iloadn_2 i134_114 ?_
                    refine ev_aload_7 i134_115 ?_
                    refine ev_getA i134_117 g134_117 (she_I hp) (she_P hp) (by omega) ?_
                    refine ev_iload_4 i134_120 ?_
                    refine ev_iload_5 i134_122 ?_
                    refine ew_copyL i134_124 g134_124 (she_A hq) (she_A hp) (by omega) (by omega) (by omega) (by omega) (by omega) (Nat.le_of_ble_eq_true rfl) ?_
                    refine ev_iload_5 i134_127 ?_
                    refine ev_ireturn i134_129 r134 ?_
                    rw [if_pos (by omega), if_neg (by omega), if_neg (by omega), if_neg (by omega), if_pos (by omega)] at hK
                    refine hK _ (fr_cp (fr_rfl _ _) (fun k => by omega)) ?_
                    refine hS.set hp (fun a ha => rfl) (fun a ha => by funext k; unfold ts_cp; rw [if_neg ha]) (fun p2 hp2 => ⟨rfl, rfl, funext fun k => if_neg (fun r => hp2 r.1)⟩) (hS.holds hp) (fun a1 a2 => hS.flail hp ⟨a1, a2⟩) (fun a1 => hS.sort hp a1) (hS.size hp) (fun k k0 k1 => ?_)
                    show rl _ _ _ (if (p : Int) = p ∧ j ≤ k ∧ k < j + n then _ else _)
                    unfold ts_cp
                    rw [if_pos rfl]
                    by_cases c : j ≤ k ∧ k < j + n
                    · rw [if_pos (by omega), if_pos ⟨rfl, c.1, c.2⟩]
                      have e := hS.it hq (k := i + (k - j)) (by omega) (by omega)
                      rw [show (i + (k - j)).toNat = i.toNat + (k.toNat - j.toNat) from by omega] at e
                      exact e
                    · rw [if_neg (by omega), if_neg (by omega)]
                      exact hS.it hp k0 k1
                  · refine ew_bipush i134_106 (by decide) ?_
                    refine ev_ireturn i134_108 r134 ?_
                    rw [if_neg (by omega), if_neg (by omega), if_neg (by omega), if_neg (by omega), if_neg (by omega)] at hK
                    exact hK L (fr_rfl _ _) hS
              · refine ew_bipush i134_80 (by decide) ?_
                refine ev_ireturn i134_82 r134 ?_
                rw [if_neg (by omega), if_neg (by omega), if_neg (by omega), if_pos (by omega)] at hK
                exact hK L (fr_rfl _ _) hS
        · refine ew_bipush i134_48 (by decide) ?_
          refine ev_ireturn i134_50 r134 ?_
          rw [if_neg (by omega), if_neg (by omega), if_pos (by omega)] at hK
          exact hK L (fr_rfl _ _) hS
    · refine ew_iconst i134_14 ?_
      refine ev_ireturn i134_15 r134 ?_
      rw [if_neg (by omega), if_pos (by omega)] at hK
      exact hK L (fr_rfl _ _) hS
end RO1
