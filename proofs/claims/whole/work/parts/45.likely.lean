theorem i75_0 : ts_ins 75 0 = some (.lconst 0, 1, 0) := by decide +kernel
theorem i75_1 : ts_ins 75 1 = some (.lstore_n 1, 2, 0) := by decide +kernel
theorem i75_2 : ts_ins 75 2 = some (.iconst 0, 3, 0) := by decide +kernel
theorem i75_3 : ts_ins 75 3 = some (.istore_n 3, 4, 0) := by decide +kernel
theorem i75_4 : ts_ins 75 4 = some (.iload_n 3, 5, 0) := by decide +kernel
theorem i75_5 : ts_ins 75 5 = some (.aload_n 0, 6, 0) := by decide +kernel
theorem i75_6 : ts_ins 75 6 = some (.getfield 19, 9, 0) := by decide +kernel
theorem g75_6 : ts_fm 75 19 = some (8, 0, 2) := by decide +kernel
theorem i75_9 : ts_ins 75 9 = some (.getfield 71, 12, 0) := by decide +kernel
theorem g75_9 : ts_fm 75 71 = some (3, 9, 0) := by decide +kernel
theorem i75_12 : ts_ins 75 12 = some (.if_icmp .ge 17, 15, 29) := by decide +kernel
theorem i75_15 : ts_ins 75 15 = some (.lload_n 1, 16, 0) := by decide +kernel
theorem i75_16 : ts_ins 75 16 = some (.aload_n 0, 17, 0) := by decide +kernel
theorem i75_17 : ts_ins 75 17 = some (.iload_n 3, 18, 0) := by decide +kernel
theorem i75_18 : ts_ins 75 18 = some (.invokevirtual 77, 21, 0) := by decide +kernel
theorem g75_18 : ts_cal (ts_mc 75) 77 = some (0, 74, 1) := by decide +kernel
theorem i75_21 : ts_ins 75 21 = some (.ladd, 22, 0) := by decide +kernel
theorem i75_22 : ts_ins 75 22 = some (.lstore_n 1, 23, 0) := by decide +kernel
theorem i75_23 : ts_ins 75 23 = some (.iinc 3 1, 26, 0) := by decide +kernel
theorem i75_26 : ts_ins 75 26 = some (.goto (-22), 29, 4) := by decide +kernel
theorem i75_29 : ts_ins 75 29 = some (.lload_n 1, 30, 0) := by decide +kernel
theorem i75_30 : ts_ins 75 30 = some (.lreturn, 31, 0) := by decide +kernel
theorem r75 : ts_rt 75 = ((some .long), 0, 0) := by decide +kernel
theorem l75 : ts_ml 75 = 4 := by decide +kernel
theorem i76_0 : ts_ins 76 0 = some (.lload_n 0, 1, 0) := by decide +kernel
theorem i76_1 : ts_ins 76 1 = some (.lstore 4, 3, 0) := by decide +kernel
theorem i76_3 : ts_ins 76 3 = some (.lload_n 2, 4, 0) := by decide +kernel
theorem i76_4 : ts_ins 76 4 = some (.lstore 6, 6, 0) := by decide +kernel
theorem i76_6 : ts_ins 76 6 = some (.iconst 0, 7, 0) := by decide +kernel
theorem i76_7 : ts_ins 76 7 = some (.istore 8, 9, 0) := by decide +kernel
theorem i76_9 : ts_ins 76 9 = some (.iload 8, 11, 0) := by decide +kernel
theorem i76_11 : ts_ins 76 11 = some (.sipush 200, 14, 0) := by decide +kernel
theorem i76_14 : ts_ins 76 14 = some (.if_icmp .ge 31, 17, 45) := by decide +kernel
theorem i76_17 : ts_ins 76 17 = some (.lload 6, 19, 0) := by decide +kernel
theorem i76_19 : ts_ins 76 19 = some (.lconst 0, 20, 0) := by decide +kernel
theorem i76_20 : ts_ins 76 20 = some (.lcmp, 21, 0) := by decide +kernel
theorem i76_21 : ts_ins 76 21 = some (.ifCond .eq 24, 24, 45) := by decide +kernel
theorem i76_24 : ts_ins 76 24 = some (.lload 4, 26, 0) := by decide +kernel
theorem i76_26 : ts_ins 76 26 = some (.lload 6, 28, 0) := by decide +kernel
theorem i76_28 : ts_ins 76 28 = some (.lrem, 29, 0) := by decide +kernel
theorem i76_29 : ts_ins 76 29 = some (.lstore 9, 31, 0) := by decide +kernel
theorem i76_31 : ts_ins 76 31 = some (.lload 6, 33, 0) := by decide +kernel
theorem i76_33 : ts_ins 76 33 = some (.lstore 4, 35, 0) := by decide +kernel
theorem i76_35 : ts_ins 76 35 = some (.lload 9, 37, 0) := by decide +kernel
theorem i76_37 : ts_ins 76 37 = some (.lstore 6, 39, 0) := by decide +kernel
theorem i76_39 : ts_ins 76 39 = some (.iinc 8 1, 42, 0) := by decide +kernel
theorem i76_42 : ts_ins 76 42 = some (.goto (-33), 45, 9) := by decide +kernel
theorem i76_45 : ts_ins 76 45 = some (.lload 4, 47, 0) := by decide +kernel
theorem i76_47 : ts_ins 76 47 = some (.lreturn, 48, 0) := by decide +kernel
theorem r76 : ts_rt 76 = ((some .long), 0, 0) := by decide +kernel
theorem l76 : ts_ml 76 = 11 := by decide +kernel
theorem i197_0 : ts_ins 197 0 = some (.lload_n 0, 1, 0) := by decide +kernel
theorem i197_1 : ts_ins 197 1 = some (.lstore 4, 3, 0) := by decide +kernel
theorem i197_3 : ts_ins 197 3 = some (.lload_n 2, 4, 0) := by decide +kernel
theorem i197_4 : ts_ins 197 4 = some (.lstore 6, 6, 0) := by decide +kernel
theorem i197_6 : ts_ins 197 6 = some (.lload 6, 8, 0) := by decide +kernel
theorem i197_8 : ts_ins 197 8 = some (.lconst 0, 9, 0) := by decide +kernel
theorem i197_9 : ts_ins 197 9 = some (.lcmp, 10, 0) := by decide +kernel
theorem i197_10 : ts_ins 197 10 = some (.ifCond .eq 21, 13, 31) := by decide +kernel
theorem i197_13 : ts_ins 197 13 = some (.lload 4, 15, 0) := by decide +kernel
theorem i197_15 : ts_ins 197 15 = some (.lload 6, 17, 0) := by decide +kernel
theorem i197_17 : ts_ins 197 17 = some (.lrem, 18, 0) := by decide +kernel
theorem i197_18 : ts_ins 197 18 = some (.lstore 8, 20, 0) := by decide +kernel
theorem i197_20 : ts_ins 197 20 = some (.lload 6, 22, 0) := by decide +kernel
theorem i197_22 : ts_ins 197 22 = some (.lstore 4, 24, 0) := by decide +kernel
theorem i197_24 : ts_ins 197 24 = some (.lload 8, 26, 0) := by decide +kernel
theorem i197_26 : ts_ins 197 26 = some (.lstore 6, 28, 0) := by decide +kernel
theorem i197_28 : ts_ins 197 28 = some (.goto (-22), 31, 6) := by decide +kernel
theorem i197_31 : ts_ins 197 31 = some (.lload 4, 33, 0) := by decide +kernel
theorem i197_33 : ts_ins 197 33 = some (.lreturn, 34, 0) := by decide +kernel
theorem r197 : ts_rt 197 = ((some .long), 0, 0) := by decide +kernel
theorem l197 : ts_ml 197 = 10 := by decide +kernel
theorem i110_0 : ts_ins 110 0 = some (.aload_n 0, 1, 0) := by decide +kernel
theorem i110_1 : ts_ins 110 1 = some (.getfield 10, 4, 0) := by decide +kernel
theorem g110_1 : ts_fm 110 10 = some (11, 0, 2) := by decide +kernel
theorem i110_4 : ts_ins 110 4 = some (.iload_n 2, 5, 0) := by decide +kernel
theorem i110_5 : ts_ins 110 5 = some (.invokevirtual 129, 8, 0) := by decide +kernel
theorem g110_5 : ts_cal (ts_mc 110) 129 = some (0, 20, 1) := by decide +kernel
theorem i110_8 : ts_ins 110 8 = some (.ifCond .eq 28, 11, 36) := by decide +kernel
theorem i110_11 : ts_ins 110 11 = some (.iload_n 3, 12, 0) := by decide +kernel
theorem i110_12 : ts_ins 110 12 = some (.invokestatic 217, 15, 0) := by decide +kernel
theorem g110_12 : ts_cal (ts_mc 110) 217 = some (1, 140, 1) := by decide +kernel
theorem i110_15 : ts_ins 110 15 = some (.ifCond .eq 21, 18, 36) := by decide +kernel
theorem i110_18 : ts_ins 110 18 = some (.aload_n 0, 19, 0) := by decide +kernel
theorem i110_19 : ts_ins 110 19 = some (.getfield 10, 22, 0) := by decide +kernel
theorem g110_19 : ts_fm 110 10 = some (11, 0, 2) := by decide +kernel
theorem i110_22 : ts_ins 110 22 = some (.getfield 240, 25, 0) := by decide +kernel
theorem g110_22 : ts_fm 110 240 = some (3, 8, 0) := by decide +kernel
theorem i110_25 : ts_ins 110 25 = some (.ifCond .eq 11, 28, 36) := by decide +kernel
theorem i110_28 : ts_ins 110 28 = some (.aload_n 0, 29, 0) := by decide +kernel
theorem i110_29 : ts_ins 110 29 = some (.iload_n 1, 30, 0) := by decide +kernel
theorem i110_30 : ts_ins 110 30 = some (.invokevirtual 100, 33, 0) := by decide +kernel
theorem g110_30 : ts_cal (ts_mc 110) 100 = some (0, 141, 1) := by decide +kernel
theorem i110_33 : ts_ins 110 33 = some (.ifCond .eq 7, 36, 40) := by decide +kernel
theorem i110_36 : ts_ins 110 36 = some (.ldc2_w 206, 39, 0) := by decide +kernel
theorem g110_36 : ts_lc (ts_mc 110) 206 = some (.long (-9223372036854775808)) := by decide +kernel
theorem i110_39 : ts_ins 110 39 = some (.lreturn, 40, 0) := by decide +kernel
theorem i110_40 : ts_ins 110 40 = some (.aload_n 0, 41, 0) := by decide +kernel
theorem i110_41 : ts_ins 110 41 = some (.getfield 42, 44, 0) := by decide +kernel
theorem g110_41 : ts_fm 110 42 = some (11, 4, 2) := by decide +kernel
theorem i110_44 : ts_ins 110 44 = some (.aload_n 0, 45, 0) := by decide +kernel
theorem i110_45 : ts_ins 110 45 = some (.getfield 87, 48, 0) := by decide +kernel
theorem g110_45 : ts_fm 110 87 = some (11, 12, 2) := by decide +kernel
theorem i110_48 : ts_ins 110 48 = some (.iload_n 1, 49, 0) := by decide +kernel
theorem i110_49 : ts_ins 110 49 = some (.aaload, 50, 0) := by decide +kernel
theorem i110_50 : ts_ins 110 50 = some (.invokevirtual 231, 53, 0) := by decide +kernel
theorem g110_50 : ts_cal (ts_mc 110) 231 = some (0, 69, 1) := by decide +kernel
theorem i110_53 : ts_ins 110 53 = some (.aload_n 0, 54, 0) := by decide +kernel
theorem i110_54 : ts_ins 110 54 = some (.getfield 42, 57, 0) := by decide +kernel
theorem g110_54 : ts_fm 110 42 = some (11, 4, 2) := by decide +kernel
theorem i110_57 : ts_ins 110 57 = some (.iload_n 2, 58, 0) := by decide +kernel
theorem i110_58 : ts_ins 110 58 = some (.invokevirtual 243, 61, 0) := by decide +kernel
theorem g110_58 : ts_cal (ts_mc 110) 243 = some (0, 74, 1) := by decide +kernel
theorem i110_61 : ts_ins 110 61 = some (.lstore 4, 63, 0) := by decide +kernel
theorem i110_63 : ts_ins 110 63 = some (.lload 4, 65, 0) := by decide +kernel
theorem i110_65 : ts_ins 110 65 = some (.lconst 0, 66, 0) := by decide +kernel
theorem i110_66 : ts_ins 110 66 = some (.lcmp, 67, 0) := by decide +kernel
theorem i110_67 : ts_ins 110 67 = some (.ifCond .ne 6, 70, 73) := by decide +kernel
theorem i110_70 : ts_ins 110 70 = some (.iload_n 3, 71, 0) := by decide +kernel
theorem i110_71 : ts_ins 110 71 = some (.i2l, 72, 0) := by decide +kernel
theorem i110_72 : ts_ins 110 72 = some (.lreturn, 73, 0) := by decide +kernel
theorem i110_73 : ts_ins 110 73 = some (.aload_n 0, 74, 0) := by decide +kernel
theorem i110_74 : ts_ins 110 74 = some (.getfield 42, 77, 0) := by decide +kernel
theorem g110_74 : ts_fm 110 42 = some (11, 4, 2) := by decide +kernel
theorem i110_77 : ts_ins 110 77 = some (.invokevirtual 247, 80, 0) := by decide +kernel
theorem g110_77 : ts_cal (ts_mc 110) 247 = some (0, 75, 0) := by decide +kernel
theorem i110_80 : ts_ins 110 80 = some (.lstore 6, 82, 0) := by decide +kernel
theorem i110_82 : ts_ins 110 82 = some (.lload 4, 84, 0) := by decide +kernel
theorem i110_84 : ts_ins 110 84 = some (.lload 6, 86, 0) := by decide +kernel
theorem i110_86 : ts_ins 110 86 = some (.invokestatic 251, 89, 0) := by decide +kernel
theorem g110_86 : ts_cal (ts_mc 110) 251 = some (1, 76, 2) := by decide +kernel
theorem i110_89 : ts_ins 110 89 = some (.lstore 8, 91, 0) := by decide +kernel
theorem i110_91 : ts_ins 110 91 = some (.lload 8, 93, 0) := by decide +kernel
theorem i110_93 : ts_ins 110 93 = some (.lconst 0, 94, 0) := by decide +kernel
theorem i110_94 : ts_ins 110 94 = some (.lcmp, 95, 0) := by decide +kernel
theorem i110_95 : ts_ins 110 95 = some (.ifCond .ne 6, 98, 101) := by decide +kernel
theorem i110_98 : ts_ins 110 98 = some (.iload_n 3, 99, 0) := by decide +kernel
theorem i110_99 : ts_ins 110 99 = some (.i2l, 100, 0) := by decide +kernel
theorem i110_100 : ts_ins 110 100 = some (.lreturn, 101, 0) := by decide +kernel
theorem i110_101 : ts_ins 110 101 = some (.iload_n 3, 102, 0) := by decide +kernel
theorem i110_102 : ts_ins 110 102 = some (.ifCond .ne 8, 105, 110) := by decide +kernel
theorem i110_105 : ts_ins 110 105 = some (.lload 4, 107, 0) := by decide +kernel
theorem i110_107 : ts_ins 110 107 = some (.goto 5, 110, 112) := by decide +kernel
theorem i110_110 : ts_ins 110 110 = some (.lload 6, 112, 0) := by decide +kernel
theorem i110_112 : ts_ins 110 112 = some (.lload 8, 114, 0) := by decide +kernel
theorem i110_114 : ts_ins 110 114 = some (.ldiv, 115, 0) := by decide +kernel
theorem i110_115 : ts_ins 110 115 = some (.lreturn, 116, 0) := by decide +kernel
theorem r110 : ts_rt 110 = ((some .long), 0, 0) := by decide +kernel
theorem l110 : ts_ml 110 = 10 := by decide +kernel
theorem i198_0 : ts_ins 198 0 = some (.aload_n 0, 1, 0) := by decide +kernel
theorem i198_1 : ts_ins 198 1 = some (.iload_n 1, 2, 0) := by decide +kernel
theorem i198_2 : ts_ins 198 2 = some (.invokevirtual 115, 5, 0) := by decide +kernel
theorem g198_2 : ts_cal (ts_mc 198) 115 = some (0, 153, 1) := by decide +kernel
theorem i198_5 : ts_ins 198 5 = some (.ifCond .lt 29, 8, 34) := by decide +kernel
theorem i198_8 : ts_ins 198 8 = some (.aload_n 0, 9, 0) := by decide +kernel
theorem i198_9 : ts_ins 198 9 = some (.iload_n 2, 10, 0) := by decide +kernel
theorem i198_10 : ts_ins 198 10 = some (.i2l, 11, 0) := by decide +kernel
theorem i198_11 : ts_ins 198 11 = some (.invokevirtual 131, 14, 0) := by decide +kernel
theorem g198_11 : ts_cal (ts_mc 198) 131 = some (0, 150, 1) := by decide +kernel
theorem i198_14 : ts_ins 198 14 = some (.ifCond .eq 20, 17, 34) := by decide +kernel
theorem i198_17 : ts_ins 198 17 = some (.aload_n 0, 18, 0) := by decide +kernel
theorem i198_18 : ts_ins 198 18 = some (.getfield 99, 21, 0) := by decide +kernel
theorem g198_18 : ts_fm 198 99 = some (12, 6, 0) := by decide +kernel
theorem i198_21 : ts_ins 198 21 = some (.ifCond .eq 13, 24, 34) := by decide +kernel
theorem i198_24 : ts_ins 198 24 = some (.iload_n 3, 25, 0) := by decide +kernel
theorem i198_25 : ts_ins 198 25 = some (.i2l, 26, 0) := by decide +kernel
theorem i198_26 : ts_ins 198 26 = some (.lconst 0, 27, 0) := by decide +kernel
theorem i198_27 : ts_ins 198 27 = some (.lconst 1, 28, 0) := by decide +kernel
theorem i198_28 : ts_ins 198 28 = some (.invokestatic 95, 31, 0) := by decide +kernel
theorem g198_28 : ts_cal (ts_mc 198) 95 = some (1, 143, 3) := by decide +kernel
theorem i198_31 : ts_ins 198 31 = some (.ifCond .ne 7, 34, 38) := by decide +kernel
theorem i198_34 : ts_ins 198 34 = some (.ldc2_w 236, 37, 0) := by decide +kernel
theorem g198_34 : ts_lc (ts_mc 198) 236 = some (.long (-9223372036854775808)) := by decide +kernel
theorem i198_37 : ts_ins 198 37 = some (.lreturn, 38, 0) := by decide +kernel
theorem i198_38 : ts_ins 198 38 = some (.aload_n 0, 39, 0) := by decide +kernel
theorem i198_39 : ts_ins 198 39 = some (.iload_n 1, 40, 0) := by decide +kernel
theorem i198_40 : ts_ins 198 40 = some (.invokevirtual 256, 43, 0) := by decide +kernel
theorem g198_40 : ts_cal (ts_mc 198) 256 = some (0, 191, 1) := by decide +kernel
theorem i198_43 : ts_ins 198 43 = some (.aload_n 0, 44, 0) := by decide +kernel
theorem i198_44 : ts_ins 198 44 = some (.iload_n 2, 45, 0) := by decide +kernel
theorem i198_45 : ts_ins 198 45 = some (.invokevirtual 262, 48, 0) := by decide +kernel
theorem g198_45 : ts_cal (ts_mc 198) 262 = some (0, 196, 1) := by decide +kernel
theorem i198_48 : ts_ins 198 48 = some (.lstore 4, 50, 0) := by decide +kernel
theorem i198_50 : ts_ins 198 50 = some (.lload 4, 52, 0) := by decide +kernel
theorem i198_52 : ts_ins 198 52 = some (.lconst 0, 53, 0) := by decide +kernel
theorem i198_53 : ts_ins 198 53 = some (.lcmp, 54, 0) := by decide +kernel
theorem i198_54 : ts_ins 198 54 = some (.ifCond .ne 6, 57, 60) := by decide +kernel
theorem i198_57 : ts_ins 198 57 = some (.iload_n 3, 58, 0) := by decide +kernel
theorem i198_58 : ts_ins 198 58 = some (.i2l, 59, 0) := by decide +kernel
theorem i198_59 : ts_ins 198 59 = some (.lreturn, 60, 0) := by decide +kernel
theorem i198_60 : ts_ins 198 60 = some (.lconst 0, 61, 0) := by decide +kernel
theorem i198_61 : ts_ins 198 61 = some (.lstore 6, 63, 0) := by decide +kernel
theorem i198_63 : ts_ins 198 63 = some (.iconst 0, 64, 0) := by decide +kernel
theorem i198_64 : ts_ins 198 64 = some (.istore 8, 66, 0) := by decide +kernel
theorem i198_66 : ts_ins 198 66 = some (.iload 8, 68, 0) := by decide +kernel
theorem i198_68 : ts_ins 198 68 = some (.aload_n 0, 69, 0) := by decide +kernel
theorem i198_69 : ts_ins 198 69 = some (.getfield 102, 72, 0) := by decide +kernel
theorem g198_69 : ts_fm 198 102 = some (12, 7, 0) := by decide +kernel
theorem i198_72 : ts_ins 198 72 = some (.if_icmp .ge 20, 75, 92) := by decide +kernel
theorem i198_75 : ts_ins 198 75 = some (.lload 6, 77, 0) := by decide +kernel
theorem i198_77 : ts_ins 198 77 = some (.aload_n 0, 78, 0) := by decide +kernel
theorem i198_78 : ts_ins 198 78 = some (.iload 8, 80, 0) := by decide +kernel
theorem i198_80 : ts_ins 198 80 = some (.invokevirtual 262, 83, 0) := by decide +kernel
theorem g198_80 : ts_cal (ts_mc 198) 262 = some (0, 196, 1) := by decide +kernel
theorem i198_83 : ts_ins 198 83 = some (.ladd, 84, 0) := by decide +kernel
theorem i198_84 : ts_ins 198 84 = some (.lstore 6, 86, 0) := by decide +kernel
theorem i198_86 : ts_ins 198 86 = some (.iinc 8 1, 89, 0) := by decide +kernel
theorem i198_89 : ts_ins 198 89 = some (.goto (-23), 92, 66) := by decide +kernel
theorem i198_92 : ts_ins 198 92 = some (.lload 4, 94, 0) := by decide +kernel
theorem i198_94 : ts_ins 198 94 = some (.lload 6, 96, 0) := by decide +kernel
theorem i198_96 : ts_ins 198 96 = some (.invokestatic 266, 99, 0) := by decide +kernel
theorem g198_96 : ts_cal (ts_mc 198) 266 = some (1, 197, 2) := by decide +kernel
theorem i198_99 : ts_ins 198 99 = some (.lstore 8, 101, 0) := by decide +kernel
theorem i198_101 : ts_ins 198 101 = some (.iload_n 3, 102, 0) := by decide +kernel
theorem i198_102 : ts_ins 198 102 = some (.ifCond .ne 11, 105, 113) := by decide +kernel
theorem i198_105 : ts_ins 198 105 = some (.lload 4, 107, 0) := by decide +kernel
theorem i198_107 : ts_ins 198 107 = some (.lload 8, 109, 0) := by decide +kernel
theorem i198_109 : ts_ins 198 109 = some (.ldiv, 110, 0) := by decide +kernel
theorem i198_110 : ts_ins 198 110 = some (.goto 8, 113, 118) := by decide +kernel
theorem i198_113 : ts_ins 198 113 = some (.lload 6, 115, 0) := by decide +kernel
theorem i198_115 : ts_ins 198 115 = some (.lload 8, 117, 0) := by decide +kernel
theorem i198_117 : ts_ins 198 117 = some (.ldiv, 118, 0) := by decide +kernel
theorem i198_118 : ts_ins 198 118 = some (.lreturn, 119, 0) := by decide +kernel
theorem r198 : ts_rt 198 = ((some .long), 0, 0) := by decide +kernel
theorem l198 : ts_ml 198 = 10 := by decide +kernel
/-! likely, drawn -/
section LK
variable {X : ts_X} {I J : Nat → Nat → Int32} {L : Nat → Nat → Int64} {sw : Bool} {K : Option Value → ts_H → Prop} {d : Nat} {f : ts_Fl} {s : ts_Sh} {n : Int} {g : Int → Int}
theorem RX.arms (h : RX I f) : ∀ p, 0 ≤ p → p < 4 → 0 ≤ f_arm f p ∧ f_arm f p ≤ 12 := fun p p0 p1 => (h.arm p p0 p1).2
theorem RM.arms (h : RM I f) : ∀ p, 0 ≤ p → p < 4 → 0 ≤ f_arm f p ∧ f_arm f p ≤ 12 := fun p p0 p1 => (h.arm p p0 p1).2
theorem x_weightOfAll (hX : RX I f) (hO : RXo I n g) (hm : 0 < f_men f) (hK : K (some (.long (zL (g_wall f n g)))) (I, L, ts_P0 sw, ts_S0)) : ts_Cal X (d + 4) 75 [.ref 40] (I, L, ts_P0 sw, ts_S0) K := by
  have b1 := hX.told.2
  have loop : ∀ k : Int, 0 ≤ k → k ≤ f_told f → ∀ w, zwh (f_told f) (fun t a => a + g_w f n g t) k w = g_wall f n g → ts_Ev X (ts_Cal X (d + 3)) 75 ts_S0 K 4 [.ref 40, .long (zL (w)), .null, .int (zI (k))] [] (I, L, ts_P0 sw, ts_S0) := by
    refine ts_ind (f_told f) (fun k ih h0 h1 w h2 => ?_)
    refine ev_iloadn_3 i75_4 ?_
    refine ev_aloadn_0 i75_5 ?_
    refine ev_getA i75_6 g75_6 rfl rfl (by decide) ?_
    refine ew_getI i75_9 g75_9 rfl (by first | exact hX.men | exact hX.told | exact hX.road | exact hX.tone _ (by omega) (by omega) | exact hX.corn _ (by omega) (by omega) | exact hX.stand _ (by omega) (by omega) | exact hX.reach _ (by omega) (by omega) | exact hX.arm _ (by omega) (by omega) | exact hX.late _ (by omega) (by omega) | exact hX.len _ (by omega) (by omega) | exact hX.say (by omega) (by omega) _ (by omega) (by omega)) (fun b9 => ?_)
    refine ew_icmpge i75_12 (by omega) (fun c12 => ?_) (fun c12 => ?_)
    · refine ev_lloadn_1 i75_29 ?_
      refine ev_lreturn i75_30 r75 ?_
      rw [zwh_0 (by omega)] at h2
      rw [← h2] at hK
      exact hK
    · refine ev_lloadn_1 i75_15 ?_
      refine ev_aloadn_0 i75_16 ?_
      refine ev_iloadn_3 i75_17 ?_
      refine ev_virt1 i75_18 g75_18 rfl (by decide +kernel) (Nat.le_of_ble_eq_true rfl) (x_weightOf hX hO hm (by omega) ?_)
      refine ew_ladd i75_21 ?_
      refine ev_lstoren_1 i75_22 rfl ?_
      refine ew_iinc_3 i75_23 rfl ?_
      refine ev_goto i75_26 ?_
      rw [zwh_1 (by omega)] at h2
      exact ih (by omega) (by omega) (by omega) _ h2
  refine ev_enter (lv := [.ref 40, .null, .null, .null]) l75 rfl (Nat.le_of_ble_eq_true rfl) ?_
  refine ew_lconst (z := 0) i75_0 (by decide) ?_
  refine ev_lstoren_1 i75_1 rfl ?_
  refine ew_iconst i75_2 ?_
  refine ev_istoren_3 i75_3 rfl ?_
  exact loop 0 (by decide) (by omega) 0 rfl
theorem x_commonDivisor {a b : Int} (ha : 0 < a ∧ a ≤ 2810384252928) (hb : 0 ≤ b ∧ b ≤ 2810384252928) (hK : K (some (.long (zL (zg 200 a b)))) (I, L, ts_P0 sw, ts_S0)) : ts_Cal X (d + 1) 76 [.long (zL (a)), .long (zL (b))] (I, L, ts_P0 sw, ts_S0) K := by
  have loop : ∀ i : Int, 0 ≤ i → i ≤ 200 → ∀ a' b' o o2, 0 < a' → a' ≤ 2810384252928 → 0 ≤ b' → b' ≤ 2810384252928 → zg (200 - i).toNat a' b' = zg 200 a b → ts_Ev X (ts_Cal X (d + 0)) 76 ts_S0 K 9 [.long (zL (a)), .null, .long (zL (b)), .null, .long (zL (a')), .null, .long (zL (b')), .null, .int (zI (i)), o, o2] [] (I, L, ts_P0 sw, ts_S0) := by
    refine ts_ind 200 (fun i ih h0 h1 a' b' o o2 a0 a1 b0 b1 h2 => ?_)
    refine ev_iload_8 i76_9 ?_
    refine ew_sipush i76_11 (by decide) ?_
    refine ew_icmpge i76_14 (by omega) (fun c14 => ?_) (fun c14 => ?_)
    · refine ev_lload_4 i76_45 ?_
      refine ev_lreturn i76_47 r76 ?_
      have e : zg (200 - i).toNat a' b' = a' := by
        first
        | exact zg_0 (by omega)
        | (rw [show (200 - i).toNat = 0 from by omega]; rfl)
      rw [← h2, e] at hK
      exact hK
    · refine ev_lload_6 i76_17 ?_
      refine ew_lconst (z := 0) i76_19 (by decide) ?_
      refine ew_lcmp i76_20 (by omega) (by omega) ?_
      first
      | refine ew_ifeqB i76_21 (fun c21 => ?_) (fun c21 => ?_)
      | refine ew_ifeq i76_21 (by omega) (fun c21 => ?_) (fun c21 => ?_)
      · refine ev_lload_4 i76_45 ?_
        refine ev_lreturn i76_47 r76 ?_
        have e : zg (200 - i).toNat a' b' = a' := by
          first
          | exact zg_0 (by omega)
          | (rw [show (200 - i).toNat = 0 from by omega]; rfl)
        rw [← h2, e] at hK
        exact hK
      · have q1 := Int.emod_nonneg a' (show ¬ b' = 0 by omega)
        have q2 := Int.emod_lt_of_pos a' (show 0 < b' by omega)
        refine ev_lload_4 i76_24 ?_
        refine ev_lload_6 i76_26 ?_
        refine ew_lrem i76_28 (by omega) (by omega) ?_
        refine ev_lstore_9 i76_29 rfl ?_
        refine ev_lload_6 i76_31 ?_
        refine ev_lstore_4 i76_33 rfl ?_
        refine ev_lload_9 i76_35 ?_
        refine ev_lstore_6 i76_37 rfl ?_
        refine ew_iinc_8 i76_39 rfl ?_
        refine ev_goto i76_42 ?_
        rw [show (200 - i).toNat = (200 - (i + 1)).toNat + 1 from by omega, zg_1 (by omega)] at h2
        exact ih (by omega) (by omega) (by omega) _ _ _ _ (by omega) (by omega) (by omega) (by omega) h2
  refine ev_enter (lv := [.long (zL (a)), .null, .long (zL (b)), .null, .null, .null, .null, .null, .null, .null, .null]) l76 rfl (Nat.le_of_ble_eq_true rfl) ?_
  refine ev_lloadn_0 i76_0 ?_
  refine ev_lstore_4 i76_1 rfl ?_
  refine ev_lloadn_2 i76_3 ?_
  refine ev_lstore_6 i76_4 rfl ?_
  refine ew_iconst i76_6 ?_
  refine ev_istore_8 i76_7 rfl ?_
  exact loop 0 (by decide) (by decide) _ _ _ _ (by omega) (by omega) (by omega) (by omega) rfl
/-- the product halves -/
theorem zg_half {a b : Int} {m : Nat} (hb : 0 < b) (hab : b ≤ a) (h : a * b < (2 : Int) ^ m) : ∃ m', m = m' + 1 ∧ b * (a % b) < (2 : Int) ^ m' := by
  have q1 := Int.emod_nonneg a (show ¬ b = 0 by omega)
  have q2 := Int.emod_lt_of_pos a hb
  have q3 : 2 * (a % b) < a := by
    have e := Int.mul_ediv_add_emod a b
    have e1 : 1 ≤ a / b := (Int.le_ediv_iff_mul_le hb).mpr (by omega)
    have e2 : b * 1 ≤ b * (a / b) := Int.mul_le_mul_of_nonneg_left e1 (by omega)
    omega
  have q4 : b * (2 * (a % b)) < b * a := Int.mul_lt_mul_of_pos_left q3 hb
  have q5 : b * (2 * (a % b)) = 2 * (b * (a % b)) := by rw [Int.mul_left_comm]
  have q6 : b * a = a * b := Int.mul_comm b a
  cases m with
  | zero =>
    exfalso
    have e1 : 1 * 1 ≤ a * b := Int.mul_le_mul (by omega) (by omega) (by omega) (by omega)
    rw [Int.pow_zero] at h
    omega
  | succ m' =>
    refine ⟨m', rfl, ?_⟩
    rw [Int.pow_succ] at h
    omega
theorem m_commonOf {a b : Int} (ha : 0 < a ∧ a ≤ 2810384252928) (hb : 0 ≤ b ∧ b ≤ 2810384252928) (hK : K (some (.long (zL (zg 200 a b)))) (I, L, ts_P0 sw, ts_S0)) : ts_Cal X (d + 1) 197 [.long (zL (a)), .long (zL (b))] (I, L, ts_P0 sw, ts_S0) K := by
  have loop : ∀ i : Int, 0 ≤ i → i ≤ 200 → ∀ a' b' : Int, ∀ o o2, ∀ m : Nat, 0 < a' → a' ≤ 2810384252928 → 0 ≤ b' → b' ≤ 2810384252928 → a' * b' < (2 : Int) ^ m → (b' ≤ a' → i + m ≤ 198) → (a' < b' → i + m ≤ 197) → zg (200 - i).toNat a' b' = zg 200 a b → ts_Ev X (ts_Cal X (d + 0)) 197 ts_S0 K 6 [.long (zL (a)), .null, .long (zL (b)), .null, .long (zL (a')), .null, .long (zL (b')), .null, o, o2] [] (I, L, ts_P0 sw, ts_S0) := by
    refine ts_ind 200 (fun i ih h0 h1 a' b' o o2 m a0 a1 b0 b1 hm m1 m2 h2 => ?_)
    refine ev_lload_6 i197_6 ?_
    refine ew_lconst (z := 0) i197_8 (by decide) ?_
    refine ew_lcmp i197_9 (by omega) (by omega) ?_
    first
    | refine ew_ifeqB i197_10 (fun c10 => ?_) (fun c10 => ?_)
    | refine ew_ifeq i197_10 (by omega) (fun c10 => ?_) (fun c10 => ?_)
    · refine ev_lload_4 i197_31 ?_
      refine ev_lreturn i197_33 r197 ?_
      rw [← h2, zg_0 (by omega)] at hK
      exact hK
    · have q1 := Int.emod_nonneg a' (show ¬ b' = 0 by omega)
      have q2 := Int.emod_lt_of_pos a' (show 0 < b' by omega)
      refine ev_lload_4 i197_13 ?_
      refine ev_lload_6 i197_15 ?_
      refine ew_lrem i197_17 (by omega) (by omega) ?_
      refine ev_lstore_8 i197_18 rfl ?_
      refine ev_lload_6 i197_20 ?_
      refine ev_lstore_4 i197_22 rfl ?_
      refine ev_lload_8 i197_24 ?_
      refine ev_lstore_6 i197_26 rfl ?_
      refine ev_goto i197_28 ?_
      rw [show (200 - i).toNat = (200 - (i + 1)).toNat + 1 from by omega, zg_1 (by omega)] at h2
      by_cases c : a' < b'
      · have e : a' % b' = a' := Int.emod_eq_of_lt (by omega) c
        rw [e] at h2 ⊢
        exact ih (by omega) (by omega) (by omega) _ _ _ _ m (by omega) (by omega) (by omega) (by omega) (by rw [Int.mul_comm]; exact hm) (by omega) (by omega) h2
      · obtain ⟨m', rfl, e⟩ := zg_half (by omega) (by omega) hm
        exact ih (by omega) (by omega) (by omega) _ _ _ _ m' (by omega) (by omega) (by omega) (by omega) e (by omega) (by omega) h2
  refine ev_enter (lv := [.long (zL (a)), .null, .long (zL (b)), .null, .null, .null, .null, .null, .null, .null]) l197 rfl (Nat.le_of_ble_eq_true rfl) ?_
  refine ev_lloadn_0 i197_0 ?_
  refine ev_lstore_4 i197_1 rfl ?_
  refine ev_lloadn_2 i197_3 ?_
  refine ev_lstore_6 i197_4 rfl ?_
  refine loop 0 (by decide) (by decide) _ _ _ _ 90 (by omega) (by omega) (by omega) (by omega) ?_ (by omega) (by omega) rfl
  have e1 : a * b ≤ 2810384252928 * 2810384252928 := Int.mul_le_mul ha.2 hb.2 hb.1 (by decide)
  exact Int.lt_of_le_of_lt e1 (by decide)
theorem x_likely (hX : RX I f) (hS : RXs I L s) {x t p : Int} (hx : -2147483648 ≤ x ∧ x ≤ 2147483647) (ht : -2147483648 ≤ t ∧ t ≤ 2147483647) (hp : -2147483648 ≤ p ∧ p ≤ 2147483647) (hK : ∀ J, fr fox I J → K (some (.long (zL (g_lik s f x t p)))) (J, L, ts_P0 sw, ts_S0)) : ts_Cal X (d + 5) 110 [.ref 1, .int (zI (x)), .int (zI (t)), .int (zI (p))] (I, L, ts_P0 sw, ts_S0) K := by
  have gr := g_bytes_r s x
  have b1 := hX.men.2
  have b2 := hX.told.2
  unfold g_lik at hK
  refine ev_enter (lv := [.ref 1, .int (zI (x)), .int (zI (t)), .int (zI (p)), .null, .null, .null, .null, .null, .null]) l110 rfl (Nat.le_of_ble_eq_true rfl) ?_
  refine ev_aloadn_0 i110_0 ?_
  refine ev_getA i110_1 g110_1 rfl rfl (by decide) ?_
  refine ev_iloadn_2 i110_4 ?_
  refine ev_virt1 i110_5 g110_5 rfl (by decide +kernel) (Nat.le_of_ble_eq_true rfl) (x_hasSaying hX ht ?_)
  first
  | refine ew_ifeqB i110_8 (fun c8 => ?_) (fun c8 => ?_)
  | refine ew_ifeq i110_8 (by omega) (fun c8 => ?_) (fun c8 => ?_)
  · refine ew_ldc2_w (z := (-9223372036854775808)) i110_36 g110_36 (by decide) ?_
    refine ev_lreturn i110_39 r110 ?_
    rw [if_pos (by omega)] at hK
    exact hK I (fr_rfl _ _)
  · refine ev_iloadn_3 i110_11 ?_
    refine ev_stat1 i110_12 g110_12 (by decide +kernel) (Nat.le_of_ble_eq_true rfl) (x_isPart hp ?_)
    first
    | refine ew_ifeqB i110_15 (fun c15 => ?_) (fun c15 => ?_)
    | refine ew_ifeq i110_15 (by omega) (fun c15 => ?_) (fun c15 => ?_)
    · refine ew_ldc2_w (z := (-9223372036854775808)) i110_36 g110_36 (by decide) ?_
      refine ev_lreturn i110_39 r110 ?_
      rw [if_pos (by omega)] at hK
      exact hK I (fr_rfl _ _)
    · refine ev_aloadn_0 i110_18 ?_
      refine ev_getA i110_19 g110_19 rfl rfl (by decide) ?_
      refine ew_getI i110_22 g110_22 rfl (by first | exact hX.men | exact hX.told | exact hX.road | exact hX.tone _ (by omega) (by omega) | exact hX.corn _ (by omega) (by omega) | exact hX.stand _ (by omega) (by omega) | exact hX.reach _ (by omega) (by omega) | exact hX.arm _ (by omega) (by omega) | exact hX.late _ (by omega) (by omega) | exact hX.len _ (by omega) (by omega) | exact hX.say (by omega) (by omega) _ (by omega) (by omega)) (fun b22 => ?_)
      first
      | refine ew_ifeqB i110_25 (fun c25 => ?_) (fun c25 => ?_)
      | refine ew_ifeq i110_25 (by omega) (fun c25 => ?_) (fun c25 => ?_)
      · refine ew_ldc2_w (z := (-9223372036854775808)) i110_36 g110_36 (by decide) ?_
        refine ev_lreturn i110_39 r110 ?_
        rw [if_pos (by omega)] at hK
        exact hK I (fr_rfl _ _)
      · refine ev_aloadn_0 i110_28 ?_
        refine ev_iloadn_1 i110_29 ?_
        refine ev_virt1 i110_30 g110_30 rfl (by decide +kernel) (Nat.le_of_ble_eq_true rfl) (x_bytesOn hS hx ?_)
        first
        | refine ew_ifeqB i110_33 (fun c33 => ?_) (fun c33 => ?_)
        | refine ew_ifeq i110_33 (by omega) (fun c33 => ?_) (fun c33 => ?_)
        · rw [if_neg (by omega)] at hK
          have h0 := g_bytes_0 c33
          obtain ⟨q, rfl⟩ : ∃ q : Nat, x = q := ⟨x.toNat, by omega⟩
          have hq : q < 6 := by omega
          refine ev_aloadn_0 i110_40 ?_
          refine ev_getA i110_41 g110_41 rfl rfl (by decide) ?_
          refine ev_aloadn_0 i110_44 ?_
          refine ev_getA i110_45 g110_45 rfl rfl (by decide) ?_
          refine ev_iloadn_1 i110_48 ?_
          refine ew_aaload i110_49 rfl (by omega) (by omega) (by omega) (she_Sq hq) (by omega) ?_
          refine ev_virt1 i110_50 g110_50 rfl (by decide +kernel) (Nat.le_of_ble_eq_true rfl) (x_hear hS hq (fun J h1 h2 => ?_))
          have e := hK J h1
          have w1 := g_w_r (f := f) h2.1.2 (by omega) hX.arms (s.2.2 q) t
          have w2 := g_wall_r (f := f) h2.1.2 (by omega) b2 hX.arms (s.2.2 q)
          refine ev_aloadn_0 i110_53 ?_
          refine ev_getA i110_54 g110_54 rfl rfl (by decide) ?_
          refine ev_iloadn_2 i110_57 ?_
          refine ev_virt1 i110_58 g110_58 rfl (by decide +kernel) (Nat.le_of_ble_eq_true rfl) (x_weightOf (hX.fox h1) h2 (by omega) c8 ?_)
          refine ev_lstore_4 i110_61 rfl ?_
          refine ev_lload_4 i110_63 ?_
          refine ew_lconst (z := 0) i110_65 (by decide) ?_
          refine ew_lcmp i110_66 (by omega) (by omega) ?_
          first
          | refine ew_ifneB i110_67 (fun c67 => ?_) (fun c67 => ?_)
          | refine ew_ifne i110_67 (by omega) (fun c67 => ?_) (fun c67 => ?_)
          · rw [if_neg (by omega)] at e
            have w3 := zg_r (B := 2810384252928) 200 (g_w f (g_heard s q) (s.2.2 q) t) (g_wall f (g_heard s q) (s.2.2 q)) (by omega) (by omega) (by omega) (by omega)
            refine ev_aloadn_0 i110_73 ?_
            refine ev_getA i110_74 g110_74 rfl rfl (by decide) ?_
            refine ev_virt0 i110_77 g110_77 rfl (by decide +kernel) (Nat.le_of_ble_eq_true rfl) (x_weightOfAll (hX.fox h1) h2 (by omega) ?_)
            refine ev_lstore_6 i110_80 rfl ?_
            refine ev_lload_4 i110_82 ?_
            refine ev_lload_6 i110_84 ?_
            refine ev_stat2 i110_86 g110_86 (by decide +kernel) (Nat.le_of_ble_eq_true rfl) (x_commonDivisor (by omega) (by omega) ?_)
            refine ev_lstore_8 i110_89 rfl ?_
            refine ev_lload_8 i110_91 ?_
            refine ew_lconst (z := 0) i110_93 (by decide) ?_
            refine ew_lcmp i110_94 (by omega) (by omega) ?_
            first
            | refine ew_ifneB i110_95 (fun c95 => ?_) (fun c95 => ?_)
            | refine ew_ifne i110_95 (by omega) (fun c95 => ?_) (fun c95 => ?_)
            · refine ev_iloadn_3 i110_101 ?_
              first
              | refine ew_ifneB i110_102 (fun c102 => ?_) (fun c102 => ?_)
              | refine ew_ifne i110_102 (by omega) (fun c102 => ?_) (fun c102 => ?_)
              · refine ev_lload_6 i110_110 ?_
                refine ev_lload_8 i110_112 ?_
                refine ew_ldiv i110_114 (by omega) (by omega) ?_
                refine ev_lreturn i110_115 r110 ?_
                first
                | (rw [if_pos c102] at e
                   exact e)
                | (rw [if_neg c102] at e
                   exact e)
              · refine ev_lload_4 i110_105 ?_
                refine ev_goto i110_107 ?_
                refine ev_lload_8 i110_112 ?_
                refine ew_ldiv i110_114 (by omega) (by omega) ?_
                refine ev_lreturn i110_115 r110 ?_
                first
                | (rw [if_pos c102] at e
                   exact e)
                | (rw [if_neg c102] at e
                   exact e)
            · refine ev_iloadn_3 i110_98 ?_
              refine ew_i2l i110_99 (by omega) ?_
              refine ev_lreturn i110_100 r110 ?_
              exfalso; omega
          · refine ev_iloadn_3 i110_70 ?_
            refine ew_i2l i110_71 (by omega) ?_
            refine ev_lreturn i110_72 r110 ?_
            rw [if_pos (by omega)] at e
            exact e
        · refine ew_ldc2_w (z := (-9223372036854775808)) i110_36 g110_36 (by decide) ?_
          refine ev_lreturn i110_39 r110 ?_
          rw [if_pos (by omega)] at hK
          exact hK I (fr_rfl _ _)
theorem m_likely (hM : RM I f) (hS : RMs I L s) {x t p : Int} (hx : -2147483648 ≤ x ∧ x ≤ 2147483647) (ht : -2147483648 ≤ t ∧ t ≤ 2147483647) (hp : -2147483648 ≤ p ∧ p ≤ 2147483647) (hK : ∀ J, fr fom I J → K (some (.long (zL (g_lik s f x t p)))) (J, L, ts_P0 sw, ts_S0)) : ts_Cal X (d + 5) 198 [.ref 72, .int (zI (x)), .int (zI (t)), .int (zI (p))] (I, L, ts_P0 sw, ts_S0) K := by
  have gr := g_bytes_r s x
  have b1 := hM.men.2
  have b2 := hM.told.2
  unfold g_lik at hK
  refine ev_enter (lv := [.ref 72, .int (zI (x)), .int (zI (t)), .int (zI (p)), .null, .null, .null, .null, .null, .null]) l198 rfl (Nat.le_of_ble_eq_true rfl) ?_
  refine ev_aloadn_0 i198_0 ?_
  refine ev_iloadn_1 i198_1 ?_
  refine ev_virt1 i198_2 g198_2 rfl (by decide +kernel) (Nat.le_of_ble_eq_true rfl) (m_bytesIs hS hx ?_)
  refine ew_iflt i198_5 (by omega) (fun c5 => ?_) (fun c5 => ?_)
  · refine ew_ldc2_w (z := (-9223372036854775808)) i198_34 g198_34 (by decide) ?_
    refine ev_lreturn i198_37 r198 ?_
    rw [if_pos (by omega)] at hK
    exact hK I (fr_rfl _ _)
  · refine ev_aloadn_0 i198_8 ?_
    refine ev_iloadn_2 i198_9 ?_
    refine ew_i2l i198_10 (by omega) ?_
    refine ev_virt1 i198_11 g198_11 rfl (by decide +kernel) (Nat.le_of_ble_eq_true rfl) (m_isSaying hM (by omega) ?_)
    first
    | refine ew_ifeqB i198_14 (fun c14 => ?_) (fun c14 => ?_)
    | refine ew_ifeq i198_14 (by omega) (fun c14 => ?_) (fun c14 => ?_)
    · refine ew_ldc2_w (z := (-9223372036854775808)) i198_34 g198_34 (by decide) ?_
      refine ev_lreturn i198_37 r198 ?_
      rw [if_pos (by omega)] at hK
      exact hK I (fr_rfl _ _)
    · refine ev_aloadn_0 i198_17 ?_
      refine ew_getI i198_18 g198_18 rfl (by first | exact hM.men | exact hM.told | exact hM.road | exact hM.stand _ (by omega) (by omega) | exact hM.reach _ (by omega) (by omega) | exact hM.arm _ (by omega) (by omega) | exact hM.late _ (by omega) (by omega) | exact hM.len _ (by omega) (by omega) | exact hM.corn _ (by omega) (by omega) | exact hM.say (by omega) (by omega) _ (by omega) (by omega) | exact hM.tone _ (by omega) (by omega)) (fun b18 => ?_)
      first
      | refine ew_ifeqB i198_21 (fun c21 => ?_) (fun c21 => ?_)
      | refine ew_ifeq i198_21 (by omega) (fun c21 => ?_) (fun c21 => ?_)
      · refine ew_ldc2_w (z := (-9223372036854775808)) i198_34 g198_34 (by decide) ?_
        refine ev_lreturn i198_37 r198 ?_
        rw [if_pos (by omega)] at hK
        exact hK I (fr_rfl _ _)
      · refine ev_iloadn_3 i198_24 ?_
        refine ew_i2l i198_25 (by omega) ?_
        refine ew_lconst (z := 0) i198_26 (by decide) ?_
        refine ew_lconst (z := 1) i198_27 (by decide) ?_
        refine ev_stat3 i198_28 g198_28 (by decide +kernel) (Nat.le_of_ble_eq_true rfl) (m_within (by omega) (by omega) (by omega) ?_)
        first
        | refine ew_ifneB i198_31 (fun c31 => ?_) (fun c31 => ?_)
        | refine ew_ifne i198_31 (by omega) (fun c31 => ?_) (fun c31 => ?_)
        · have c0 : g_bytes s x = 0 := by omega
          rw [if_neg (by omega)] at hK
          have h0 := g_bytes_0 c0
          refine ev_aloadn_0 i198_38 ?_
          refine ev_iloadn_1 i198_39 ?_
          refine ev_virt1 i198_40 g198_40 rfl (by decide +kernel) (Nat.le_of_ble_eq_true rfl) (m_takesSound hS (by omega) (fun J h1 h2 => ?_))
          have e := hK J h1
          have w1 := g_w_r (f := f) h2.1.2 (by omega) hM.arms (s.2.2 x) t
          have w2 := g_wall_r (f := f) h2.1.2 (by omega) b2 hM.arms (s.2.2 x)
          refine ev_aloadn_0 i198_43 ?_
          refine ev_iloadn_2 i198_44 ?_
          refine ev_virt1 i198_45 g198_45 rfl (by decide +kernel) (Nat.le_of_ble_eq_true rfl) (m_weightOf (hM.fom h1) h2 (by omega) c14 ?_)
          refine ev_lstore_4 i198_48 rfl ?_
          refine ev_lload_4 i198_50 ?_
          refine ew_lconst (z := 0) i198_52 (by decide) ?_
          refine ew_lcmp i198_53 (by omega) (by omega) ?_
          first
          | refine ew_ifneB i198_54 (fun c54 => ?_) (fun c54 => ?_)
          | refine ew_ifne i198_54 (by omega) (fun c54 => ?_) (fun c54 => ?_)
          · refine ew_lconst (z := 0) i198_60 (by decide) ?_
            refine ev_lstore_6 i198_61 rfl ?_
            refine ew_iconst i198_63 ?_
            refine ev_istore_8 i198_64 rfl ?_
            rw [if_neg (by omega)] at e
            have w3 := zg_r (B := 2810384252928) 200 (g_w f (g_heard s x) (s.2.2 x) t) (g_wall f (g_heard s x) (s.2.2 x)) (by omega) (by omega) (by omega) (by omega)
            have loop : ∀ k : Int, 0 ≤ k → k ≤ f_told f → ∀ w, zwh (f_told f) (fun t a => a + g_w f (g_heard s x) (s.2.2 x) t) k w = g_wall f (g_heard s x) (s.2.2 x) → ts_Ev X (ts_Cal X (d + 4)) 198 ts_S0 K 66 [.ref 72, .int (zI (x)), .int (zI (t)), .int (zI (p)), .long (zL (g_w f (g_heard s x) (s.2.2 x) t)), .null, .long (zL (w)), .null, .int (zI (k)), .null] [] (J, L, ts_P0 sw, ts_S0) := by
              refine ts_ind (f_told f) (fun k ih k0 k1 w k2 => ?_)
              refine ev_iload_8 i198_66 ?_
              refine ev_aloadn_0 i198_68 ?_
              refine ew_getI i198_69 g198_69 rfl (((hM.fom h1).told)) (fun b69 => ?_)
              refine ew_icmpge i198_72 (by omega) (fun c72 => ?_) (fun c72 => ?_)
              · rw [zwh_0 (by omega)] at k2
                subst k2
                refine ev_lload_4 i198_92 ?_
                refine ev_lload_6 i198_94 ?_
                refine ev_stat2 i198_96 g198_96 (by decide +kernel) (Nat.le_of_ble_eq_true rfl) (m_commonOf (by omega) (by omega) ?_)
                refine ev_lstore_8 i198_99 rfl ?_
                refine ev_iloadn_3 i198_101 ?_
                first
                | refine ew_ifneB i198_102 (fun c102 => ?_) (fun c102 => ?_)
                | refine ew_ifne i198_102 (by omega) (fun c102 => ?_) (fun c102 => ?_)
                · refine ev_lload_6 i198_113 ?_
                  refine ev_lload_8 i198_115 ?_
                  refine ew_ldiv i198_117 (by omega) (by omega) ?_
                  refine ev_lreturn i198_118 r198 ?_
                  first
                  | (rw [if_pos c102] at e
                     exact e)
                  | (rw [if_neg c102] at e
                     exact e)
                · refine ev_lload_4 i198_105 ?_
                  refine ev_lload_8 i198_107 ?_
                  refine ew_ldiv i198_109 (by omega) (by omega) ?_
                  refine ev_goto i198_110 ?_
                  refine ev_lreturn i198_118 r198 ?_
                  first
                  | (rw [if_pos c102] at e
                     exact e)
                  | (rw [if_neg c102] at e
                     exact e)
              · refine ev_lload_6 i198_75 ?_
                refine ev_aloadn_0 i198_77 ?_
                refine ev_iload_8 i198_78 ?_
                refine ev_virt1 i198_80 g198_80 rfl (by decide +kernel) (Nat.le_of_ble_eq_true rfl) (m_weightOf (hM.fom h1) h2 (by omega) (by omega) ?_)
                refine ew_ladd i198_83 ?_
                refine ev_lstore_6 i198_84 rfl ?_
                refine ew_iinc_8 i198_86 rfl ?_
                refine ev_goto i198_89 ?_
                rw [zwh_1 (by omega)] at k2
                exact ih (by omega) (by omega) (by omega) _ k2
            exact loop 0 (by decide) (by omega) 0 rfl
          · refine ev_iloadn_3 i198_57 ?_
            refine ew_i2l i198_58 (by omega) ?_
            refine ev_lreturn i198_59 r198 ?_
            rw [if_pos (by omega)] at e
            exact e
        · refine ew_ldc2_w (z := (-9223372036854775808)) i198_34 g198_34 (by decide) ?_
          refine ev_lreturn i198_37 r198 ?_
          rw [if_pos (by omega)] at hK
          exact hK I (fr_rfl _ _)
end LK
