theorem i149_0 : ts_ins 149 0 = some (.lload_n 1, 1, 0) := by decide +kernel
theorem i149_1 : ts_ins 149 1 = some (.lconst 0, 2, 0) := by decide +kernel
theorem i149_2 : ts_ins 149 2 = some (.aload_n 0, 3, 0) := by decide +kernel
theorem i149_3 : ts_ins 149 3 = some (.getfield 99, 6, 0) := by decide +kernel
theorem g149_3 : ts_fm 149 99 = some (12, 6, 0) := by decide +kernel
theorem i149_6 : ts_ins 149 6 = some (.iconst 1, 7, 0) := by decide +kernel
theorem i149_7 : ts_ins 149 7 = some (.isub, 8, 0) := by decide +kernel
theorem i149_8 : ts_ins 149 8 = some (.i2l, 9, 0) := by decide +kernel
theorem i149_9 : ts_ins 149 9 = some (.invokestatic 95, 12, 0) := by decide +kernel
theorem g149_9 : ts_cal (ts_mc 149) 95 = some (1, 143, 3) := by decide +kernel
theorem i149_12 : ts_ins 149 12 = some (.ireturn, 13, 0) := by decide +kernel
theorem r149 : ts_rt 149 = ((some .boolean), 0, 0) := by decide +kernel
theorem l149 : ts_ml 149 = 3 := by decide +kernel
theorem i150_0 : ts_ins 150 0 = some (.lload_n 1, 1, 0) := by decide +kernel
theorem i150_1 : ts_ins 150 1 = some (.lconst 0, 2, 0) := by decide +kernel
theorem i150_2 : ts_ins 150 2 = some (.aload_n 0, 3, 0) := by decide +kernel
theorem i150_3 : ts_ins 150 3 = some (.getfield 102, 6, 0) := by decide +kernel
theorem g150_3 : ts_fm 150 102 = some (12, 7, 0) := by decide +kernel
theorem i150_6 : ts_ins 150 6 = some (.iconst 1, 7, 0) := by decide +kernel
theorem i150_7 : ts_ins 150 7 = some (.isub, 8, 0) := by decide +kernel
theorem i150_8 : ts_ins 150 8 = some (.i2l, 9, 0) := by decide +kernel
theorem i150_9 : ts_ins 150 9 = some (.invokestatic 95, 12, 0) := by decide +kernel
theorem g150_9 : ts_cal (ts_mc 150) 95 = some (1, 143, 3) := by decide +kernel
theorem i150_12 : ts_ins 150 12 = some (.ireturn, 13, 0) := by decide +kernel
theorem r150 : ts_rt 150 = ((some .boolean), 0, 0) := by decide +kernel
theorem l150 : ts_ml 150 = 3 := by decide +kernel
theorem i148_0 : ts_ins 148 0 = some (.lload_n 0, 1, 0) := by decide +kernel
theorem i148_1 : ts_ins 148 1 = some (.lconst 0, 2, 0) := by decide +kernel
theorem i148_2 : ts_ins 148 2 = some (.ldc2_w 93, 5, 0) := by decide +kernel
theorem g148_2 : ts_lc (ts_mc 148) 93 = some (.long (15)) := by decide +kernel
theorem i148_5 : ts_ins 148 5 = some (.invokestatic 95, 8, 0) := by decide +kernel
theorem g148_5 : ts_cal (ts_mc 148) 95 = some (1, 143, 3) := by decide +kernel
theorem i148_8 : ts_ins 148 8 = some (.ireturn, 9, 0) := by decide +kernel
theorem r148 : ts_rt 148 = ((some .boolean), 0, 0) := by decide +kernel
theorem l148 : ts_ml 148 = 2 := by decide +kernel
theorem i151_0 : ts_ins 151 0 = some (.lload_n 0, 1, 0) := by decide +kernel
theorem i151_1 : ts_ins 151 1 = some (.lconst 0, 2, 0) := by decide +kernel
theorem i151_2 : ts_ins 151 2 = some (.ldc2_w 105, 5, 0) := by decide +kernel
theorem g151_2 : ts_lc (ts_mc 151) 105 = some (.long (7)) := by decide +kernel
theorem i151_5 : ts_ins 151 5 = some (.invokestatic 95, 8, 0) := by decide +kernel
theorem g151_5 : ts_cal (ts_mc 151) 95 = some (1, 143, 3) := by decide +kernel
theorem i151_8 : ts_ins 151 8 = some (.ireturn, 9, 0) := by decide +kernel
theorem r151 : ts_rt 151 = ((some .boolean), 0, 0) := by decide +kernel
theorem l151 : ts_ml 151 = 2 := by decide +kernel
theorem i26_0 : ts_ins 26 0 = some (.aload_n 0, 1, 0) := by decide +kernel
theorem i26_1 : ts_ins 26 1 = some (.iload_n 1, 2, 0) := by decide +kernel
theorem i26_2 : ts_ins 26 2 = some (.invokevirtual 69, 5, 0) := by decide +kernel
theorem g26_2 : ts_cal (ts_mc 26) 69 = some (0, 19, 1) := by decide +kernel
theorem i26_5 : ts_ins 26 5 = some (.ifCond .eq 10, 8, 15) := by decide +kernel
theorem i26_8 : ts_ins 26 8 = some (.iload_n 2, 9, 0) := by decide +kernel
theorem i26_9 : ts_ins 26 9 = some (.invokestatic 65, 12, 0) := by decide +kernel
theorem g26_9 : ts_cal (ts_mc 26) 65 = some (3, 137, 1) := by decide +kernel
theorem i26_12 : ts_ins 26 12 = some (.ifCond .ne 5, 15, 17) := by decide +kernel
theorem i26_15 : ts_ins 26 15 = some (.iconst 0, 16, 0) := by decide +kernel
theorem i26_16 : ts_ins 26 16 = some (.ireturn, 17, 0) := by decide +kernel
theorem i26_17 : ts_ins 26 17 = some (.iload_n 2, 18, 0) := by decide +kernel
theorem i26_18 : ts_ins 26 18 = some (.iconst 4, 19, 0) := by decide +kernel
theorem i26_19 : ts_ins 26 19 = some (.irem, 20, 0) := by decide +kernel
theorem i26_20 : ts_ins 26 20 = some (.aload_n 0, 21, 0) := by decide +kernel
theorem i26_21 : ts_ins 26 21 = some (.getfield 18, 24, 0) := by decide +kernel
theorem g26_21 : ts_fm 26 18 = some (3, 2, 2) := by decide +kernel
theorem i26_24 : ts_ins 26 24 = some (.iload_n 1, 25, 0) := by decide +kernel
theorem i26_25 : ts_ins 26 25 = some (.iaload, 26, 0) := by decide +kernel
theorem i26_26 : ts_ins 26 26 = some (.iconst 4, 27, 0) := by decide +kernel
theorem i26_27 : ts_ins 26 27 = some (.irem, 28, 0) := by decide +kernel
theorem i26_28 : ts_ins 26 28 = some (.isub, 29, 0) := by decide +kernel
theorem i26_29 : ts_ins 26 29 = some (.invokestatic 83, 32, 0) := by decide +kernel
theorem g26_29 : ts_cal (ts_mc 26) 83 = some (7, 0, 1) := by decide +kernel
theorem i26_32 : ts_ins 26 32 = some (.istore_n 3, 33, 0) := by decide +kernel
theorem i26_33 : ts_ins 26 33 = some (.iload_n 2, 34, 0) := by decide +kernel
theorem i26_34 : ts_ins 26 34 = some (.iconst 4, 35, 0) := by decide +kernel
theorem i26_35 : ts_ins 26 35 = some (.idiv, 36, 0) := by decide +kernel
theorem i26_36 : ts_ins 26 36 = some (.aload_n 0, 37, 0) := by decide +kernel
theorem i26_37 : ts_ins 26 37 = some (.getfield 18, 40, 0) := by decide +kernel
theorem g26_37 : ts_fm 26 18 = some (3, 2, 2) := by decide +kernel
theorem i26_40 : ts_ins 26 40 = some (.iload_n 1, 41, 0) := by decide +kernel
theorem i26_41 : ts_ins 26 41 = some (.iaload, 42, 0) := by decide +kernel
theorem i26_42 : ts_ins 26 42 = some (.iconst 4, 43, 0) := by decide +kernel
theorem i26_43 : ts_ins 26 43 = some (.idiv, 44, 0) := by decide +kernel
theorem i26_44 : ts_ins 26 44 = some (.isub, 45, 0) := by decide +kernel
theorem i26_45 : ts_ins 26 45 = some (.invokestatic 83, 48, 0) := by decide +kernel
theorem g26_45 : ts_cal (ts_mc 26) 83 = some (7, 0, 1) := by decide +kernel
theorem i26_48 : ts_ins 26 48 = some (.istore 4, 50, 0) := by decide +kernel
theorem i26_50 : ts_ins 26 50 = some (.iload_n 3, 51, 0) := by decide +kernel
theorem i26_51 : ts_ins 26 51 = some (.iload 4, 53, 0) := by decide +kernel
theorem i26_53 : ts_ins 26 53 = some (.iadd, 54, 0) := by decide +kernel
theorem i26_54 : ts_ins 26 54 = some (.aload_n 0, 55, 0) := by decide +kernel
theorem i26_55 : ts_ins 26 55 = some (.getfield 21, 58, 0) := by decide +kernel
theorem g26_55 : ts_fm 26 21 = some (3, 3, 2) := by decide +kernel
theorem i26_58 : ts_ins 26 58 = some (.iload_n 1, 59, 0) := by decide +kernel
theorem i26_59 : ts_ins 26 59 = some (.iaload, 60, 0) := by decide +kernel
theorem i26_60 : ts_ins 26 60 = some (.if_icmp .gt 7, 63, 67) := by decide +kernel
theorem i26_63 : ts_ins 26 63 = some (.iconst 1, 64, 0) := by decide +kernel
theorem i26_64 : ts_ins 26 64 = some (.goto 4, 67, 68) := by decide +kernel
theorem i26_67 : ts_ins 26 67 = some (.iconst 0, 68, 0) := by decide +kernel
theorem i26_68 : ts_ins 26 68 = some (.ireturn, 69, 0) := by decide +kernel
theorem r26 : ts_rt 26 = ((some .boolean), 0, 0) := by decide +kernel
theorem l26 : ts_ml 26 = 5 := by decide +kernel
theorem i172_0 : ts_ins 172 0 = some (.iload_n 0, 1, 0) := by decide +kernel
theorem i172_1 : ts_ins 172 1 = some (.iconst 4, 2, 0) := by decide +kernel
theorem i172_2 : ts_ins 172 2 = some (.irem, 3, 0) := by decide +kernel
theorem i172_3 : ts_ins 172 3 = some (.iload_n 1, 4, 0) := by decide +kernel
theorem i172_4 : ts_ins 172 4 = some (.iconst 4, 5, 0) := by decide +kernel
theorem i172_5 : ts_ins 172 5 = some (.irem, 6, 0) := by decide +kernel
theorem i172_6 : ts_ins 172 6 = some (.isub, 7, 0) := by decide +kernel
theorem i172_7 : ts_ins 172 7 = some (.istore_n 2, 8, 0) := by decide +kernel
theorem i172_8 : ts_ins 172 8 = some (.iload_n 0, 9, 0) := by decide +kernel
theorem i172_9 : ts_ins 172 9 = some (.iconst 4, 10, 0) := by decide +kernel
theorem i172_10 : ts_ins 172 10 = some (.idiv, 11, 0) := by decide +kernel
theorem i172_11 : ts_ins 172 11 = some (.iload_n 1, 12, 0) := by decide +kernel
theorem i172_12 : ts_ins 172 12 = some (.iconst 4, 13, 0) := by decide +kernel
theorem i172_13 : ts_ins 172 13 = some (.idiv, 14, 0) := by decide +kernel
theorem i172_14 : ts_ins 172 14 = some (.isub, 15, 0) := by decide +kernel
theorem i172_15 : ts_ins 172 15 = some (.istore_n 3, 16, 0) := by decide +kernel
theorem i172_16 : ts_ins 172 16 = some (.iload_n 2, 17, 0) := by decide +kernel
theorem i172_17 : ts_ins 172 17 = some (.ifCond .ge 8, 20, 25) := by decide +kernel
theorem i172_20 : ts_ins 172 20 = some (.iload_n 2, 21, 0) := by decide +kernel
theorem i172_21 : ts_ins 172 21 = some (.ineg, 22, 0) := by decide +kernel
theorem i172_22 : ts_ins 172 22 = some (.goto 4, 25, 26) := by decide +kernel
theorem i172_25 : ts_ins 172 25 = some (.iload_n 2, 26, 0) := by decide +kernel
theorem i172_26 : ts_ins 172 26 = some (.iload_n 3, 27, 0) := by decide +kernel
theorem i172_27 : ts_ins 172 27 = some (.ifCond .ge 8, 30, 35) := by decide +kernel
theorem i172_30 : ts_ins 172 30 = some (.iload_n 3, 31, 0) := by decide +kernel
theorem i172_31 : ts_ins 172 31 = some (.ineg, 32, 0) := by decide +kernel
theorem i172_32 : ts_ins 172 32 = some (.goto 4, 35, 36) := by decide +kernel
theorem i172_35 : ts_ins 172 35 = some (.iload_n 3, 36, 0) := by decide +kernel
theorem i172_36 : ts_ins 172 36 = some (.iadd, 37, 0) := by decide +kernel
theorem i172_37 : ts_ins 172 37 = some (.ireturn, 38, 0) := by decide +kernel
theorem r172 : ts_rt 172 = ((some .int), 0, 0) := by decide +kernel
theorem l172 : ts_ml 172 = 4 := by decide +kernel
theorem i173_0 : ts_ins 173 0 = some (.aload_n 0, 1, 0) := by decide +kernel
theorem i173_1 : ts_ins 173 1 = some (.getfield 9, 4, 0) := by decide +kernel
theorem g173_1 : ts_fm 173 9 = some (12, 0, 2) := by decide +kernel
theorem i173_4 : ts_ins 173 4 = some (.bipush 32, 6, 0) := by decide +kernel
theorem i173_6 : ts_ins 173 6 = some (.iload_n 1, 7, 0) := by decide +kernel
theorem i173_7 : ts_ins 173 7 = some (.iadd, 8, 0) := by decide +kernel
theorem i173_8 : ts_ins 173 8 = some (.iaload, 9, 0) := by decide +kernel
theorem i173_9 : ts_ins 173 9 = some (.iload_n 2, 10, 0) := by decide +kernel
theorem i173_10 : ts_ins 173 10 = some (.invokestatic 198, 13, 0) := by decide +kernel
theorem g173_10 : ts_cal (ts_mc 173) 198 = some (1, 172, 2) := by decide +kernel
theorem i173_13 : ts_ins 173 13 = some (.aload_n 0, 14, 0) := by decide +kernel
theorem i173_14 : ts_ins 173 14 = some (.getfield 9, 17, 0) := by decide +kernel
theorem g173_14 : ts_fm 173 9 = some (12, 0, 2) := by decide +kernel
theorem i173_17 : ts_ins 173 17 = some (.bipush 36, 19, 0) := by decide +kernel
theorem i173_19 : ts_ins 173 19 = some (.iload_n 1, 20, 0) := by decide +kernel
theorem i173_20 : ts_ins 173 20 = some (.iadd, 21, 0) := by decide +kernel
theorem i173_21 : ts_ins 173 21 = some (.iaload, 22, 0) := by decide +kernel
theorem i173_22 : ts_ins 173 22 = some (.if_icmp .gt 7, 25, 29) := by decide +kernel
theorem i173_25 : ts_ins 173 25 = some (.iconst 1, 26, 0) := by decide +kernel
theorem i173_26 : ts_ins 173 26 = some (.goto 4, 29, 30) := by decide +kernel
theorem i173_29 : ts_ins 173 29 = some (.iconst 0, 30, 0) := by decide +kernel
theorem i173_30 : ts_ins 173 30 = some (.ireturn, 31, 0) := by decide +kernel
theorem r173 : ts_rt 173 = ((some .boolean), 0, 0) := by decide +kernel
theorem l173 : ts_ml 173 = 3 := by decide +kernel
theorem i27_0 : ts_ins 27 0 = some (.iconst 0, 1, 0) := by decide +kernel
theorem i27_1 : ts_ins 27 1 = some (.istore_n 2, 2, 0) := by decide +kernel
theorem i27_2 : ts_ins 27 2 = some (.iconst 0, 3, 0) := by decide +kernel
theorem i27_3 : ts_ins 27 3 = some (.istore_n 3, 4, 0) := by decide +kernel
theorem i27_4 : ts_ins 27 4 = some (.iload_n 3, 5, 0) := by decide +kernel
theorem i27_5 : ts_ins 27 5 = some (.bipush 16, 7, 0) := by decide +kernel
theorem i27_7 : ts_ins 27 7 = some (.if_icmp .ge 24, 10, 31) := by decide +kernel
theorem i27_10 : ts_ins 27 10 = some (.aload_n 0, 11, 0) := by decide +kernel
theorem i27_11 : ts_ins 27 11 = some (.iload_n 1, 12, 0) := by decide +kernel
theorem i27_12 : ts_ins 27 12 = some (.iload_n 3, 13, 0) := by decide +kernel
theorem i27_13 : ts_ins 27 13 = some (.invokevirtual 89, 16, 0) := by decide +kernel
theorem g27_13 : ts_cal (ts_mc 27) 89 = some (0, 26, 2) := by decide +kernel
theorem i27_16 : ts_ins 27 16 = some (.ifCond .eq 9, 19, 25) := by decide +kernel
theorem i27_19 : ts_ins 27 19 = some (.iload_n 2, 20, 0) := by decide +kernel
theorem i27_20 : ts_ins 27 20 = some (.iconst 1, 21, 0) := by decide +kernel
theorem i27_21 : ts_ins 27 21 = some (.iload_n 3, 22, 0) := by decide +kernel
theorem i27_22 : ts_ins 27 22 = some (.ishl, 23, 0) := by decide +kernel
theorem i27_23 : ts_ins 27 23 = some (.ior, 24, 0) := by decide +kernel
theorem i27_24 : ts_ins 27 24 = some (.istore_n 2, 25, 0) := by decide +kernel
theorem i27_25 : ts_ins 27 25 = some (.iinc 3 1, 28, 0) := by decide +kernel
theorem i27_28 : ts_ins 27 28 = some (.goto (-24), 31, 4) := by decide +kernel
theorem i27_31 : ts_ins 27 31 = some (.iload_n 2, 32, 0) := by decide +kernel
theorem i27_32 : ts_ins 27 32 = some (.ireturn, 33, 0) := by decide +kernel
theorem r27 : ts_rt 27 = ((some .int), 0, 0) := by decide +kernel
theorem l27 : ts_ml 27 = 4 := by decide +kernel
theorem i100_0 : ts_ins 100 0 = some (.aload_n 0, 1, 0) := by decide +kernel
theorem i100_1 : ts_ins 100 1 = some (.getfield 10, 4, 0) := by decide +kernel
theorem g100_1 : ts_fm 100 10 = some (11, 0, 2) := by decide +kernel
theorem i100_4 : ts_ins 100 4 = some (.iload_n 1, 5, 0) := by decide +kernel
theorem i100_5 : ts_ins 100 5 = some (.invokevirtual 157, 8, 0) := by decide +kernel
theorem g100_5 : ts_cal (ts_mc 100) 157 = some (0, 19, 1) := by decide +kernel
theorem i100_8 : ts_ins 100 8 = some (.ifCond .eq 14, 11, 22) := by decide +kernel
theorem i100_11 : ts_ins 100 11 = some (.aload_n 0, 12, 0) := by decide +kernel
theorem i100_12 : ts_ins 100 12 = some (.getfield 10, 15, 0) := by decide +kernel
theorem g100_12 : ts_fm 100 10 = some (11, 0, 2) := by decide +kernel
theorem i100_15 : ts_ins 100 15 = some (.iload_n 1, 16, 0) := by decide +kernel
theorem i100_16 : ts_ins 100 16 = some (.invokevirtual 160, 19, 0) := by decide +kernel
theorem g100_16 : ts_cal (ts_mc 100) 160 = some (0, 27, 1) := by decide +kernel
theorem i100_19 : ts_ins 100 19 = some (.goto 4, 22, 23) := by decide +kernel
theorem i100_22 : ts_ins 100 22 = some (.iconst (-1), 23, 0) := by decide +kernel
theorem i100_23 : ts_ins 100 23 = some (.ireturn, 24, 0) := by decide +kernel
theorem r100 : ts_rt 100 = ((some .int), 0, 0) := by decide +kernel
theorem l100 : ts_ml 100 = 2 := by decide +kernel
theorem i174_0 : ts_ins 174 0 = some (.aload_n 0, 1, 0) := by decide +kernel
theorem i174_1 : ts_ins 174 1 = some (.iload_n 1, 2, 0) := by decide +kernel
theorem i174_2 : ts_ins 174 2 = some (.i2l, 3, 0) := by decide +kernel
theorem i174_3 : ts_ins 174 3 = some (.invokevirtual 128, 6, 0) := by decide +kernel
theorem g174_3 : ts_cal (ts_mc 174) 128 = some (0, 149, 1) := by decide +kernel
theorem i174_6 : ts_ins 174 6 = some (.ifCond .ne 5, 9, 11) := by decide +kernel
theorem i174_9 : ts_ins 174 9 = some (.iconst (-1), 10, 0) := by decide +kernel
theorem i174_10 : ts_ins 174 10 = some (.ireturn, 11, 0) := by decide +kernel
theorem i174_11 : ts_ins 174 11 = some (.iconst 0, 12, 0) := by decide +kernel
theorem i174_12 : ts_ins 174 12 = some (.istore_n 2, 13, 0) := by decide +kernel
theorem i174_13 : ts_ins 174 13 = some (.iconst 0, 14, 0) := by decide +kernel
theorem i174_14 : ts_ins 174 14 = some (.istore_n 3, 15, 0) := by decide +kernel
theorem i174_15 : ts_ins 174 15 = some (.iload_n 3, 16, 0) := by decide +kernel
theorem i174_16 : ts_ins 174 16 = some (.bipush 16, 18, 0) := by decide +kernel
theorem i174_18 : ts_ins 174 18 = some (.if_icmp .ge 28, 21, 46) := by decide +kernel
theorem i174_21 : ts_ins 174 21 = some (.iload_n 2, 22, 0) := by decide +kernel
theorem i174_22 : ts_ins 174 22 = some (.aload_n 0, 23, 0) := by decide +kernel
theorem i174_23 : ts_ins 174 23 = some (.iload_n 1, 24, 0) := by decide +kernel
theorem i174_24 : ts_ins 174 24 = some (.iload_n 3, 25, 0) := by decide +kernel
theorem i174_25 : ts_ins 174 25 = some (.invokevirtual 201, 28, 0) := by decide +kernel
theorem g174_25 : ts_cal (ts_mc 174) 201 = some (0, 173, 2) := by decide +kernel
theorem i174_28 : ts_ins 174 28 = some (.ifCond .eq 9, 31, 37) := by decide +kernel
theorem i174_31 : ts_ins 174 31 = some (.iconst 1, 32, 0) := by decide +kernel
theorem i174_32 : ts_ins 174 32 = some (.iload_n 3, 33, 0) := by decide +kernel
theorem i174_33 : ts_ins 174 33 = some (.ishl, 34, 0) := by decide +kernel
theorem i174_34 : ts_ins 174 34 = some (.goto 4, 37, 38) := by decide +kernel
theorem i174_37 : ts_ins 174 37 = some (.iconst 0, 38, 0) := by decide +kernel
theorem i174_38 : ts_ins 174 38 = some (.ior, 39, 0) := by decide +kernel
theorem i174_39 : ts_ins 174 39 = some (.istore_n 2, 40, 0) := by decide +kernel
theorem i174_40 : ts_ins 174 40 = some (.iinc 3 1, 43, 0) := by decide +kernel
theorem i174_43 : ts_ins 174 43 = some (.goto (-28), 46, 15) := by decide +kernel
theorem i174_46 : ts_ins 174 46 = some (.iload_n 2, 47, 0) := by decide +kernel
theorem i174_47 : ts_ins 174 47 = some (.ireturn, 48, 0) := by decide +kernel
theorem r174 : ts_rt 174 = ((some .int), 0, 0) := by decide +kernel
theorem l174 : ts_ml 174 = 4 := by decide +kernel
/-! who is there, who reaches what -/
theorem ts_bc {P Q : Prop} [Decidable P] [Decidable Q] (h : P ↔ Q) : ts_b (decide P) = ts_b (decide Q) := by rw [decide_eq_decide.mpr h]
theorem ts_n1 {n : Nat} (h : n < 2 ^ 30) : (nI n - 1).toInt = (n : Int) - 1 := pk_sub_toInt (a := n) (b := 1) h (by decide)
theorem ts_below {x : Int32} {n : Nat} (hn : n < 2 ^ 30) : ((0 : Int64) ≤ x.toInt64 ∧ x.toInt64 ≤ (nI n - 1).toInt64) ↔ (0 ≤ x ∧ x < nI n) := by
  rw [Int64.le_iff_toInt_le, Int64.le_iff_toInt_le, Int32.le_iff_toInt_le, Int32.lt_iff_toInt_lt, Int32.toInt_toInt64, Int32.toInt_toInt64, ts_n1 hn, nI_toInt (by omega)]
  show (0 ≤ _ ∧ _) ↔ (0 ≤ _ ∧ _)
  omega
theorem ts_ofIn {x : Int32} {n : Nat} (hn : n < 2 ^ 31) (h : 0 ≤ x ∧ x < nI n) : ∃ j, j < n ∧ x = nI j := ts_rng hn (Int32.not_lt.mpr h.1) (Int32.not_le.mpr h.2)
theorem ts_toIn {j n : Nat} (h : j < n) (hn : n < 2 ^ 31) : 0 ≤ nI j ∧ nI j < nI n := ⟨nI_pos' (by omega), nI_lt h hn⟩
theorem ts_b_1 {b : Bool} (h : ¬ ts_b b = 0) : b = true := by
  cases b with
  | true => rfl
  | false => exact absurd rfl h
section REACH
variable {X : ts_X} {I : Nat → Nat → Int32} {L : Nat → Nat → Int64} {sw : Bool} {K : Option Value → ts_H → Prop} {d : Nat} {f : ts_Fl}
theorem m_isMan (hA : ts_RA I f) {x : Int32} (hK : K (some (.int (ts_b (decide (0 ≤ x ∧ x < nI (f_men f)))))) (I, L, ts_P0 sw, ts_S0)) : ts_Cal X (d + 2) 149 [.ref 72, .long x.toInt64] (I, L, ts_P0 sw, ts_S0) K := by
  have hm := hA.men
  refine ev_enter (lv := [.ref 72, .long x.toInt64, .null]) l149 rfl (Nat.le_of_ble_eq_true rfl) ?_
  refine ev_lloadn_1 i149_0 ?_
  refine ev_lconst (v := 0) i149_1 (by decide) ?_
  refine ev_aloadn_0 i149_2 ?_
  refine ev_getI i149_3 g149_3 rfl ?_
  refine ev_iconst (v := 1) i149_6 (by decide) ?_
  refine ev_isub i149_7 ?_
  refine ev_i2l i149_8 ?_
  refine ev_stat3 i149_9 g149_9 (by decide +kernel) (Nat.le_of_ble_eq_true rfl) (m_within ?_)
  refine ev_zreturn i149_12 r149 (ts_b_nar _) ?_
  exact ts_Kv hK (by rw [hm.2.1]; exact (ts_bc (ts_below (by omega))).symm)
theorem m_isSaying (hA : ts_RA I f) {x : Int32} (hK : K (some (.int (ts_b (decide (0 ≤ x ∧ x < nI (f_told f)))))) (I, L, ts_P0 sw, ts_S0)) : ts_Cal X (d + 2) 150 [.ref 72, .long x.toInt64] (I, L, ts_P0 sw, ts_S0) K := by
  have hm := hA.told
  refine ev_enter (lv := [.ref 72, .long x.toInt64, .null]) l150 rfl (Nat.le_of_ble_eq_true rfl) ?_
  refine ev_lloadn_1 i150_0 ?_
  refine ev_lconst (v := 0) i150_1 (by decide) ?_
  refine ev_aloadn_0 i150_2 ?_
  refine ev_getI i150_3 g150_3 rfl ?_
  refine ev_iconst (v := 1) i150_6 (by decide) ?_
  refine ev_isub i150_7 ?_
  refine ev_i2l i150_8 ?_
  refine ev_stat3 i150_9 g150_9 (by decide +kernel) (Nat.le_of_ble_eq_true rfl) (m_within ?_)
  refine ev_zreturn i150_12 r150 (ts_b_nar _) ?_
  exact ts_Kv hK (by rw [hm.2.1]; exact (ts_bc (ts_below (by omega))).symm)
theorem m_isPlank {x : Int64} (hK : K (some (.int (ts_b (decide (0 ≤ x ∧ x ≤ 15))))) (I, L, ts_P0 sw, ts_S0)) : ts_Cal X (d + 2) 148 [.long x] (I, L, ts_P0 sw, ts_S0) K := by
  refine ev_enter (lv := [.long x, .null]) l148 rfl (Nat.le_of_ble_eq_true rfl) ?_
  refine ev_lloadn_0 i148_0 ?_
  refine ev_lconst (v := 0) i148_1 (by decide) ?_
  refine ev_ldc2_w i148_2 g148_2 ?_
  refine ev_stat3 i148_5 g148_5 (by decide +kernel) (Nat.le_of_ble_eq_true rfl) (m_within ?_)
  refine ev_zreturn i148_8 r148 (ts_b_nar _) ?_
  exact hK
theorem m_isTone {x : Int64} (hK : K (some (.int (ts_b (decide (0 ≤ x ∧ x ≤ 7))))) (I, L, ts_P0 sw, ts_S0)) : ts_Cal X (d + 2) 151 [.long x] (I, L, ts_P0 sw, ts_S0) K := by
  refine ev_enter (lv := [.long x, .null]) l151 rfl (Nat.le_of_ble_eq_true rfl) ?_
  refine ev_lloadn_0 i151_0 ?_
  refine ev_lconst (v := 0) i151_1 (by decide) ?_
  refine ev_ldc2_w i151_2 g151_2 ?_
  refine ev_stat3 i151_5 g151_5 (by decide +kernel) (Nat.le_of_ble_eq_true rfl) (m_within ?_)
  refine ev_zreturn i151_8 r151 (ts_b_nar _) ?_
  exact hK
theorem ts_rem4 {p : Nat} (h : p < 16) : ts_rem (nI p) 4 = nI (p % 4) := pk_rem (d := 4) (by omega) (by decide) (by decide)
theorem ts_div4 {p : Nat} (h : p < 16) : nI p / 4 = nI (p / 4) := pk_div (d := 4) (by omega) (by decide) (by decide)
/-- |a - b| -/
theorem ts_absd {a b : Nat} (ha : a < 4) (hb : b < 4) : (if 0 ≤ nI a - nI b then nI a - nI b else 0 - (nI a - nI b)) = nI (if b < a then a - b else b - a) := by
  have h1 : ∀ a, a < 4 → ∀ b, b < 4 → (if 0 ≤ nI a - nI b then nI a - nI b else 0 - (nI a - nI b)) = nI (if b < a then a - b else b - a) := by decide +kernel
  exact h1 a ha b hb
theorem ts_absn {a b : Nat} (ha : a < 4) (hb : b < 4) : (0 ≤ nI a - nI b → nI a - nI b = nI (if a < b then b - a else a - b)) ∧ (¬ 0 ≤ nI a - nI b → -(nI a - nI b) = nI (if a < b then b - a else a - b)) := by
  have h1 : ∀ a, a < 4 → ∀ b, b < 4 → (0 ≤ nI a - nI b → nI a - nI b = nI (if a < b then b - a else a - b)) ∧ (¬ 0 ≤ nI a - nI b → -(nI a - nI b) = nI (if a < b then b - a else a - b)) := by decide +kernel
  exact h1 a ha b hb
theorem f_far_lt {p q : Nat} (hp : p < 16) (hq : q < 16) : f_far p q < 10 := by
  unfold f_far
  split <;> split <;> omega
set_option maxHeartbeats 2000000 in
theorem x_canStrike (hA : ts_RA I f) {m p : Nat} (hm : m < f_men f) (hp : p < 16) (hK : K (some (.int (ts_b (f_can f m p)))) (I, L, ts_P0 sw, ts_S0)) : ts_Cal X (d + 2) 26 [.ref 2, .int (nI m), .int (nI p)] (I, L, ts_P0 sw, ts_S0) K := by
  have hmm := hA.men
  have hst := hA.stand (p := m) (by omega)
  have hre := hA.reach (p := m) (by omega)
  have hcl : (nI m).toNatClampNeg = m := nI_clamp (by omega)
  have hfl := f_far_lt (p := f_stand f m) (q := p) (by omega) hp
  have join : ∀ a b : Int32, a + b = nI (f_far (f_stand f m) p) → ts_Ev X (ts_Cal X (d + 1)) 26 ts_S0 K 53 [.ref 2, .int (nI m), .int (nI p), .int a, .int b] [.int b, .int a] (I, L, ts_P0 sw, ts_S0) := by
    intro a b hab
    refine ev_iadd i26_53 ?_
    refine ev_aloadn_0 i26_54 ?_
    refine ev_getA i26_55 g26_55 rfl rfl (by decide) ?_
    refine ev_iloadn_1 i26_58 ?_
    refine ev_iaload i26_59 rfl (vp_in_nI (by omega) (by decide)) ?_
    refine ev_icmpgt i26_60 (fun c60 => ?_) (fun c60 => ?_)
    · refine ev_iconst (v := 0) i26_67 (by decide) ?_
      refine ev_zreturn i26_68 r26 rfl ?_
      rw [hcl, hre.1, hab] at c60
      refine ts_Kv hK ?_
      first
        | (have h2 : ¬ f_far (f_stand f m) p ≤ f_reach f m := fun q => absurd c60 (nI_nlt q (by omega)); exact ts_b_f h2)
        | (have h2 : f_far (f_stand f m) p ≤ f_reach f m := Nat.not_lt.mp (fun q => c60 (nI_lt q (by omega))); exact ts_b_t h2)
    · refine ev_iconst (v := 1) i26_63 (by decide) ?_
      refine ev_goto i26_64 ?_
      refine ev_zreturn i26_68 r26 rfl ?_
      rw [hcl, hre.1, hab] at c60
      refine ts_Kv hK ?_
      first
        | (have h2 : ¬ f_far (f_stand f m) p ≤ f_reach f m := fun q => absurd c60 (nI_nlt q (by omega)); exact ts_b_f h2)
        | (have h2 : f_far (f_stand f m) p ≤ f_reach f m := Nat.not_lt.mp (fun q => c60 (nI_lt q (by omega))); exact ts_b_t h2)
  refine ev_enter (lv := [.ref 2, .int (nI m), .int (nI p), .null, .null]) l26 rfl (Nat.le_of_ble_eq_true rfl) ?_
  refine ev_aloadn_0 i26_0 ?_
  refine ev_iloadn_1 i26_1 ?_
  refine ev_virt1 i26_2 g26_2 rfl (by decide +kernel) (Nat.le_of_ble_eq_true rfl) (x_hasMan hA ?_)
  refine ev_ifeq i26_5 (fun c5 => ?_) (fun c5 => ?_)
  · refine ev_iconst (v := 0) i26_15 (by decide) ?_
    refine ev_zreturn i26_16 r26 rfl ?_
    first | exact absurd (ts_toIn hm (by omega)) (ts_b_eq c5) | exact absurd (ts_toIn (n := 16) hp (by decide)) (ts_b_eq (P := 0 ≤ nI p ∧ nI p < 16) c12)
  · refine ev_iloadn_2 i26_8 ?_
    refine ev_nest1 i26_9 g26_9 (by decide +kernel) (Nat.le_of_ble_eq_true rfl) (x_isPlank ?_)
    refine ev_ifne i26_12 (fun c12 => ?_) (fun c12 => ?_)
    · refine ev_iloadn_2 i26_17 ?_
      refine ev_iconst (v := 4) i26_18 (by decide) ?_
      refine ev_irem i26_19 (by decide) ?_
      refine ev_aloadn_0 i26_20 ?_
      refine ev_getA i26_21 g26_21 rfl rfl (by decide) ?_
      refine ev_iloadn_1 i26_24 ?_
      refine ev_iaload i26_25 rfl (vp_in_nI (by omega) (by decide)) ?_
      refine ev_iconst (v := 4) i26_26 (by decide) ?_
      refine ev_irem i26_27 (by decide) ?_
      refine ev_isub i26_28 ?_
      refine ev_mabs (b := 0) i26_29 g26_29 (Nat.le_of_ble_eq_true rfl) ?_
      refine ev_istoren_3 i26_32 rfl ?_
      refine ev_iloadn_2 i26_33 ?_
      refine ev_iconst (v := 4) i26_34 (by decide) ?_
      refine ev_idiv i26_35 (by decide) ?_
      refine ev_aloadn_0 i26_36 ?_
      refine ev_getA i26_37 g26_37 rfl rfl (by decide) ?_
      refine ev_iloadn_1 i26_40 ?_
      refine ev_iaload i26_41 rfl (vp_in_nI (by omega) (by decide)) ?_
      refine ev_iconst (v := 4) i26_42 (by decide) ?_
      refine ev_idiv i26_43 (by decide) ?_
      refine ev_isub i26_44 ?_
      refine ev_mabs (b := 0) i26_45 g26_45 (Nat.le_of_ble_eq_true rfl) ?_
      refine ev_istore_4 i26_48 rfl ?_
      refine ev_iloadn_3 i26_50 ?_
      refine ev_iload_4 i26_51 ?_
      refine join _ _ ?_
      rw [hcl, hst.1, ts_rem4 hp, ts_rem4 (by omega), ts_div4 hp, ts_div4 (by omega), ts_absd (by omega) (by omega), ts_absd (by omega) (by omega), nI_add]
      rfl
    · refine ev_iconst (v := 0) i26_15 (by decide) ?_
      refine ev_zreturn i26_16 r26 rfl ?_
      first | exact absurd (ts_toIn hm (by omega)) (ts_b_eq c5) | exact absurd (ts_toIn (n := 16) hp (by decide)) (ts_b_eq (P := 0 ≤ nI p ∧ nI p < 16) c12)
theorem x_canNot (hA : ts_RA I f) {m : Nat} {x : Int32} (hm : m < f_men f) (hx : ¬ (0 ≤ x ∧ x < 16)) (hK : K (some (.int 0)) (I, L, ts_P0 sw, ts_S0)) : ts_Cal X (d + 2) 26 [.ref 2, .int (nI m), .int x] (I, L, ts_P0 sw, ts_S0) K := by
  have hmm := hA.men
  refine ev_enter (lv := [.ref 2, .int (nI m), .int x, .null, .null]) l26 rfl (Nat.le_of_ble_eq_true rfl) ?_
  refine ev_aloadn_0 i26_0 ?_
  refine ev_iloadn_1 i26_1 ?_
  refine ev_virt1 i26_2 g26_2 rfl (by decide +kernel) (Nat.le_of_ble_eq_true rfl) (x_hasMan hA ?_)
  refine ev_ifeq i26_5 (fun c5 => ?_) (fun c5 => ?_)
  · refine ev_iconst (v := 0) i26_15 (by decide) ?_
    refine ev_zreturn i26_16 r26 rfl ?_
    exact hK
  · refine ev_iloadn_2 i26_8 ?_
    refine ev_nest1 i26_9 g26_9 (by decide +kernel) (Nat.le_of_ble_eq_true rfl) (x_isPlank ?_)
    refine ev_ifne i26_12 (fun c12 => ?_) (fun c12 => ?_)
    · exact absurd (ts_b_ne c12) hx
    · refine ev_iconst (v := 0) i26_15 (by decide) ?_
      refine ev_zreturn i26_16 r26 rfl ?_
      exact hK
theorem m_farOf {a b : Nat} (ha : a < 16) (hb : b < 16) (hK : K (some (.int (nI (f_far a b)))) (I, L, ts_P0 sw, ts_S0)) : ts_Cal X (d + 1) 172 [.int (nI a), .int (nI b)] (I, L, ts_P0 sw, ts_S0) K := by
  have e1 := ts_absn (a := a % 4) (b := b % 4) (by omega) (by omega)
  have e2 := ts_absn (a := a / 4) (b := b / 4) (by omega) (by omega)
  refine ev_enter (lv := [.int (nI a), .int (nI b), .null, .null]) l172 rfl (Nat.le_of_ble_eq_true rfl) ?_
  refine ev_iloadn_0 i172_0 ?_
  refine ev_iconst (v := 4) i172_1 (by decide) ?_
  refine ev_irem i172_2 (by decide) ?_
  refine ev_iloadn_1 i172_3 ?_
  refine ev_iconst (v := 4) i172_4 (by decide) ?_
  refine ev_irem i172_5 (by decide) ?_
  refine ev_isub i172_6 ?_
  refine ev_istoren_2 i172_7 rfl ?_
  refine ev_iloadn_0 i172_8 ?_
  refine ev_iconst (v := 4) i172_9 (by decide) ?_
  refine ev_idiv i172_10 (by decide) ?_
  refine ev_iloadn_1 i172_11 ?_
  refine ev_iconst (v := 4) i172_12 (by decide) ?_
  refine ev_idiv i172_13 (by decide) ?_
  refine ev_isub i172_14 ?_
  refine ev_istoren_3 i172_15 rfl ?_
  refine ev_iloadn_2 i172_16 ?_
  refine ev_ifge i172_17 (fun c17 => ?_) (fun c17 => ?_)
  · refine ev_iloadn_2 i172_25 ?_
    refine ev_iloadn_3 i172_26 ?_
    refine ev_ifge i172_27 (fun c27 => ?_) (fun c27 => ?_)
    · refine ev_iloadn_3 i172_35 ?_
      refine ev_iadd i172_36 ?_
      refine ev_ireturn i172_37 r172 ?_
      refine ts_Kv hK ?_
      rw [ts_rem4 ha, ts_rem4 hb] at *
      rw [ts_div4 ha, ts_div4 hb] at *
      first
        | (rw [e1.1 c17, e2.1 c27, nI_add]; rfl)
        | (rw [e1.1 c17, e2.2 c27, nI_add]; rfl)
        | (rw [e1.2 c17, e2.1 c27, nI_add]; rfl)
        | (rw [e1.2 c17, e2.2 c27, nI_add]; rfl)
    · refine ev_iloadn_3 i172_30 ?_
      refine ev_ineg i172_31 ?_
      refine ev_goto i172_32 ?_
      refine ev_iadd i172_36 ?_
      refine ev_ireturn i172_37 r172 ?_
      refine ts_Kv hK ?_
      rw [ts_rem4 ha, ts_rem4 hb] at *
      rw [ts_div4 ha, ts_div4 hb] at *
      first
        | (rw [e1.1 c17, e2.1 c27, nI_add]; rfl)
        | (rw [e1.1 c17, e2.2 c27, nI_add]; rfl)
        | (rw [e1.2 c17, e2.1 c27, nI_add]; rfl)
        | (rw [e1.2 c17, e2.2 c27, nI_add]; rfl)
  · refine ev_iloadn_2 i172_20 ?_
    refine ev_ineg i172_21 ?_
    refine ev_goto i172_22 ?_
    refine ev_iloadn_3 i172_26 ?_
    refine ev_ifge i172_27 (fun c27 => ?_) (fun c27 => ?_)
    · refine ev_iloadn_3 i172_35 ?_
      refine ev_iadd i172_36 ?_
      refine ev_ireturn i172_37 r172 ?_
      refine ts_Kv hK ?_
      rw [ts_rem4 ha, ts_rem4 hb] at *
      rw [ts_div4 ha, ts_div4 hb] at *
      first
        | (rw [e1.1 c17, e2.1 c27, nI_add]; rfl)
        | (rw [e1.1 c17, e2.2 c27, nI_add]; rfl)
        | (rw [e1.2 c17, e2.1 c27, nI_add]; rfl)
        | (rw [e1.2 c17, e2.2 c27, nI_add]; rfl)
    · refine ev_iloadn_3 i172_30 ?_
      refine ev_ineg i172_31 ?_
      refine ev_goto i172_32 ?_
      refine ev_iadd i172_36 ?_
      refine ev_ireturn i172_37 r172 ?_
      refine ts_Kv hK ?_
      rw [ts_rem4 ha, ts_rem4 hb] at *
      rw [ts_div4 ha, ts_div4 hb] at *
      first
        | (rw [e1.1 c17, e2.1 c27, nI_add]; rfl)
        | (rw [e1.1 c17, e2.2 c27, nI_add]; rfl)
        | (rw [e1.2 c17, e2.1 c27, nI_add]; rfl)
        | (rw [e1.2 c17, e2.2 c27, nI_add]; rfl)
theorem m_reaches (hA : ts_RA I f) {m p : Nat} (hm : m < 4) (hp : p < 16) (hK : K (some (.int (ts_b (f_can f m p)))) (I, L, ts_P0 sw, ts_S0)) : ts_Cal X (d + 2) 173 [.ref 72, .int (nI m), .int (nI p)] (I, L, ts_P0 sw, ts_S0) K := by
  have hst := hA.stand hm
  have hre := hA.reach hm
  have hfl := f_far_lt (p := f_stand f m) (q := p) (by omega) hp
  have h32 : (32 : Int32) + nI m = nI (32 + m) := nI_add 32 m
  have h36 : (36 : Int32) + nI m = nI (36 + m) := nI_add 36 m
  have hin1 : vp_in (32 + nI m) 97 := by rw [h32]; exact vp_in_nI (by omega) (by decide)
  have hin2 : vp_in (36 + nI m) 97 := by rw [h36]; exact vp_in_nI (by omega) (by decide)
  have r1 : I 73 (32 + nI m).toNatClampNeg = nI (f_stand f m) := by rw [h32, nI_clamp (by omega)]; exact hst.2.1
  have r2 : I 73 (36 + nI m).toNatClampNeg = nI (f_reach f m) := by rw [h36, nI_clamp (by omega)]; exact hre.2.1
  refine ev_enter (lv := [.ref 72, .int (nI m), .int (nI p)]) l173 rfl (Nat.le_of_ble_eq_true rfl) ?_
  refine ev_aloadn_0 i173_0 ?_
  refine ev_getA i173_1 g173_1 rfl rfl (by decide) ?_
  refine ev_bipush (v := 32) i173_4 (by decide) ?_
  refine ev_iloadn_1 i173_6 ?_
  refine ev_iadd i173_7 ?_
  refine ev_iaload i173_8 rfl (hin1) ?_
  rw [r1]
  refine ev_iloadn_2 i173_9 ?_
  refine ev_stat2 i173_10 g173_10 (by decide +kernel) (Nat.le_of_ble_eq_true rfl) (m_farOf (by omega) hp ?_)
  refine ev_aloadn_0 i173_13 ?_
  refine ev_getA i173_14 g173_14 rfl rfl (by decide) ?_
  refine ev_bipush (v := 36) i173_17 (by decide) ?_
  refine ev_iloadn_1 i173_19 ?_
  refine ev_iadd i173_20 ?_
  refine ev_iaload i173_21 rfl (hin2) ?_
  rw [r2]
  refine ev_icmpgt i173_22 (fun c22 => ?_) (fun c22 => ?_)
  · refine ev_iconst (v := 0) i173_29 (by decide) ?_
    refine ev_zreturn i173_30 r173 rfl ?_
    refine ts_Kv hK ?_
    first
      | (have h2 : ¬ f_far (f_stand f m) p ≤ f_reach f m := fun q => absurd c22 (nI_nlt q (by omega)); exact ts_b_f h2)
      | (have h2 : f_far (f_stand f m) p ≤ f_reach f m := Nat.not_lt.mp (fun q => c22 (nI_lt q (by omega))); exact ts_b_t h2)
  · refine ev_iconst (v := 1) i173_25 (by decide) ?_
    refine ev_goto i173_26 ?_
    refine ev_zreturn i173_30 r173 rfl ?_
    refine ts_Kv hK ?_
    first
      | (have h2 : ¬ f_far (f_stand f m) p ≤ f_reach f m := fun q => absurd c22 (nI_nlt q (by omega)); exact ts_b_f h2)
      | (have h2 : f_far (f_stand f m) p ≤ f_reach f m := Nat.not_lt.mp (fun q => c22 (nI_lt q (by omega))); exact ts_b_t h2)
/-- bits of those that g has, of the first n -/
def ts_bits (g : Nat → Bool) : Nat → Int32
  | 0 => 0
  | n + 1 => bif g n then ts_bits g n ||| (1 <<< (nI n &&& 31)) else ts_bits g n
set_option maxHeartbeats 2000000 in
theorem x_reachBits (hA : ts_RA I f) {m : Nat} (hm : m < f_men f) (hK : K (some (.int (ts_bits (f_can f m) 16))) (I, L, ts_P0 sw, ts_S0)) : ts_Cal X (d + 3) 27 [.ref 2, .int (nI m)] (I, L, ts_P0 sw, ts_S0) K := by
  have loop : ∀ n j : Nat, j + n = 16 → ts_Ev X (ts_Cal X (d + 2)) 27 ts_S0 K 4 [.ref 2, .int (nI m), .int (ts_bits (f_can f m) j), .int (nI j)] [] (I, L, ts_P0 sw, ts_S0) := by
    intro n
    induction n with
    | zero =>
      intro j hj
      obtain rfl : j = 16 := by omega
      refine ev_iloadn_3 i27_4 ?_
      refine ev_bipush (v := 16) i27_5 (by decide) ?_
      refine ev_icmpge i27_7 (fun c7 => ?_) (fun c7 => ?_)
      · refine ev_iloadn_2 i27_31 ?_
        refine ev_ireturn i27_32 r27 ?_
        exact hK
      · exact absurd (by decide) c7
    | succ n ih =>
      intro j hj
      have hnext := ih (j + 1) (by omega)
      rw [show nI (j + 1) = nI j + 1 from (nI_1 j).symm] at hnext
      refine ev_iloadn_3 i27_4 ?_
      refine ev_bipush (v := 16) i27_5 (by decide) ?_
      refine ev_icmpge i27_7 (fun c => ?_) (fun c => ?_)
      · exact absurd c (nI_ge (b := 16) (by omega) (by decide))
      · refine ev_aloadn_0 i27_10 ?_
        refine ev_iloadn_1 i27_11 ?_
        refine ev_iloadn_3 i27_12 ?_
        refine ev_virt2 i27_13 g27_13 rfl (by decide +kernel) (Nat.le_of_ble_eq_true rfl) (x_canStrike hA hm (by omega) ?_)
        refine ev_ifeq i27_16 (fun c16 => ?_) (fun c16 => ?_)
        · refine ev_iinc_3 (c := 1) i27_25 rfl (by decide) ?_
          refine ev_goto i27_28 ?_
          have e : ts_bits (f_can f m) (j + 1) = bif f_can f m j then ts_bits (f_can f m) j ||| (1 <<< (nI j &&& 31)) else ts_bits (f_can f m) j := rfl
          first
            | (rw [e, ts_b_0.mp c16] at hnext; exact hnext)
            | (rw [e, ts_b_1 c16] at hnext; exact hnext)
        · refine ev_iloadn_2 i27_19 ?_
          refine ev_iconst (v := 1) i27_20 (by decide) ?_
          refine ev_iloadn_3 i27_21 ?_
          refine ev_ishl i27_22 ?_
          refine ev_ior i27_23 ?_
          refine ev_istoren_2 i27_24 rfl ?_
          refine ev_iinc_3 (c := 1) i27_25 rfl (by decide) ?_
          refine ev_goto i27_28 ?_
          have e : ts_bits (f_can f m) (j + 1) = bif f_can f m j then ts_bits (f_can f m) j ||| (1 <<< (nI j &&& 31)) else ts_bits (f_can f m) j := rfl
          first
            | (rw [e, ts_b_0.mp c16] at hnext; exact hnext)
            | (rw [e, ts_b_1 c16] at hnext; exact hnext)
  refine ev_enter (lv := [.ref 2, .int (nI m), .null, .null]) l27 rfl (Nat.le_of_ble_eq_true rfl) ?_
  refine ev_iconst (v := 0) i27_0 (by decide) ?_
  refine ev_istoren_2 i27_1 rfl ?_
  refine ev_iconst (v := 0) i27_2 (by decide) ?_
  refine ev_istoren_3 i27_3 rfl ?_
  exact loop 16 0 rfl
/-- reach: what it answers -/
def g_reach (f : ts_Fl) (x : Int32) : Int32 := if 0 ≤ x ∧ x < nI (f_men f) then ts_bits (f_can f x.toNatClampNeg) 16 else -1
theorem x_reach (hA : ts_RA I f) {x : Int32} (hK : K (some (.int (g_reach f x))) (I, L, ts_P0 sw, ts_S0)) : ts_Cal X (d + 4) 100 [.ref 1, .int x] (I, L, ts_P0 sw, ts_S0) K := by
  have hmm := hA.men
  unfold g_reach at hK
  refine ev_enter (lv := [.ref 1, .int x]) l100 rfl (Nat.le_of_ble_eq_true rfl) ?_
  refine ev_aloadn_0 i100_0 ?_
  refine ev_getA i100_1 g100_1 rfl rfl (by decide) ?_
  refine ev_iloadn_1 i100_4 ?_
  refine ev_virt1 i100_5 g100_5 rfl (by decide +kernel) (Nat.le_of_ble_eq_true rfl) (x_hasMan hA ?_)
  refine ev_ifeq i100_8 (fun c8 => ?_) (fun c8 => ?_)
  · rw [if_neg (ts_b_eq c8)] at hK
    refine ev_iconst (v := (-1)) i100_22 (by decide) ?_
    refine ev_ireturn i100_23 r100 ?_
    exact hK
  · have hin := ts_b_ne c8
    obtain ⟨m, hm, rfl⟩ := ts_ofIn (by omega) hin
    rw [if_pos hin, nI_clamp (by omega)] at hK
    refine ev_aloadn_0 i100_11 ?_
    refine ev_getA i100_12 g100_12 rfl rfl (by decide) ?_
    refine ev_iloadn_1 i100_15 ?_
    refine ev_virt1 i100_16 g100_16 rfl (by decide +kernel) (Nat.le_of_ble_eq_true rfl) (x_reachBits hA hm ?_)
    refine ev_goto i100_19 ?_
    refine ev_ireturn i100_23 r100 ?_
    exact hK
set_option maxHeartbeats 2000000 in
theorem m_reach (hA : ts_RA I f) {x : Int32} (hK : K (some (.int (g_reach f x))) (I, L, ts_P0 sw, ts_S0)) : ts_Cal X (d + 4) 174 [.ref 72, .int x] (I, L, ts_P0 sw, ts_S0) K := by
  have hmm := hA.men
  unfold g_reach at hK
  have loop : ∀ m, m < f_men f → K (some (.int (ts_bits (f_can f m) 16))) (I, L, ts_P0 sw, ts_S0) → ∀ n j : Nat, j + n = 16 → ts_Ev X (ts_Cal X (d + 3)) 174 ts_S0 K 15 [.ref 72, .int (nI m), .int (ts_bits (f_can f m) j), .int (nI j)] [] (I, L, ts_P0 sw, ts_S0) := by
    intro m hm hK n
    induction n with
    | zero =>
      intro j hj
      obtain rfl : j = 16 := by omega
      refine ev_iloadn_3 i174_15 ?_
      refine ev_bipush (v := 16) i174_16 (by decide) ?_
      refine ev_icmpge i174_18 (fun c18 => ?_) (fun c18 => ?_)
      · refine ev_iloadn_2 i174_46 ?_
        refine ev_ireturn i174_47 r174 ?_
        exact hK
      · exact absurd (by decide) c18
    | succ n ih =>
      intro j hj
      have hnext := ih (j + 1) (by omega)
      rw [show nI (j + 1) = nI j + 1 from (nI_1 j).symm] at hnext
      have e : ts_bits (f_can f m) (j + 1) = bif f_can f m j then ts_bits (f_can f m) j ||| (1 <<< (nI j &&& 31)) else ts_bits (f_can f m) j := rfl
      refine ev_iloadn_3 i174_15 ?_
      refine ev_bipush (v := 16) i174_16 (by decide) ?_
      refine ev_icmpge i174_18 (fun c18 => ?_) (fun c18 => ?_)
      · exact absurd c18 (nI_ge (b := 16) (by omega) (by decide))
      · refine ev_iloadn_2 i174_21 ?_
        refine ev_aloadn_0 i174_22 ?_
        refine ev_iloadn_1 i174_23 ?_
        refine ev_iloadn_3 i174_24 ?_
        refine ev_virt2 i174_25 g174_25 rfl (by decide +kernel) (Nat.le_of_ble_eq_true rfl) (m_reaches hA (by omega) (by omega) ?_)
        refine ev_ifeq i174_28 (fun c28 => ?_) (fun c28 => ?_)
        · refine ev_iconst (v := 0) i174_37 (by decide) ?_
          refine ev_ior i174_38 ?_
          refine ev_istoren_2 i174_39 rfl ?_
          refine ev_iinc_3 (c := 1) i174_40 rfl (by decide) ?_
          refine ev_goto i174_43 ?_
          first
            | (rw [e, ts_b_0.mp c28] at hnext; rw [Int32.or_zero]; exact hnext)
            | (rw [e, ts_b_1 c28] at hnext; exact hnext)
        · refine ev_iconst (v := 1) i174_31 (by decide) ?_
          refine ev_iloadn_3 i174_32 ?_
          refine ev_ishl i174_33 ?_
          refine ev_goto i174_34 ?_
          refine ev_ior i174_38 ?_
          refine ev_istoren_2 i174_39 rfl ?_
          refine ev_iinc_3 (c := 1) i174_40 rfl (by decide) ?_
          refine ev_goto i174_43 ?_
          first
            | (rw [e, ts_b_0.mp c28] at hnext; rw [Int32.or_zero]; exact hnext)
            | (rw [e, ts_b_1 c28] at hnext; exact hnext)
  refine ev_enter (lv := [.ref 72, .int x, .null, .null]) l174 rfl (Nat.le_of_ble_eq_true rfl) ?_
  refine ev_aloadn_0 i174_0 ?_
  refine ev_iloadn_1 i174_1 ?_
  refine ev_i2l i174_2 ?_
  refine ev_virt1 i174_3 g174_3 rfl (by decide +kernel) (Nat.le_of_ble_eq_true rfl) (m_isMan hA ?_)
  refine ev_ifne i174_6 (fun c6 => ?_) (fun c6 => ?_)
  · have hin := ts_b_ne c6
    obtain ⟨m, hm, rfl⟩ := ts_ofIn (by omega) hin
    rw [if_pos hin, nI_clamp (by omega)] at hK
    refine ev_iconst (v := 0) i174_11 (by decide) ?_
    refine ev_istoren_2 i174_12 rfl ?_
    refine ev_iconst (v := 0) i174_13 (by decide) ?_
    refine ev_istoren_3 i174_14 rfl ?_
    exact loop m hm hK 16 0 rfl
  · rw [if_neg (ts_b_eq c6)] at hK
    refine ev_iconst (v := (-1)) i174_9 (by decide) ?_
    refine ev_ireturn i174_10 r174 ?_
    exact hK
end REACH
