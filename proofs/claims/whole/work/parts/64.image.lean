theorem i6_0 : ts_ins 6 0 = some (.aload_n 1, 1, 0) := by decide +kernel
theorem i6_1 : ts_ins 6 1 = some (.getfield 9, 4, 0) := by decide +kernel
theorem g6_1 : ts_fm 6 9 = some (1, 0, 2) := by decide +kernel
theorem i6_4 : ts_ins 6 4 = some (.iconst 0, 5, 0) := by decide +kernel
theorem i6_5 : ts_ins 6 5 = some (.aload_n 0, 6, 0) := by decide +kernel
theorem i6_6 : ts_ins 6 6 = some (.getfield 9, 9, 0) := by decide +kernel
theorem g6_6 : ts_fm 6 9 = some (1, 0, 2) := by decide +kernel
theorem i6_9 : ts_ins 6 9 = some (.iconst 0, 10, 0) := by decide +kernel
theorem i6_10 : ts_ins 6 10 = some (.iconst 5, 11, 0) := by decide +kernel
theorem i6_11 : ts_ins 6 11 = some (.invokestatic 16, 14, 0) := by decide +kernel
theorem g6_11 : ts_cal (ts_mc 6) 16 = some (9, 0, 5) := by decide +kernel
theorem i6_14 : ts_ins 6 14 = some (.aload_n 1, 15, 0) := by decide +kernel
theorem i6_15 : ts_ins 6 15 = some (.getfield 13, 18, 0) := by decide +kernel
theorem g6_15 : ts_fm 6 13 = some (1, 1, 2) := by decide +kernel
theorem i6_18 : ts_ins 6 18 = some (.iconst 0, 19, 0) := by decide +kernel
theorem i6_19 : ts_ins 6 19 = some (.aload_n 0, 20, 0) := by decide +kernel
theorem i6_20 : ts_ins 6 20 = some (.getfield 13, 23, 0) := by decide +kernel
theorem g6_20 : ts_fm 6 13 = some (1, 1, 2) := by decide +kernel
theorem i6_23 : ts_ins 6 23 = some (.iconst 0, 24, 0) := by decide +kernel
theorem i6_24 : ts_ins 6 24 = some (.bipush 6, 26, 0) := by decide +kernel
theorem i6_26 : ts_ins 6 26 = some (.invokestatic 16, 29, 0) := by decide +kernel
theorem g6_26 : ts_cal (ts_mc 6) 16 = some (9, 0, 5) := by decide +kernel
theorem i6_29 : ts_ins 6 29 = some (.return_, 30, 0) := by decide +kernel
theorem r6 : ts_rt 6 = (none, 0, 0) := by decide +kernel
theorem l6 : ts_ml 6 = 2 := by decide +kernel
theorem i123_0 : ts_ins 123 0 = some (.aload_n 0, 1, 0) := by decide +kernel
theorem i123_1 : ts_ins 123 1 = some (.getfield 60, 4, 0) := by decide +kernel
theorem g123_1 : ts_fm 123 60 = some (11, 7, 2) := by decide +kernel
theorem i123_4 : ts_ins 123 4 = some (.aload_n 0, 5, 0) := by decide +kernel
theorem i123_5 : ts_ins 123 5 = some (.getfield 56, 8, 0) := by decide +kernel
theorem g123_5 : ts_fm 123 56 = some (11, 6, 2) := by decide +kernel
theorem i123_8 : ts_ins 123 8 = some (.invokevirtual 316, 11, 0) := by decide +kernel
theorem g123_8 : ts_cal (ts_mc 123) 316 = some (0, 6, 1) := by decide +kernel
theorem i123_11 : ts_ins 123 11 = some (.aload_n 0, 12, 0) := by decide +kernel
theorem i123_12 : ts_ins 123 12 = some (.getfield 10, 15, 0) := by decide +kernel
theorem g123_12 : ts_fm 123 10 = some (11, 0, 2) := by decide +kernel
theorem i123_15 : ts_ins 123 15 = some (.getfield 296, 18, 0) := by decide +kernel
theorem g123_15 : ts_fm 123 296 = some (3, 1, 2) := by decide +kernel
theorem i123_18 : ts_ins 123 18 = some (.iconst 0, 19, 0) := by decide +kernel
theorem i123_19 : ts_ins 123 19 = some (.aload_n 0, 20, 0) := by decide +kernel
theorem i123_20 : ts_ins 123 20 = some (.getfield 63, 23, 0) := by decide +kernel
theorem g123_20 : ts_fm 123 63 = some (11, 8, 2) := by decide +kernel
theorem i123_23 : ts_ins 123 23 = some (.iconst 0, 24, 0) := by decide +kernel
theorem i123_24 : ts_ins 123 24 = some (.bipush 16, 26, 0) := by decide +kernel
theorem i123_26 : ts_ins 123 26 = some (.invokestatic 320, 29, 0) := by decide +kernel
theorem g123_26 : ts_cal (ts_mc 123) 320 = some (9, 0, 5) := by decide +kernel
theorem i123_29 : ts_ins 123 29 = some (.aload_n 0, 30, 0) := by decide +kernel
theorem i123_30 : ts_ins 123 30 = some (.iconst 1, 31, 0) := by decide +kernel
theorem i123_31 : ts_ins 123 31 = some (.putfield 67, 34, 0) := by decide +kernel
theorem g123_31 : ts_fmm 123 67 = some (11, 9, 1, false) := by decide +kernel
theorem i123_34 : ts_ins 123 34 = some (.aload_n 0, 35, 0) := by decide +kernel
theorem i123_35 : ts_ins 123 35 = some (.getfield 56, 38, 0) := by decide +kernel
theorem g123_35 : ts_fm 123 56 = some (11, 6, 2) := by decide +kernel
theorem i123_38 : ts_ins 123 38 = some (.getfield 286, 41, 0) := by decide +kernel
theorem g123_38 : ts_fm 123 286 = some (1, 0, 2) := by decide +kernel
theorem i123_41 : ts_ins 123 41 = some (.iconst 0, 42, 0) := by decide +kernel
theorem i123_42 : ts_ins 123 42 = some (.iaload, 43, 0) := by decide +kernel
theorem i123_43 : ts_ins 123 43 = some (.ireturn, 44, 0) := by decide +kernel
theorem r123 : ts_rt 123 = ((some .int), 0, 0) := by decide +kernel
theorem l123 : ts_ml 123 = 1 := by decide +kernel
theorem i124_0 : ts_ins 124 0 = some (.aload_n 0, 1, 0) := by decide +kernel
theorem i124_1 : ts_ins 124 1 = some (.getfield 67, 4, 0) := by decide +kernel
theorem g124_1 : ts_fm 124 67 = some (11, 9, 1) := by decide +kernel
theorem i124_4 : ts_ins 124 4 = some (.ifCond .ne 6, 7, 10) := by decide +kernel
theorem i124_7 : ts_ins 124 7 = some (.bipush (-5), 9, 0) := by decide +kernel
theorem i124_9 : ts_ins 124 9 = some (.ireturn, 10, 0) := by decide +kernel
theorem i124_10 : ts_ins 124 10 = some (.aload_n 0, 11, 0) := by decide +kernel
theorem i124_11 : ts_ins 124 11 = some (.getfield 56, 14, 0) := by decide +kernel
theorem g124_11 : ts_fm 124 56 = some (11, 6, 2) := by decide +kernel
theorem i124_14 : ts_ins 124 14 = some (.aload_n 0, 15, 0) := by decide +kernel
theorem i124_15 : ts_ins 124 15 = some (.getfield 60, 18, 0) := by decide +kernel
theorem g124_15 : ts_fm 124 60 = some (11, 7, 2) := by decide +kernel
theorem i124_18 : ts_ins 124 18 = some (.invokevirtual 316, 21, 0) := by decide +kernel
theorem g124_18 : ts_cal (ts_mc 124) 316 = some (0, 6, 1) := by decide +kernel
theorem i124_21 : ts_ins 124 21 = some (.aload_n 0, 22, 0) := by decide +kernel
theorem i124_22 : ts_ins 124 22 = some (.getfield 63, 25, 0) := by decide +kernel
theorem g124_22 : ts_fm 124 63 = some (11, 8, 2) := by decide +kernel
theorem i124_25 : ts_ins 124 25 = some (.iconst 0, 26, 0) := by decide +kernel
theorem i124_26 : ts_ins 124 26 = some (.aload_n 0, 27, 0) := by decide +kernel
theorem i124_27 : ts_ins 124 27 = some (.getfield 10, 30, 0) := by decide +kernel
theorem g124_27 : ts_fm 124 10 = some (11, 0, 2) := by decide +kernel
theorem i124_30 : ts_ins 124 30 = some (.getfield 296, 33, 0) := by decide +kernel
theorem g124_30 : ts_fm 124 296 = some (3, 1, 2) := by decide +kernel
theorem i124_33 : ts_ins 124 33 = some (.iconst 0, 34, 0) := by decide +kernel
theorem i124_34 : ts_ins 124 34 = some (.bipush 16, 36, 0) := by decide +kernel
theorem i124_36 : ts_ins 124 36 = some (.invokestatic 320, 39, 0) := by decide +kernel
theorem g124_36 : ts_cal (ts_mc 124) 320 = some (9, 0, 5) := by decide +kernel
theorem i124_39 : ts_ins 124 39 = some (.aload_n 0, 40, 0) := by decide +kernel
theorem i124_40 : ts_ins 124 40 = some (.getfield 56, 43, 0) := by decide +kernel
theorem g124_40 : ts_fm 124 56 = some (11, 6, 2) := by decide +kernel
theorem i124_43 : ts_ins 124 43 = some (.getfield 286, 46, 0) := by decide +kernel
theorem g124_43 : ts_fm 124 286 = some (1, 0, 2) := by decide +kernel
theorem i124_46 : ts_ins 124 46 = some (.iconst 0, 47, 0) := by decide +kernel
theorem i124_47 : ts_ins 124 47 = some (.iaload, 48, 0) := by decide +kernel
theorem i124_48 : ts_ins 124 48 = some (.ireturn, 49, 0) := by decide +kernel
theorem r124 : ts_rt 124 = ((some .int), 0, 0) := by decide +kernel
theorem l124 : ts_ml 124 = 1 := by decide +kernel
theorem i215_0 : ts_ins 215 0 = some (.aload_n 0, 1, 0) := by decide +kernel
theorem i215_1 : ts_ins 215 1 = some (.iconst 1, 2, 0) := by decide +kernel
theorem i215_2 : ts_ins 215 2 = some (.putfield 290, 5, 0) := by decide +kernel
theorem g215_2 : ts_fmm 215 290 = some (12, 28, 1, false) := by decide +kernel
theorem i215_5 : ts_ins 215 5 = some (.iconst 0, 6, 0) := by decide +kernel
theorem i215_6 : ts_ins 215 6 = some (.istore_n 1, 7, 0) := by decide +kernel
theorem i215_7 : ts_ins 215 7 = some (.iload_n 1, 8, 0) := by decide +kernel
theorem i215_8 : ts_ins 215 8 = some (.bipush 16, 10, 0) := by decide +kernel
theorem i215_10 : ts_ins 215 10 = some (.if_icmp .ge 24, 13, 34) := by decide +kernel
theorem i215_13 : ts_ins 215 13 = some (.aload_n 0, 14, 0) := by decide +kernel
theorem i215_14 : ts_ins 215 14 = some (.getfield 55, 17, 0) := by decide +kernel
theorem g215_14 : ts_fm 215 55 = some (12, 29, 2) := by decide +kernel
theorem i215_17 : ts_ins 215 17 = some (.iload_n 1, 18, 0) := by decide +kernel
theorem i215_18 : ts_ins 215 18 = some (.aload_n 0, 19, 0) := by decide +kernel
theorem i215_19 : ts_ins 215 19 = some (.getfield 9, 22, 0) := by decide +kernel
theorem g215_19 : ts_fm 215 9 = some (12, 0, 2) := by decide +kernel
theorem i215_22 : ts_ins 215 22 = some (.bipush 16, 24, 0) := by decide +kernel
theorem i215_24 : ts_ins 215 24 = some (.iload_n 1, 25, 0) := by decide +kernel
theorem i215_25 : ts_ins 215 25 = some (.iadd, 26, 0) := by decide +kernel
theorem i215_26 : ts_ins 215 26 = some (.iaload, 27, 0) := by decide +kernel
theorem i215_27 : ts_ins 215 27 = some (.iastore, 28, 0) := by decide +kernel
theorem i215_28 : ts_ins 215 28 = some (.iinc 1 1, 31, 0) := by decide +kernel
theorem i215_31 : ts_ins 215 31 = some (.goto (-24), 34, 7) := by decide +kernel
theorem i215_34 : ts_ins 215 34 = some (.iconst 0, 35, 0) := by decide +kernel
theorem i215_35 : ts_ins 215 35 = some (.istore_n 1, 36, 0) := by decide +kernel
theorem i215_36 : ts_ins 215 36 = some (.iload_n 1, 37, 0) := by decide +kernel
theorem i215_37 : ts_ins 215 37 = some (.iconst 5, 38, 0) := by decide +kernel
theorem i215_38 : ts_ins 215 38 = some (.if_icmp .ge 21, 41, 59) := by decide +kernel
theorem i215_41 : ts_ins 215 41 = some (.aload_n 0, 42, 0) := by decide +kernel
theorem i215_42 : ts_ins 215 42 = some (.getfield 58, 45, 0) := by decide +kernel
theorem g215_42 : ts_fm 215 58 = some (12, 30, 2) := by decide +kernel
theorem i215_45 : ts_ins 215 45 = some (.iload_n 1, 46, 0) := by decide +kernel
theorem i215_46 : ts_ins 215 46 = some (.aload_n 0, 47, 0) := by decide +kernel
theorem i215_47 : ts_ins 215 47 = some (.getfield 49, 50, 0) := by decide +kernel
theorem g215_47 : ts_fm 215 49 = some (12, 26, 2) := by decide +kernel
theorem i215_50 : ts_ins 215 50 = some (.iload_n 1, 51, 0) := by decide +kernel
theorem i215_51 : ts_ins 215 51 = some (.iaload, 52, 0) := by decide +kernel
theorem i215_52 : ts_ins 215 52 = some (.iastore, 53, 0) := by decide +kernel
theorem i215_53 : ts_ins 215 53 = some (.iinc 1 1, 56, 0) := by decide +kernel
theorem i215_56 : ts_ins 215 56 = some (.goto (-20), 59, 36) := by decide +kernel
theorem i215_59 : ts_ins 215 59 = some (.iconst 0, 60, 0) := by decide +kernel
theorem i215_60 : ts_ins 215 60 = some (.istore_n 1, 61, 0) := by decide +kernel
theorem i215_61 : ts_ins 215 61 = some (.iload_n 1, 62, 0) := by decide +kernel
theorem i215_62 : ts_ins 215 62 = some (.bipush 6, 64, 0) := by decide +kernel
theorem i215_64 : ts_ins 215 64 = some (.if_icmp .ge 21, 67, 85) := by decide +kernel
theorem i215_67 : ts_ins 215 67 = some (.aload_n 0, 68, 0) := by decide +kernel
theorem i215_68 : ts_ins 215 68 = some (.getfield 61, 71, 0) := by decide +kernel
theorem g215_68 : ts_fm 215 61 = some (12, 31, 2) := by decide +kernel
theorem i215_71 : ts_ins 215 71 = some (.iload_n 1, 72, 0) := by decide +kernel
theorem i215_72 : ts_ins 215 72 = some (.aload_n 0, 73, 0) := by decide +kernel
theorem i215_73 : ts_ins 215 73 = some (.getfield 52, 76, 0) := by decide +kernel
theorem g215_73 : ts_fm 215 52 = some (12, 27, 2) := by decide +kernel
theorem i215_76 : ts_ins 215 76 = some (.iload_n 1, 77, 0) := by decide +kernel
theorem i215_77 : ts_ins 215 77 = some (.iaload, 78, 0) := by decide +kernel
theorem i215_78 : ts_ins 215 78 = some (.iastore, 79, 0) := by decide +kernel
theorem i215_79 : ts_ins 215 79 = some (.iinc 1 1, 82, 0) := by decide +kernel
theorem i215_82 : ts_ins 215 82 = some (.goto (-21), 85, 61) := by decide +kernel
theorem i215_85 : ts_ins 215 85 = some (.aload_n 0, 86, 0) := by decide +kernel
theorem i215_86 : ts_ins 215 86 = some (.getfield 49, 89, 0) := by decide +kernel
theorem g215_86 : ts_fm 215 49 = some (12, 26, 2) := by decide +kernel
theorem i215_89 : ts_ins 215 89 = some (.iconst 0, 90, 0) := by decide +kernel
theorem i215_90 : ts_ins 215 90 = some (.iaload, 91, 0) := by decide +kernel
theorem i215_91 : ts_ins 215 91 = some (.ireturn, 92, 0) := by decide +kernel
theorem r215 : ts_rt 215 = ((some .int), 0, 0) := by decide +kernel
theorem l215 : ts_ml 215 = 2 := by decide +kernel
theorem i216_0 : ts_ins 216 0 = some (.aload_n 0, 1, 0) := by decide +kernel
theorem i216_1 : ts_ins 216 1 = some (.getfield 290, 4, 0) := by decide +kernel
theorem g216_1 : ts_fm 216 290 = some (12, 28, 1) := by decide +kernel
theorem i216_4 : ts_ins 216 4 = some (.ifCond .ne 6, 7, 10) := by decide +kernel
theorem i216_7 : ts_ins 216 7 = some (.bipush (-5), 9, 0) := by decide +kernel
theorem i216_9 : ts_ins 216 9 = some (.ireturn, 10, 0) := by decide +kernel
theorem i216_10 : ts_ins 216 10 = some (.iconst 0, 11, 0) := by decide +kernel
theorem i216_11 : ts_ins 216 11 = some (.istore_n 1, 12, 0) := by decide +kernel
theorem i216_12 : ts_ins 216 12 = some (.iload_n 1, 13, 0) := by decide +kernel
theorem i216_13 : ts_ins 216 13 = some (.bipush 16, 15, 0) := by decide +kernel
theorem i216_15 : ts_ins 216 15 = some (.if_icmp .ge 24, 18, 39) := by decide +kernel
theorem i216_18 : ts_ins 216 18 = some (.aload_n 0, 19, 0) := by decide +kernel
theorem i216_19 : ts_ins 216 19 = some (.getfield 9, 22, 0) := by decide +kernel
theorem g216_19 : ts_fm 216 9 = some (12, 0, 2) := by decide +kernel
theorem i216_22 : ts_ins 216 22 = some (.bipush 16, 24, 0) := by decide +kernel
theorem i216_24 : ts_ins 216 24 = some (.iload_n 1, 25, 0) := by decide +kernel
theorem i216_25 : ts_ins 216 25 = some (.iadd, 26, 0) := by decide +kernel
theorem i216_26 : ts_ins 216 26 = some (.aload_n 0, 27, 0) := by decide +kernel
theorem i216_27 : ts_ins 216 27 = some (.getfield 55, 30, 0) := by decide +kernel
theorem g216_27 : ts_fm 216 55 = some (12, 29, 2) := by decide +kernel
theorem i216_30 : ts_ins 216 30 = some (.iload_n 1, 31, 0) := by decide +kernel
theorem i216_31 : ts_ins 216 31 = some (.iaload, 32, 0) := by decide +kernel
theorem i216_32 : ts_ins 216 32 = some (.iastore, 33, 0) := by decide +kernel
theorem i216_33 : ts_ins 216 33 = some (.iinc 1 1, 36, 0) := by decide +kernel
theorem i216_36 : ts_ins 216 36 = some (.goto (-24), 39, 12) := by decide +kernel
theorem i216_39 : ts_ins 216 39 = some (.iconst 0, 40, 0) := by decide +kernel
theorem i216_40 : ts_ins 216 40 = some (.istore_n 1, 41, 0) := by decide +kernel
theorem i216_41 : ts_ins 216 41 = some (.iload_n 1, 42, 0) := by decide +kernel
theorem i216_42 : ts_ins 216 42 = some (.iconst 5, 43, 0) := by decide +kernel
theorem i216_43 : ts_ins 216 43 = some (.if_icmp .ge 21, 46, 64) := by decide +kernel
theorem i216_46 : ts_ins 216 46 = some (.aload_n 0, 47, 0) := by decide +kernel
theorem i216_47 : ts_ins 216 47 = some (.getfield 49, 50, 0) := by decide +kernel
theorem g216_47 : ts_fm 216 49 = some (12, 26, 2) := by decide +kernel
theorem i216_50 : ts_ins 216 50 = some (.iload_n 1, 51, 0) := by decide +kernel
theorem i216_51 : ts_ins 216 51 = some (.aload_n 0, 52, 0) := by decide +kernel
theorem i216_52 : ts_ins 216 52 = some (.getfield 58, 55, 0) := by decide +kernel
theorem g216_52 : ts_fm 216 58 = some (12, 30, 2) := by decide +kernel
theorem i216_55 : ts_ins 216 55 = some (.iload_n 1, 56, 0) := by decide +kernel
theorem i216_56 : ts_ins 216 56 = some (.iaload, 57, 0) := by decide +kernel
theorem i216_57 : ts_ins 216 57 = some (.iastore, 58, 0) := by decide +kernel
theorem i216_58 : ts_ins 216 58 = some (.iinc 1 1, 61, 0) := by decide +kernel
theorem i216_61 : ts_ins 216 61 = some (.goto (-20), 64, 41) := by decide +kernel
theorem i216_64 : ts_ins 216 64 = some (.iconst 0, 65, 0) := by decide +kernel
theorem i216_65 : ts_ins 216 65 = some (.istore_n 1, 66, 0) := by decide +kernel
theorem i216_66 : ts_ins 216 66 = some (.iload_n 1, 67, 0) := by decide +kernel
theorem i216_67 : ts_ins 216 67 = some (.bipush 6, 69, 0) := by decide +kernel
theorem i216_69 : ts_ins 216 69 = some (.if_icmp .ge 21, 72, 90) := by decide +kernel
theorem i216_72 : ts_ins 216 72 = some (.aload_n 0, 73, 0) := by decide +kernel
theorem i216_73 : ts_ins 216 73 = some (.getfield 52, 76, 0) := by decide +kernel
theorem g216_73 : ts_fm 216 52 = some (12, 27, 2) := by decide +kernel
theorem i216_76 : ts_ins 216 76 = some (.iload_n 1, 77, 0) := by decide +kernel
theorem i216_77 : ts_ins 216 77 = some (.aload_n 0, 78, 0) := by decide +kernel
theorem i216_78 : ts_ins 216 78 = some (.getfield 61, 81, 0) := by decide +kernel
theorem g216_78 : ts_fm 216 61 = some (12, 31, 2) := by decide +kernel
theorem i216_81 : ts_ins 216 81 = some (.iload_n 1, 82, 0) := by decide +kernel
theorem i216_82 : ts_ins 216 82 = some (.iaload, 83, 0) := by decide +kernel
theorem i216_83 : ts_ins 216 83 = some (.iastore, 84, 0) := by decide +kernel
theorem i216_84 : ts_ins 216 84 = some (.iinc 1 1, 87, 0) := by decide +kernel
theorem i216_87 : ts_ins 216 87 = some (.goto (-21), 90, 66) := by decide +kernel
theorem i216_90 : ts_ins 216 90 = some (.aload_n 0, 91, 0) := by decide +kernel
theorem i216_91 : ts_ins 216 91 = some (.getfield 49, 94, 0) := by decide +kernel
theorem g216_91 : ts_fm 216 49 = some (12, 26, 2) := by decide +kernel
theorem i216_94 : ts_ins 216 94 = some (.iconst 0, 95, 0) := by decide +kernel
theorem i216_95 : ts_ins 216 95 = some (.iaload, 96, 0) := by decide +kernel
theorem i216_96 : ts_ins 216 96 = some (.ireturn, 97, 0) := by decide +kernel
theorem r216 : ts_rt 216 = ((some .int), 0, 0) := by decide +kernel
theorem l216 : ts_ml 216 = 2 := by decide +kernel
/-! image, back -/
section IM
variable {X : ts_X} {I J : Nat → Nat → Int32} {L : Nat → Nat → Int64} {sw : Bool} {K : Option Value → ts_H → Prop} {d : Nat} {f : ts_Fl} {w : ts_Lw} {e : ts_De} {im : ts_Im} {B : Int}
theorem RX.allCorn (h : RX I f) {c : Int → Int} (hc : ar J 4 16 0 9 c) (q : fr fxk I J) : RX J (fs_corn f (fun p => if 0 ≤ p ∧ p < 16 then c p else f_corn f p)) := by
  have e : ∀ a, 2 ≤ a → a ≤ 18 → ¬ a = 4 → J a = I a := fun a a0 a1 a2 => fr_row q (fun k => by omega)
  refine ⟨?_, ?_, ?_, ar_co h.tone (e 3 (by decide) (by decide) (by decide)), ar_cg hc (fun p p0 p1 => ?_), ar_co h.stand (e 5 (by decide) (by decide) (by decide)), ar_co h.reach (e 6 (by decide) (by decide) (by decide)), ar_co h.arm (e 7 (by decide) (by decide) (by decide)), ar_co h.late (e 8 (by decide) (by decide) (by decide)), ar_co h.len (e 18 (by decide) (by decide) (by decide)), fun s h0 h1 => ar_co (h.say h0 h1) (e _ (by omega) (by omega) (by omega))⟩
  · rw [e 2 (by decide) (by decide) (by decide)]; exact h.men
  · rw [e 2 (by decide) (by decide) (by decide)]; exact h.told
  · rw [e 2 (by decide) (by decide) (by decide)]; exact h.road
  · show c p = if 0 ≤ p ∧ p < 16 then c p else f_corn f p
    rw [if_pos ⟨p0, p1⟩]
theorem x_copyOut (hD : RXd I B e) (hK : ∀ J, fr (fun a _ => a = 48 ∨ a = 49) I J → ar J 48 5 0 B e.1 → ar J 49 6 0 8 e.2 → K none (J, L, ts_P0 sw, ts_S0)) : ts_Cal X (d + 1) 6 [.ref 47, .ref 44] (I, L, ts_P0 sw, ts_S0) K := by
  refine ev_enter (lv := [.ref 47, .ref 44]) l6 rfl (Nat.le_of_ble_eq_true rfl) ?_
  refine ev_aloadn_1 i6_0 ?_
  refine ev_getA i6_1 g6_1 rfl rfl (by decide) ?_
  refine ew_iconst i6_4 ?_
  refine ev_aloadn_0 i6_5 ?_
  refine ev_getA i6_6 g6_6 rfl rfl (by decide) ?_
  refine ew_iconst i6_9 ?_
  refine ew_iconst i6_10 ?_
  refine ew_copyI i6_11 g6_11 rfl rfl (by omega) (by omega) (by omega) (by omega) (by omega) (Nat.le_of_ble_eq_true rfl) ?_
  refine ev_aloadn_1 i6_14 ?_
  refine ev_getA i6_15 g6_15 rfl rfl (by decide) ?_
  refine ew_iconst i6_18 ?_
  refine ev_aloadn_0 i6_19 ?_
  refine ev_getA i6_20 g6_20 rfl rfl (by decide) ?_
  refine ew_iconst i6_23 ?_
  refine ew_bipush i6_24 (by decide) ?_
  refine ew_copyI i6_26 g6_26 rfl rfl (by omega) (by omega) (by omega) (by omega) (by omega) (Nat.le_of_ble_eq_true rfl) ?_
  refine ev_return i6_29 r6 ?_
  exact hK _ (fr_cp (fr_cp (fr_rfl _ _) (fun k => by omega)) (fun k => by omega)) (ar_co (ar_cp (N := 5) hD.1 rfl) rfl) (ar_cp (N := 6) (ar_co hD.2 rfl) rfl)
theorem x_copyIn {n l : Int → Int} (h1 : ar I 48 5 0 B n) (h2 : ar I 49 6 0 8 l) (hK : ∀ J, fr (fun a _ => a = 45 ∨ a = 46) I J → RXd J B (n, l) → K none (J, L, ts_P0 sw, ts_S0)) : ts_Cal X (d + 1) 6 [.ref 44, .ref 47] (I, L, ts_P0 sw, ts_S0) K := by
  refine ev_enter (lv := [.ref 44, .ref 47]) l6 rfl (Nat.le_of_ble_eq_true rfl) ?_
  refine ev_aloadn_1 i6_0 ?_
  refine ev_getA i6_1 g6_1 rfl rfl (by decide) ?_
  refine ew_iconst i6_4 ?_
  refine ev_aloadn_0 i6_5 ?_
  refine ev_getA i6_6 g6_6 rfl rfl (by decide) ?_
  refine ew_iconst i6_9 ?_
  refine ew_iconst i6_10 ?_
  refine ew_copyI i6_11 g6_11 rfl rfl (by omega) (by omega) (by omega) (by omega) (by omega) (Nat.le_of_ble_eq_true rfl) ?_
  refine ev_aloadn_1 i6_14 ?_
  refine ev_getA i6_15 g6_15 rfl rfl (by decide) ?_
  refine ew_iconst i6_18 ?_
  refine ev_aloadn_0 i6_19 ?_
  refine ev_getA i6_20 g6_20 rfl rfl (by decide) ?_
  refine ew_iconst i6_23 ?_
  refine ew_bipush i6_24 (by decide) ?_
  refine ew_copyI i6_26 g6_26 rfl rfl (by omega) (by omega) (by omega) (by omega) (by omega) (Nat.le_of_ble_eq_true rfl) ?_
  refine ev_return i6_29 r6 ?_
  exact hK _ (fr_cp (fr_cp (fr_rfl _ _) (fun k => by omega)) (fun k => by omega)) ⟨ar_co (ar_cp (N := 5) h1 rfl) rfl, ar_cp (N := 6) (ar_co h2 rfl) rfl⟩
theorem x_image (hX : RX I f) (hD : RXd I B e) (hK : ∀ J, fr fxi I J → RXi J B (1, f_corn f, e) → K (some (.int (zI (e.1 0)))) (J, L, ts_P0 sw, ts_S0)) : ts_Cal X (d + 2) 123 [.ref 1] (I, L, ts_P0 sw, ts_S0) K := by
  refine ev_enter (lv := [.ref 1]) l123 rfl (Nat.le_of_ble_eq_true rfl) ?_
  refine ev_aloadn_0 i123_0 ?_
  refine ev_getA i123_1 g123_1 rfl rfl (by decide) ?_
  refine ev_aloadn_0 i123_4 ?_
  refine ev_getA i123_5 g123_5 rfl rfl (by decide) ?_
  refine ev_virt1 i123_8 g123_8 rfl (by decide +kernel) (Nat.le_of_ble_eq_true rfl) (x_copyOut hD (fun J h1 h2 h3 => ?_))
  refine ev_aloadn_0 i123_11 ?_
  refine ev_getA i123_12 g123_12 rfl rfl (by decide) ?_
  refine ev_getA i123_15 g123_15 rfl rfl (by decide) ?_
  refine ew_iconst i123_18 ?_
  refine ev_aloadn_0 i123_19 ?_
  refine ev_getA i123_20 g123_20 rfl rfl (by decide) ?_
  refine ew_iconst i123_23 ?_
  refine ew_bipush i123_24 (by decide) ?_
  refine ew_copyI i123_26 g123_26 rfl rfl (by omega) (by omega) (by omega) (by omega) (by omega) (Nat.le_of_ble_eq_true rfl) ?_
  refine ev_aloadn_0 i123_29 ?_
  refine ew_iconst i123_30 ?_
  refine ev_putZ i123_31 g123_31 rfl (by decide) ?_
  refine ev_aloadn_0 i123_34 ?_
  refine ev_getA i123_35 g123_35 rfl rfl (by decide) ?_
  refine ev_getA i123_38 g123_38 rfl rfl (by decide) ?_
  refine ew_iconst i123_41 ?_
  refine ew_iaload i123_42 rfl (by omega) (by omega) (by omega) ((by have q := hD.1 0 (by decide) (by decide); rw [← fr_row h1 (a := 45) (fun k => by omega)] at q; exact q)) (fun b42 => ?_)
  refine ev_ireturn i123_43 r123 ?_
  exact hK _ (fr_up (fr_cp (fr_mo h1 (fun a k q => by omega)) (fun k => by omega)) (by omega)) ⟨⟨rfl, (by decide : (0 : Int) ≤ 1), (by decide : (1 : Int) ≤ 1)⟩, ar_co (ar_cp (N := 16) (ar_co hX.corn (fr_row h1 (fun k => by omega))) rfl) rfl, ar_co h2 rfl, ar_co h3 rfl⟩
theorem x_back (hX : RX I f) (hD : RXd I B e) (hI : RXi I B im) (hK : ∀ J, fr fxk I J → RX J (g_backF f im) → RXd J B (g_backE e im) → K (some (.int (zI (g_backA im)))) (J, L, ts_P0 sw, ts_S0)) : ts_Cal X (d + 2) 124 [.ref 1] (I, L, ts_P0 sw, ts_S0) K := by
  have b1 := hI.1.2
  unfold g_backF g_backE g_backA at hK
  refine ev_enter (lv := [.ref 1]) l124 rfl (Nat.le_of_ble_eq_true rfl) ?_
  refine ev_aloadn_0 i124_0 ?_
  refine ew_getZ i124_1 g124_1 rfl (by first | exact hI.1 | exact hX.men | exact hX.told | exact hX.road | exact hX.tone _ (by omega) (by omega) | exact hX.corn _ (by omega) (by omega) | exact hX.stand _ (by omega) (by omega) | exact hX.reach _ (by omega) (by omega) | exact hX.arm _ (by omega) (by omega) | exact hX.late _ (by omega) (by omega) | exact hX.len _ (by omega) (by omega) | exact hX.say (by omega) (by omega) _ (by omega) (by omega)) (fun b1 => ?_)
  first
  | refine ew_ifneB i124_4 (fun c4 => ?_) (fun c4 => ?_)
  | refine ew_ifne i124_4 (by omega) (fun c4 => ?_) (fun c4 => ?_)
  · rw [if_pos (by omega), if_pos (by omega), if_pos (by omega)] at hK
    refine ev_aloadn_0 i124_10 ?_
    refine ev_getA i124_11 g124_11 rfl rfl (by decide) ?_
    refine ev_aloadn_0 i124_14 ?_
    refine ev_getA i124_15 g124_15 rfl rfl (by decide) ?_
    refine ev_virt1 i124_18 g124_18 rfl (by decide +kernel) (Nat.le_of_ble_eq_true rfl) (x_copyIn hI.2.2.1 hI.2.2.2 (fun J h1 h2 => ?_))
    refine ev_aloadn_0 i124_21 ?_
    refine ev_getA i124_22 g124_22 rfl rfl (by decide) ?_
    refine ew_iconst i124_25 ?_
    refine ev_aloadn_0 i124_26 ?_
    refine ev_getA i124_27 g124_27 rfl rfl (by decide) ?_
    refine ev_getA i124_30 g124_30 rfl rfl (by decide) ?_
    refine ew_iconst i124_33 ?_
    refine ew_bipush i124_34 (by decide) ?_
    refine ew_copyI i124_36 g124_36 rfl rfl (by omega) (by omega) (by omega) (by omega) (by omega) (Nat.le_of_ble_eq_true rfl) ?_
    refine ev_aloadn_0 i124_39 ?_
    refine ev_getA i124_40 g124_40 rfl rfl (by decide) ?_
    refine ev_getA i124_43 g124_43 rfl rfl (by decide) ?_
    refine ew_iconst i124_46 ?_
    refine ew_iaload i124_47 rfl (by omega) (by omega) (by omega) ((h2.1 0 (by decide) (by decide))) (fun b47 => ?_)
    refine ev_ireturn i124_48 r124 ?_
    have c1 : ar J 50 16 0 9 im.2.1 := ar_co hI.2.1 (fr_row h1 (fun k => by omega))
    have c2 := ar_cp (N := 16) (b := 4) c1 rfl
    have c3 : fr fxk I (ts_cp J 50 0 4 0 16) := fr_cp (fr_mo h1 (fun a k q => by omega)) (fun k => by omega)
    exact hK _ c3 (hX.allCorn c2 c3) ⟨ar_co h2.1 rfl, ar_co h2.2 rfl⟩
  · refine ew_bipush i124_7 (by decide) ?_
    refine ev_ireturn i124_9 r124 ?_
    rw [if_neg (by omega), if_neg (by omega), if_neg (by omega)] at hK
    exact hK I (fr_rfl _ _) hX hD
theorem m_image (hM : RM I f) (hD : RMd I B e) (hK : ∀ J, fr fmi I J → RMi J B (1, f_corn f, e) → K (some (.int (zI (e.1 0)))) (J, L, ts_P0 sw, ts_S0)) : ts_Cal X (d + 1) 215 [.ref 72] (I, L, ts_P0 sw, ts_S0) K := by
  have l3 : ∀ k : Int, 0 ≤ k → k ≤ 6 → ∀ J, fr fmi I J → rd (J 72 28) 0 1 1 → ar J 88 16 0 9 (f_corn f) → ar J 89 5 0 B e.1 → ar J 90 k 0 8 e.2 → ts_Ev X (ts_Cal X (d + 0)) 215 ts_S0 K 61 [.ref 72, .int (zI (k))] [] (J, L, ts_P0 sw, ts_S0) := by
    refine ts_ind 6 (fun k ih k0 k1 J hJ r1 r2 r3 r4 => ?_)
    have hDJ : RMd J B e := hD.co (fun a p0 p1 => fr_row hJ (fun k => by omega))
    refine ev_iloadn_1 i215_61 ?_
    refine ew_bipush i215_62 (by decide) ?_
    refine ew_icmpge i215_64 (by omega) (fun c64 => ?_) (fun c64 => ?_)
    · refine ev_aloadn_0 i215_85 ?_
      refine ev_getA i215_86 g215_86 rfl rfl (by decide) ?_
      refine ew_iconst i215_89 ?_
      refine ew_iaload i215_90 rfl (by omega) (by omega) (by omega) ((hDJ.1 0 (by decide) (by decide))) (fun b90 => ?_)
      refine ev_ireturn i215_91 r215 ?_
      obtain rfl : k = 6 := by omega
      exact hK J hJ ⟨r1, r2, r3, r4⟩
    · refine ev_aloadn_0 i215_67 ?_
      refine ev_getA i215_68 g215_68 rfl rfl (by decide) ?_
      refine ev_iloadn_1 i215_71 ?_
      refine ev_aloadn_0 i215_72 ?_
      refine ev_getA i215_73 g215_73 rfl rfl (by decide) ?_
      refine ev_iloadn_1 i215_76 ?_
      refine ew_iaload i215_77 rfl (by omega) (by omega) (by omega) ((hDJ.2 k k0 (by omega))) (fun b77 => ?_)
      refine ew_iastore i215_78 rfl (by omega) (by omega) (by omega) ?_
      refine ew_iinc_1 i215_79 rfl ?_
      refine ev_goto i215_82 ?_
      exact ih (by omega) (by omega) (by omega) _ (fr_up hJ (by omega)) r1 (ar_co r2 rfl) (ar_co r3 rfl) (ar_ext2 r4 k0 b77)
  have l2 : ∀ k : Int, 0 ≤ k → k ≤ 5 → ∀ J, fr fmi I J → rd (J 72 28) 0 1 1 → ar J 88 16 0 9 (f_corn f) → ar J 89 k 0 B e.1 → ts_Ev X (ts_Cal X (d + 0)) 215 ts_S0 K 36 [.ref 72, .int (zI (k))] [] (J, L, ts_P0 sw, ts_S0) := by
    refine ts_ind 5 (fun k ih k0 k1 J hJ r1 r2 r3 => ?_)
    have hDJ : RMd J B e := hD.co (fun a p0 p1 => fr_row hJ (fun k => by omega))
    refine ev_iloadn_1 i215_36 ?_
    refine ew_iconst i215_37 ?_
    refine ew_icmpge i215_38 (by omega) (fun c38 => ?_) (fun c38 => ?_)
    · refine ew_iconst i215_59 ?_
      refine ev_istoren_1 i215_60 rfl ?_
      obtain rfl : k = 5 := by omega
      exact l3 0 (by decide) (by decide) J hJ r1 r2 r3 (fun p p0 p1 => by omega)
    · refine ev_aloadn_0 i215_41 ?_
      refine ev_getA i215_42 g215_42 rfl rfl (by decide) ?_
      refine ev_iloadn_1 i215_45 ?_
      refine ev_aloadn_0 i215_46 ?_
      refine ev_getA i215_47 g215_47 rfl rfl (by decide) ?_
      refine ev_iloadn_1 i215_50 ?_
      refine ew_iaload i215_51 rfl (by omega) (by omega) (by omega) ((hDJ.1 k k0 (by omega))) (fun b51 => ?_)
      refine ew_iastore i215_52 rfl (by omega) (by omega) (by omega) ?_
      refine ew_iinc_1 i215_53 rfl ?_
      refine ev_goto i215_56 ?_
      exact ih (by omega) (by omega) (by omega) _ (fr_up hJ (by omega)) r1 (ar_co r2 rfl) (ar_ext2 r3 k0 b51)
  have l1 : ∀ k : Int, 0 ≤ k → k ≤ 16 → ∀ J, fr fmi I J → rd (J 72 28) 0 1 1 → ar J 88 k 0 9 (f_corn f) → ts_Ev X (ts_Cal X (d + 0)) 215 ts_S0 K 7 [.ref 72, .int (zI (k))] [] (J, L, ts_P0 sw, ts_S0) := by
    refine ts_ind 16 (fun k ih k0 k1 J hJ r1 r2 => ?_)
    have hMJ : RM J f := hM.co72 (fr_row hJ (fun k => by omega)) (fr_row hJ (fun k => by omega)) (hJ 72 6 (by omega)) (hJ 72 7 (by omega))
    refine ev_iloadn_1 i215_7 ?_
    refine ew_bipush i215_8 (by decide) ?_
    refine ew_icmpge i215_10 (by omega) (fun c10 => ?_) (fun c10 => ?_)
    · refine ew_iconst i215_34 ?_
      refine ev_istoren_1 i215_35 rfl ?_
      obtain rfl : k = 16 := by omega
      exact l2 0 (by decide) (by decide) J hJ r1 r2 (fun p p0 p1 => by omega)
    · refine ev_aloadn_0 i215_13 ?_
      refine ev_getA i215_14 g215_14 rfl rfl (by decide) ?_
      refine ev_iloadn_1 i215_17 ?_
      refine ev_aloadn_0 i215_18 ?_
      refine ev_getA i215_19 g215_19 rfl rfl (by decide) ?_
      refine ew_bipush i215_22 (by decide) ?_
      refine ev_iloadn_1 i215_24 ?_
      refine ew_iadd i215_25 ?_
      refine ew_iaload i215_26 rfl (by omega) (by omega) (by omega) ((hMJ.corn k k0 (by omega))) (fun b26 => ?_)
      refine ew_iastore i215_27 rfl (by omega) (by omega) (by omega) ?_
      refine ew_iinc_1 i215_28 rfl ?_
      refine ev_goto i215_31 ?_
      exact ih (by omega) (by omega) (by omega) _ (fr_up hJ (by omega)) r1 (ar_ext2 r2 k0 b26)
  refine ev_enter (lv := [.ref 72, .null]) l215 rfl (Nat.le_of_ble_eq_true rfl) ?_
  refine ev_aloadn_0 i215_0 ?_
  refine ew_iconst i215_1 ?_
  refine ev_putZ i215_2 g215_2 rfl (by decide) ?_
  refine ew_iconst i215_5 ?_
  refine ev_istoren_1 i215_6 rfl ?_
  exact l1 0 (by decide) (by decide) _ (fr_up (fr_rfl _ _) (by omega)) ⟨rfl, by decide, by decide⟩ (fun p p0 p1 => by omega)
theorem m_back (hM : RM I f) (hD : RMd I B e) (hI : RMi I B im) (hK : ∀ J, fr fmk I J → RM J (g_backF f im) → RMd J B (g_backE e im) → K (some (.int (zI (g_backA im)))) (J, L, ts_P0 sw, ts_S0)) : ts_Cal X (d + 1) 216 [.ref 72] (I, L, ts_P0 sw, ts_S0) K := by
  have b1 := hI.1.2
  unfold g_backF g_backE g_backA at hK
  by_cases h1 : im.1 = 1
  · rw [if_pos h1, if_pos h1, if_pos h1] at hK
    have l3 : ∀ k : Int, 0 ≤ k → k ≤ 6 → ∀ J, fr fmk I J → RM J (fs_corn f (fun p => if 0 ≤ p ∧ p < 16 then im.2.1 p else f_corn f p)) → ar J 86 5 0 B im.2.2.1 → ar J 87 k 0 8 im.2.2.2 → ts_Ev X (ts_Cal X (d + 0)) 216 ts_S0 K 66 [.ref 72, .int (zI (k))] [] (J, L, ts_P0 sw, ts_S0) := by
      refine ts_ind 6 (fun k ih k0 k1 J hJ r2 r3 r4 => ?_)
      have hIJ : RMi J B im := hI.co (hJ 72 28 (by omega)) (fun a p0 p1 => fr_row hJ (fun k => by omega))
      refine ev_iloadn_1 i216_66 ?_
      refine ew_bipush i216_67 (by decide) ?_
      refine ew_icmpge i216_69 (by omega) (fun c69 => ?_) (fun c69 => ?_)
      · refine ev_aloadn_0 i216_90 ?_
        refine ev_getA i216_91 g216_91 rfl rfl (by decide) ?_
        refine ew_iconst i216_94 ?_
        refine ew_iaload i216_95 rfl (by omega) (by omega) (by omega) ((r3 0 (by decide) (by decide))) (fun b95 => ?_)
        refine ev_ireturn i216_96 r216 ?_
        obtain rfl : k = 6 := by omega
        exact hK J hJ r2 ⟨r3, r4⟩
      · refine ev_aloadn_0 i216_72 ?_
        refine ev_getA i216_73 g216_73 rfl rfl (by decide) ?_
        refine ev_iloadn_1 i216_76 ?_
        refine ev_aloadn_0 i216_77 ?_
        refine ev_getA i216_78 g216_78 rfl rfl (by decide) ?_
        refine ev_iloadn_1 i216_81 ?_
        refine ew_iaload i216_82 rfl (by omega) (by omega) (by omega) ((hIJ.2.2.2 k k0 (by omega))) (fun b82 => ?_)
        refine ew_iastore i216_83 rfl (by omega) (by omega) (by omega) ?_
        refine ew_iinc_1 i216_84 rfl ?_
        refine ev_goto i216_87 ?_
        exact ih (by omega) (by omega) (by omega) _ (fr_up hJ (by omega)) (r2.co72 rfl rfl rfl rfl) (ar_co r3 rfl) (ar_ext2 r4 k0 b82)
    have l2 : ∀ k : Int, 0 ≤ k → k ≤ 5 → ∀ J, fr fmk I J → RM J (fs_corn f (fun p => if 0 ≤ p ∧ p < 16 then im.2.1 p else f_corn f p)) → ar J 86 k 0 B im.2.2.1 → ts_Ev X (ts_Cal X (d + 0)) 216 ts_S0 K 41 [.ref 72, .int (zI (k))] [] (J, L, ts_P0 sw, ts_S0) := by
      refine ts_ind 5 (fun k ih k0 k1 J hJ r2 r3 => ?_)
      have hIJ : RMi J B im := hI.co (hJ 72 28 (by omega)) (fun a p0 p1 => fr_row hJ (fun k => by omega))
      refine ev_iloadn_1 i216_41 ?_
      refine ew_iconst i216_42 ?_
      refine ew_icmpge i216_43 (by omega) (fun c43 => ?_) (fun c43 => ?_)
      · refine ew_iconst i216_64 ?_
        refine ev_istoren_1 i216_65 rfl ?_
        obtain rfl : k = 5 := by omega
        exact l3 0 (by decide) (by decide) J hJ r2 r3 (fun p p0 p1 => by omega)
      · refine ev_aloadn_0 i216_46 ?_
        refine ev_getA i216_47 g216_47 rfl rfl (by decide) ?_
        refine ev_iloadn_1 i216_50 ?_
        refine ev_aloadn_0 i216_51 ?_
        refine ev_getA i216_52 g216_52 rfl rfl (by decide) ?_
        refine ev_iloadn_1 i216_55 ?_
        refine ew_iaload i216_56 rfl (by omega) (by omega) (by omega) ((hIJ.2.2.1 k k0 (by omega))) (fun b56 => ?_)
        refine ew_iastore i216_57 rfl (by omega) (by omega) (by omega) ?_
        refine ew_iinc_1 i216_58 rfl ?_
        refine ev_goto i216_61 ?_
        exact ih (by omega) (by omega) (by omega) _ (fr_up hJ (by omega)) (r2.co72 rfl rfl rfl rfl) (ar_ext2 r3 k0 b56)
    have l1 : ∀ k : Int, 0 ≤ k → k ≤ 16 → ∀ J, fr fmk I J → RM J (fs_corn f (fun p => if 0 ≤ p ∧ p < k then im.2.1 p else f_corn f p)) → ts_Ev X (ts_Cal X (d + 0)) 216 ts_S0 K 12 [.ref 72, .int (zI (k))] [] (J, L, ts_P0 sw, ts_S0) := by
      refine ts_ind 16 (fun k ih k0 k1 J hJ r2 => ?_)
      have hIJ : RMi J B im := hI.co (hJ 72 28 (by omega)) (fun a p0 p1 => fr_row hJ (fun k => by omega))
      refine ev_iloadn_1 i216_12 ?_
      refine ew_bipush i216_13 (by decide) ?_
      refine ew_icmpge i216_15 (by omega) (fun c15 => ?_) (fun c15 => ?_)
      · refine ew_iconst i216_39 ?_
        refine ev_istoren_1 i216_40 rfl ?_
        obtain rfl : k = 16 := by omega
        exact l2 0 (by decide) (by decide) J hJ r2 (fun p p0 p1 => by omega)
      · refine ev_aloadn_0 i216_18 ?_
        refine ev_getA i216_19 g216_19 rfl rfl (by decide) ?_
        refine ew_bipush i216_22 (by decide) ?_
        refine ev_iloadn_1 i216_24 ?_
        refine ew_iadd i216_25 ?_
        refine ev_aloadn_0 i216_26 ?_
        refine ev_getA i216_27 g216_27 rfl rfl (by decide) ?_
        refine ev_iloadn_1 i216_30 ?_
        refine ew_iaload i216_31 rfl (by omega) (by omega) (by omega) ((hIJ.2.1 k k0 (by omega))) (fun b31 => ?_)
        refine ew_iastore i216_32 rfl (by omega) (by omega) (by omega) ?_
        refine ew_iinc_1 i216_33 rfl ?_
        refine ev_goto i216_36 ?_
        have s1 := r2.sCorn (p := k) (v := im.2.1 k) (by omega) b31
        have e2 : zu (fun p => if 0 ≤ p ∧ p < k then im.2.1 p else f_corn f p) k (im.2.1 k) = (fun p => if 0 ≤ p ∧ p < k + 1 then im.2.1 p else f_corn f p) := by
          funext p
          unfold zu
          by_cases c : p = k
          · rw [if_pos c, if_pos (by omega), c]
          · rw [if_neg c]
            dsimp only
            by_cases c2 : 0 ≤ p ∧ p < k
            · rw [if_pos c2, if_pos (by omega)]
            · rw [if_neg c2, if_neg (by omega)]
        have s2 : RM _ (fs_corn f (zu (fun p => if 0 ≤ p ∧ p < k then im.2.1 p else f_corn f p) k (im.2.1 k))) := s1
        rw [e2] at s2
        exact ih (by omega) (by omega) (by omega) _ (fr_up hJ (by omega)) s2
    refine ev_enter (lv := [.ref 72, .null]) l216 rfl (Nat.le_of_ble_eq_true rfl) ?_
    refine ev_aloadn_0 i216_0 ?_
    refine ew_getZ i216_1 g216_1 rfl (by first | exact hI.1 | exact hM.men | exact hM.told | exact hM.road | exact hM.stand _ (by omega) (by omega) | exact hM.reach _ (by omega) (by omega) | exact hM.arm _ (by omega) (by omega) | exact hM.late _ (by omega) (by omega) | exact hM.len _ (by omega) (by omega) | exact hM.corn _ (by omega) (by omega) | exact hM.say (by omega) (by omega) _ (by omega) (by omega) | exact hM.tone _ (by omega) (by omega)) (fun b1 => ?_)
    first
    | refine ew_ifneB i216_4 (fun c4 => ?_) (fun c4 => ?_)
    | refine ew_ifne i216_4 (by omega) (fun c4 => ?_) (fun c4 => ?_)
    · refine ew_iconst i216_10 ?_
      refine ev_istoren_1 i216_11 rfl ?_
      refine l1 0 (by decide) (by decide) I (fr_rfl _ _) ?_
      have e3 : (fun p => if 0 ≤ p ∧ p < 0 then im.2.1 p else f_corn f p) = f_corn f := funext fun p => if_neg (by omega)
      rw [e3]
      exact hM
    · refine ew_bipush i216_7 (by decide) ?_
      refine ev_ireturn i216_9 r216 ?_
      exfalso; omega
  · rw [if_neg h1, if_neg h1, if_neg h1] at hK
    refine ev_enter (lv := [.ref 72, .null]) l216 rfl (Nat.le_of_ble_eq_true rfl) ?_
    refine ev_aloadn_0 i216_0 ?_
    refine ew_getZ i216_1 g216_1 rfl (by first | exact hI.1 | exact hM.men | exact hM.told | exact hM.road | exact hM.stand _ (by omega) (by omega) | exact hM.reach _ (by omega) (by omega) | exact hM.arm _ (by omega) (by omega) | exact hM.late _ (by omega) (by omega) | exact hM.len _ (by omega) (by omega) | exact hM.corn _ (by omega) (by omega) | exact hM.say (by omega) (by omega) _ (by omega) (by omega) | exact hM.tone _ (by omega) (by omega)) (fun b1 => ?_)
    first
    | refine ew_ifneB i216_4 (fun c4 => ?_) (fun c4 => ?_)
    | refine ew_ifne i216_4 (by omega) (fun c4 => ?_) (fun c4 => ?_)
    · refine ew_iconst i216_10 ?_
      refine ev_istoren_1 i216_11 rfl ?_
      exfalso; omega
    · refine ew_bipush i216_7 (by decide) ?_
      refine ev_ireturn i216_9 r216 ?_
      exact hK I (fr_rfl _ _) hM hD
end IM
