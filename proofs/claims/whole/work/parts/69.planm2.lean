theorem i180_0 : ts_ins 180 0 = some (.aload_n 0, 1, 0) := by decide +kernel
theorem i180_1 : ts_ins 180 1 = some (.iload_n 1, 2, 0) := by decide +kernel
theorem i180_2 : ts_ins 180 2 = some (.invokevirtual 115, 5, 0) := by decide +kernel
theorem g180_2 : ts_cal (ts_mc 180) 115 = some (0, 153, 1) := by decide +kernel
theorem i180_5 : ts_ins 180 5 = some (.iconst (-1), 6, 0) := by decide +kernel
theorem i180_6 : ts_ins 180 6 = some (.if_icmp .eq 15, 9, 21) := by decide +kernel
theorem i180_9 : ts_ins 180 9 = some (.iload_n 2, 10, 0) := by decide +kernel
theorem i180_10 : ts_ins 180 10 = some (.i2l, 11, 0) := by decide +kernel
theorem i180_11 : ts_ins 180 11 = some (.lconst 0, 12, 0) := by decide +kernel
theorem i180_12 : ts_ins 180 12 = some (.ldc2_w 220, 15, 0) := by decide +kernel
theorem g180_12 : ts_lc (ts_mc 180) 220 = some (.long (4)) := by decide +kernel
theorem i180_15 : ts_ins 180 15 = some (.invokestatic 95, 18, 0) := by decide +kernel
theorem g180_15 : ts_cal (ts_mc 180) 95 = some (1, 143, 3) := by decide +kernel
theorem i180_18 : ts_ins 180 18 = some (.ifCond .ne 5, 21, 23) := by decide +kernel
theorem i180_21 : ts_ins 180 21 = some (.iconst (-1), 22, 0) := by decide +kernel
theorem i180_22 : ts_ins 180 22 = some (.ireturn, 23, 0) := by decide +kernel
theorem i180_23 : ts_ins 180 23 = some (.aload_n 0, 24, 0) := by decide +kernel
theorem i180_24 : ts_ins 180 24 = some (.iload_n 1, 25, 0) := by decide +kernel
theorem i180_25 : ts_ins 180 25 = some (.invokevirtual 115, 28, 0) := by decide +kernel
theorem g180_25 : ts_cal (ts_mc 180) 115 = some (0, 153, 1) := by decide +kernel
theorem i180_28 : ts_ins 180 28 = some (.ifCond .ge 9, 31, 37) := by decide +kernel
theorem i180_31 : ts_ins 180 31 = some (.aload_n 0, 32, 0) := by decide +kernel
theorem i180_32 : ts_ins 180 32 = some (.iload_n 1, 33, 0) := by decide +kernel
theorem i180_33 : ts_ins 180 33 = some (.invokevirtual 115, 36, 0) := by decide +kernel
theorem g180_33 : ts_cal (ts_mc 180) 115 = some (0, 153, 1) := by decide +kernel
theorem i180_36 : ts_ins 180 36 = some (.ireturn, 37, 0) := by decide +kernel
theorem i180_37 : ts_ins 180 37 = some (.aload_n 0, 38, 0) := by decide +kernel
theorem i180_38 : ts_ins 180 38 = some (.iload_n 1, 39, 0) := by decide +kernel
theorem i180_39 : ts_ins 180 39 = some (.invokevirtual 222, 42, 0) := by decide +kernel
theorem g180_39 : ts_cal (ts_mc 180) 222 = some (0, 178, 1) := by decide +kernel
theorem i180_42 : ts_ins 180 42 = some (.iconst 0, 43, 0) := by decide +kernel
theorem i180_43 : ts_ins 180 43 = some (.istore_n 3, 44, 0) := by decide +kernel
theorem i180_44 : ts_ins 180 44 = some (.iconst 0, 45, 0) := by decide +kernel
theorem i180_45 : ts_ins 180 45 = some (.istore 4, 47, 0) := by decide +kernel
theorem i180_47 : ts_ins 180 47 = some (.iload 4, 49, 0) := by decide +kernel
theorem i180_49 : ts_ins 180 49 = some (.aload_n 0, 50, 0) := by decide +kernel
theorem i180_50 : ts_ins 180 50 = some (.getfield 208, 53, 0) := by decide +kernel
theorem g180_50 : ts_fm 180 208 = some (12, 22, 0) := by decide +kernel
theorem i180_53 : ts_ins 180 53 = some (.if_icmp .ge 27, 56, 80) := by decide +kernel
theorem i180_56 : ts_ins 180 56 = some (.iload_n 3, 57, 0) := by decide +kernel
theorem i180_57 : ts_ins 180 57 = some (.aload_n 0, 58, 0) := by decide +kernel
theorem i180_58 : ts_ins 180 58 = some (.getfield 37, 61, 0) := by decide +kernel
theorem g180_58 : ts_fm 180 37 = some (12, 20, 2) := by decide +kernel
theorem i180_61 : ts_ins 180 61 = some (.iload 4, 63, 0) := by decide +kernel
theorem i180_63 : ts_ins 180 63 = some (.iaload, 64, 0) := by decide +kernel
theorem i180_64 : ts_ins 180 64 = some (.ifCond .lt 7, 67, 71) := by decide +kernel
theorem i180_67 : ts_ins 180 67 = some (.iconst 1, 68, 0) := by decide +kernel
theorem i180_68 : ts_ins 180 68 = some (.goto 4, 71, 72) := by decide +kernel
theorem i180_71 : ts_ins 180 71 = some (.iconst 0, 72, 0) := by decide +kernel
theorem i180_72 : ts_ins 180 72 = some (.iadd, 73, 0) := by decide +kernel
theorem i180_73 : ts_ins 180 73 = some (.istore_n 3, 74, 0) := by decide +kernel
theorem i180_74 : ts_ins 180 74 = some (.iinc 4 1, 77, 0) := by decide +kernel
theorem i180_77 : ts_ins 180 77 = some (.goto (-30), 80, 47) := by decide +kernel
theorem i180_80 : ts_ins 180 80 = some (.iconst 0, 81, 0) := by decide +kernel
theorem i180_81 : ts_ins 180 81 = some (.istore 4, 83, 0) := by decide +kernel
theorem i180_83 : ts_ins 180 83 = some (.iconst 0, 84, 0) := by decide +kernel
theorem i180_84 : ts_ins 180 84 = some (.istore 5, 86, 0) := by decide +kernel
theorem i180_86 : ts_ins 180 86 = some (.iload 5, 88, 0) := by decide +kernel
theorem i180_88 : ts_ins 180 88 = some (.aload_n 0, 89, 0) := by decide +kernel
theorem i180_89 : ts_ins 180 89 = some (.getfield 102, 92, 0) := by decide +kernel
theorem g180_89 : ts_fm 180 102 = some (12, 7, 0) := by decide +kernel
theorem i180_92 : ts_ins 180 92 = some (.if_icmp .ge 31, 95, 123) := by decide +kernel
theorem i180_95 : ts_ins 180 95 = some (.iload 4, 97, 0) := by decide +kernel
theorem i180_97 : ts_ins 180 97 = some (.aload_n 0, 98, 0) := by decide +kernel
theorem i180_98 : ts_ins 180 98 = some (.iload 5, 100, 0) := by decide +kernel
theorem i180_100 : ts_ins 180 100 = some (.invokevirtual 226, 103, 0) := by decide +kernel
theorem g180_100 : ts_cal (ts_mc 180) 226 = some (0, 179, 1) := by decide +kernel
theorem i180_103 : ts_ins 180 103 = some (.ifCond .lt 10, 106, 113) := by decide +kernel
theorem i180_106 : ts_ins 180 106 = some (.iconst 1, 107, 0) := by decide +kernel
theorem i180_107 : ts_ins 180 107 = some (.iload 5, 109, 0) := by decide +kernel
theorem i180_109 : ts_ins 180 109 = some (.ishl, 110, 0) := by decide +kernel
theorem i180_110 : ts_ins 180 110 = some (.goto 4, 113, 114) := by decide +kernel
theorem i180_113 : ts_ins 180 113 = some (.iconst 0, 114, 0) := by decide +kernel
theorem i180_114 : ts_ins 180 114 = some (.ior, 115, 0) := by decide +kernel
theorem i180_115 : ts_ins 180 115 = some (.istore 4, 117, 0) := by decide +kernel
theorem i180_117 : ts_ins 180 117 = some (.iinc 5 1, 120, 0) := by decide +kernel
theorem i180_120 : ts_ins 180 120 = some (.goto (-34), 123, 86) := by decide +kernel
theorem i180_123 : ts_ins 180 123 = some (.bipush (-2), 125, 0) := by decide +kernel
theorem i180_125 : ts_ins 180 125 = some (.istore 5, 127, 0) := by decide +kernel
theorem i180_127 : ts_ins 180 127 = some (.aload_n 0, 128, 0) := by decide +kernel
theorem i180_128 : ts_ins 180 128 = some (.getfield 208, 131, 0) := by decide +kernel
theorem g180_128 : ts_fm 180 208 = some (12, 22, 0) := by decide +kernel
theorem i180_131 : ts_ins 180 131 = some (.istore 6, 133, 0) := by decide +kernel
theorem i180_133 : ts_ins 180 133 = some (.iload 6, 135, 0) := by decide +kernel
theorem i180_135 : ts_ins 180 135 = some (.ifCond .lt 28, 138, 163) := by decide +kernel
theorem i180_138 : ts_ins 180 138 = some (.aload_n 0, 139, 0) := by decide +kernel
theorem i180_139 : ts_ins 180 139 = some (.getfield 40, 142, 0) := by decide +kernel
theorem g180_139 : ts_fm 180 40 = some (12, 21, 2) := by decide +kernel
theorem i180_142 : ts_ins 180 142 = some (.iload 6, 144, 0) := by decide +kernel
theorem i180_144 : ts_ins 180 144 = some (.iaload, 145, 0) := by decide +kernel
theorem i180_145 : ts_ins 180 145 = some (.ifCond .ne 8, 148, 153) := by decide +kernel
theorem i180_148 : ts_ins 180 148 = some (.iload 6, 150, 0) := by decide +kernel
theorem i180_150 : ts_ins 180 150 = some (.goto 5, 153, 155) := by decide +kernel
theorem i180_153 : ts_ins 180 153 = some (.iload 5, 155, 0) := by decide +kernel
theorem i180_155 : ts_ins 180 155 = some (.istore 5, 157, 0) := by decide +kernel
theorem i180_157 : ts_ins 180 157 = some (.iinc 6 (-1), 160, 0) := by decide +kernel
theorem i180_160 : ts_ins 180 160 = some (.goto (-27), 163, 133) := by decide +kernel
theorem i180_163 : ts_ins 180 163 = some (.iload_n 2, 164, 0) := by decide +kernel
theorem i180_164 : ts_ins 180 164 = some (.tableswitch 52 0 3 #[32, 37, 39, 49], 196, 0) := by decide +kernel
theorem i180_196 : ts_ins 180 196 = some (.aload_n 0, 197, 0) := by decide +kernel
theorem i180_197 : ts_ins 180 197 = some (.getfield 208, 200, 0) := by decide +kernel
theorem g180_197 : ts_fm 180 208 = some (12, 22, 0) := by decide +kernel
theorem i180_200 : ts_ins 180 200 = some (.ireturn, 201, 0) := by decide +kernel
theorem i180_201 : ts_ins 180 201 = some (.iload_n 3, 202, 0) := by decide +kernel
theorem i180_202 : ts_ins 180 202 = some (.ireturn, 203, 0) := by decide +kernel
theorem i180_203 : ts_ins 180 203 = some (.aload_n 0, 204, 0) := by decide +kernel
theorem i180_204 : ts_ins 180 204 = some (.getfield 40, 207, 0) := by decide +kernel
theorem g180_204 : ts_fm 180 40 = some (12, 21, 2) := by decide +kernel
theorem i180_207 : ts_ins 180 207 = some (.aload_n 0, 208, 0) := by decide +kernel
theorem i180_208 : ts_ins 180 208 = some (.getfield 208, 211, 0) := by decide +kernel
theorem g180_208 : ts_fm 180 208 = some (12, 22, 0) := by decide +kernel
theorem i180_211 : ts_ins 180 211 = some (.iaload, 212, 0) := by decide +kernel
theorem i180_212 : ts_ins 180 212 = some (.ireturn, 213, 0) := by decide +kernel
theorem i180_213 : ts_ins 180 213 = some (.iload 5, 215, 0) := by decide +kernel
theorem i180_215 : ts_ins 180 215 = some (.ireturn, 216, 0) := by decide +kernel
theorem i180_216 : ts_ins 180 216 = some (.iload 4, 218, 0) := by decide +kernel
theorem i180_218 : ts_ins 180 218 = some (.ireturn, 219, 0) := by decide +kernel
theorem r180 : ts_rt 180 = ((some .int), 0, 0) := by decide +kernel
theorem l180 : ts_ml 180 = 7 := by decide +kernel
theorem i181_0 : ts_ins 181 0 = some (.aload_n 0, 1, 0) := by decide +kernel
theorem i181_1 : ts_ins 181 1 = some (.iload_n 1, 2, 0) := by decide +kernel
theorem i181_2 : ts_ins 181 2 = some (.invokevirtual 115, 5, 0) := by decide +kernel
theorem g181_2 : ts_cal (ts_mc 181) 115 = some (0, 153, 1) := by decide +kernel
theorem i181_5 : ts_ins 181 5 = some (.iconst (-1), 6, 0) := by decide +kernel
theorem i181_6 : ts_ins 181 6 = some (.if_icmp .eq 7, 9, 13) := by decide +kernel
theorem i181_9 : ts_ins 181 9 = some (.iload_n 2, 10, 0) := by decide +kernel
theorem i181_10 : ts_ins 181 10 = some (.ifCond .ge 5, 13, 15) := by decide +kernel
theorem i181_13 : ts_ins 181 13 = some (.iconst (-1), 14, 0) := by decide +kernel
theorem i181_14 : ts_ins 181 14 = some (.ireturn, 15, 0) := by decide +kernel
theorem i181_15 : ts_ins 181 15 = some (.aload_n 0, 16, 0) := by decide +kernel
theorem i181_16 : ts_ins 181 16 = some (.iload_n 1, 17, 0) := by decide +kernel
theorem i181_17 : ts_ins 181 17 = some (.invokevirtual 115, 20, 0) := by decide +kernel
theorem g181_17 : ts_cal (ts_mc 181) 115 = some (0, 153, 1) := by decide +kernel
theorem i181_20 : ts_ins 181 20 = some (.ifCond .ge 9, 23, 29) := by decide +kernel
theorem i181_23 : ts_ins 181 23 = some (.aload_n 0, 24, 0) := by decide +kernel
theorem i181_24 : ts_ins 181 24 = some (.iload_n 1, 25, 0) := by decide +kernel
theorem i181_25 : ts_ins 181 25 = some (.invokevirtual 115, 28, 0) := by decide +kernel
theorem g181_25 : ts_cal (ts_mc 181) 115 = some (0, 153, 1) := by decide +kernel
theorem i181_28 : ts_ins 181 28 = some (.ireturn, 29, 0) := by decide +kernel
theorem i181_29 : ts_ins 181 29 = some (.aload_n 0, 30, 0) := by decide +kernel
theorem i181_30 : ts_ins 181 30 = some (.iload_n 1, 31, 0) := by decide +kernel
theorem i181_31 : ts_ins 181 31 = some (.invokevirtual 222, 34, 0) := by decide +kernel
theorem g181_31 : ts_cal (ts_mc 181) 222 = some (0, 178, 1) := by decide +kernel
theorem i181_34 : ts_ins 181 34 = some (.iload_n 2, 35, 0) := by decide +kernel
theorem i181_35 : ts_ins 181 35 = some (.aload_n 0, 36, 0) := by decide +kernel
theorem i181_36 : ts_ins 181 36 = some (.getfield 208, 39, 0) := by decide +kernel
theorem g181_36 : ts_fm 181 208 = some (12, 22, 0) := by decide +kernel
theorem i181_39 : ts_ins 181 39 = some (.if_icmp .ge 12, 42, 51) := by decide +kernel
theorem i181_42 : ts_ins 181 42 = some (.aload_n 0, 43, 0) := by decide +kernel
theorem i181_43 : ts_ins 181 43 = some (.getfield 37, 46, 0) := by decide +kernel
theorem g181_43 : ts_fm 181 37 = some (12, 20, 2) := by decide +kernel
theorem i181_46 : ts_ins 181 46 = some (.iload_n 2, 47, 0) := by decide +kernel
theorem i181_47 : ts_ins 181 47 = some (.iaload, 48, 0) := by decide +kernel
theorem i181_48 : ts_ins 181 48 = some (.ifCond .ge 8, 51, 56) := by decide +kernel
theorem i181_51 : ts_ins 181 51 = some (.bipush (-2), 53, 0) := by decide +kernel
theorem i181_53 : ts_ins 181 53 = some (.goto 9, 56, 62) := by decide +kernel
theorem i181_56 : ts_ins 181 56 = some (.aload_n 0, 57, 0) := by decide +kernel
theorem i181_57 : ts_ins 181 57 = some (.getfield 37, 60, 0) := by decide +kernel
theorem g181_57 : ts_fm 181 37 = some (12, 20, 2) := by decide +kernel
theorem i181_60 : ts_ins 181 60 = some (.iload_n 2, 61, 0) := by decide +kernel
theorem i181_61 : ts_ins 181 61 = some (.iaload, 62, 0) := by decide +kernel
theorem i181_62 : ts_ins 181 62 = some (.ireturn, 63, 0) := by decide +kernel
theorem r181 : ts_rt 181 = ((some .int), 0, 0) := by decide +kernel
theorem l181 : ts_ml 181 = 3 := by decide +kernel
theorem i182_0 : ts_ins 182 0 = some (.aload_n 0, 1, 0) := by decide +kernel
theorem i182_1 : ts_ins 182 1 = some (.iload_n 1, 2, 0) := by decide +kernel
theorem i182_2 : ts_ins 182 2 = some (.invokevirtual 115, 5, 0) := by decide +kernel
theorem g182_2 : ts_cal (ts_mc 182) 115 = some (0, 153, 1) := by decide +kernel
theorem i182_5 : ts_ins 182 5 = some (.iconst (-1), 6, 0) := by decide +kernel
theorem i182_6 : ts_ins 182 6 = some (.if_icmp .eq 32, 9, 38) := by decide +kernel
theorem i182_9 : ts_ins 182 9 = some (.iload_n 3, 10, 0) := by decide +kernel
theorem i182_10 : ts_ins 182 10 = some (.ifCond .ne 14, 13, 24) := by decide +kernel
theorem i182_13 : ts_ins 182 13 = some (.iload_n 2, 14, 0) := by decide +kernel
theorem i182_14 : ts_ins 182 14 = some (.i2l, 15, 0) := by decide +kernel
theorem i182_15 : ts_ins 182 15 = some (.invokestatic 107, 18, 0) := by decide +kernel
theorem g182_15 : ts_cal (ts_mc 182) 107 = some (1, 148, 1) := by decide +kernel
theorem i182_18 : ts_ins 182 18 = some (.ifCond .ne 22, 21, 40) := by decide +kernel
theorem i182_21 : ts_ins 182 21 = some (.goto 17, 24, 38) := by decide +kernel
theorem i182_24 : ts_ins 182 24 = some (.iload_n 3, 25, 0) := by decide +kernel
theorem i182_25 : ts_ins 182 25 = some (.iconst 1, 26, 0) := by decide +kernel
theorem i182_26 : ts_ins 182 26 = some (.if_icmp .ne 12, 29, 38) := by decide +kernel
theorem i182_29 : ts_ins 182 29 = some (.aload_n 0, 30, 0) := by decide +kernel
theorem i182_30 : ts_ins 182 30 = some (.iload_n 2, 31, 0) := by decide +kernel
theorem i182_31 : ts_ins 182 31 = some (.i2l, 32, 0) := by decide +kernel
theorem i182_32 : ts_ins 182 32 = some (.invokevirtual 131, 35, 0) := by decide +kernel
theorem g182_32 : ts_cal (ts_mc 182) 131 = some (0, 150, 1) := by decide +kernel
theorem i182_35 : ts_ins 182 35 = some (.ifCond .ne 5, 38, 40) := by decide +kernel
theorem i182_38 : ts_ins 182 38 = some (.iconst (-1), 39, 0) := by decide +kernel
theorem i182_39 : ts_ins 182 39 = some (.ireturn, 40, 0) := by decide +kernel
theorem i182_40 : ts_ins 182 40 = some (.aload_n 0, 41, 0) := by decide +kernel
theorem i182_41 : ts_ins 182 41 = some (.iload_n 1, 42, 0) := by decide +kernel
theorem i182_42 : ts_ins 182 42 = some (.invokevirtual 115, 45, 0) := by decide +kernel
theorem g182_42 : ts_cal (ts_mc 182) 115 = some (0, 153, 1) := by decide +kernel
theorem i182_45 : ts_ins 182 45 = some (.ifCond .ge 9, 48, 54) := by decide +kernel
theorem i182_48 : ts_ins 182 48 = some (.aload_n 0, 49, 0) := by decide +kernel
theorem i182_49 : ts_ins 182 49 = some (.iload_n 1, 50, 0) := by decide +kernel
theorem i182_50 : ts_ins 182 50 = some (.invokevirtual 115, 53, 0) := by decide +kernel
theorem g182_50 : ts_cal (ts_mc 182) 115 = some (0, 153, 1) := by decide +kernel
theorem i182_53 : ts_ins 182 53 = some (.ireturn, 54, 0) := by decide +kernel
theorem i182_54 : ts_ins 182 54 = some (.aload_n 0, 55, 0) := by decide +kernel
theorem i182_55 : ts_ins 182 55 = some (.iload_n 1, 56, 0) := by decide +kernel
theorem i182_56 : ts_ins 182 56 = some (.invokevirtual 222, 59, 0) := by decide +kernel
theorem g182_56 : ts_cal (ts_mc 182) 222 = some (0, 178, 1) := by decide +kernel
theorem i182_59 : ts_ins 182 59 = some (.iload_n 3, 60, 0) := by decide +kernel
theorem i182_60 : ts_ins 182 60 = some (.ifCond .ne 12, 63, 72) := by decide +kernel
theorem i182_63 : ts_ins 182 63 = some (.aload_n 0, 64, 0) := by decide +kernel
theorem i182_64 : ts_ins 182 64 = some (.getfield 34, 67, 0) := by decide +kernel
theorem g182_64 : ts_fm 182 34 = some (12, 19, 2) := by decide +kernel
theorem i182_67 : ts_ins 182 67 = some (.iload_n 2, 68, 0) := by decide +kernel
theorem i182_68 : ts_ins 182 68 = some (.iaload, 69, 0) := by decide +kernel
theorem i182_69 : ts_ins 182 69 = some (.goto 8, 72, 77) := by decide +kernel
theorem i182_72 : ts_ins 182 72 = some (.aload_n 0, 73, 0) := by decide +kernel
theorem i182_73 : ts_ins 182 73 = some (.iload_n 2, 74, 0) := by decide +kernel
theorem i182_74 : ts_ins 182 74 = some (.invokevirtual 226, 77, 0) := by decide +kernel
theorem g182_74 : ts_cal (ts_mc 182) 226 = some (0, 179, 1) := by decide +kernel
theorem i182_77 : ts_ins 182 77 = some (.ireturn, 78, 0) := by decide +kernel
theorem r182 : ts_rt 182 = ((some .int), 0, 0) := by decide +kernel
theorem l182 : ts_ml 182 = 4 := by decide +kernel
/-! plan, tone, behind: the reference -/
section PN
variable {X : ts_X} {I J : Nat → Nat → Int32} {L : Nat → Nat → Int64} {sw : Bool} {K : Option Value → ts_H → Prop} {d : Nat} {f : ts_Fl} {w : ts_Lw} {s : ts_Sh} {it c : Int → Int} {n : Int}
theorem zfd_lt {n : Int} {g : Int → Prop} [DecidablePred g] : ∀ i j : Int, i ≤ j → j < zfd n g n i → ¬ g j := by
  refine ts_ind n (fun i ih j h0 h1 => ?_)
  by_cases c : i < n
  · rw [zfd_1 c] at h1
    by_cases q : g i
    · rw [if_pos q] at h1; omega
    · rw [if_neg q] at h1
      by_cases e : j = i
      · subst e; exact q
      · exact ih c j (by omega) h1
  · rw [zfd_0 c] at h1; omega
theorem g_pb_hd (hM : RM I f) {x b : Int} (h0 : 0 ≤ b) (h1 : b < g_pb s f x) : -2 ≤ g_hd f w (s.2.2 x) b ∧ g_hd f w (s.2.2 x) b ≤ 7 ∧ ¬ g_hd f w (s.2.2 x) b = -1 := by
  have e := Decidable.of_not_not (zfd_lt (n := g_pm s x) (g := fun b => ¬ g_pok f (s.2.2 x) b) 0 b h0 h1)
  exact g_hd_m hM (by have := e.2; omega)
theorem m_plan (hM : RM I f) (hRO : RO f) (hW : RMw I w) (hO : ROw w) (hS : RMs I L s) (hQ : ROs s) {x v : Int} (hx : -2147483648 ≤ x ∧ x ≤ 2147483647) (hv : -2147483648 ≤ v ∧ v ≤ 2147483647) (hK : ∀ J, fr fmp I J → K (some (.int (zI (g_planA s f w x v)))) (J, L, ts_P0 sw, ts_S0)) : ts_Cal X (d + 83) 180 [.ref 72, .int (zI (x)), .int (zI (v))] (I, L, ts_P0 sw, ts_S0) K := by
  have gr := g_bytes_r s x
  have b1 := hM.told.2
  unfold g_planA g_planV at hK
  refine ev_enter (lv := [.ref 72, .int (zI (x)), .int (zI (v)), .null, .null, .null, .null]) l180 rfl (Nat.le_of_ble_eq_true rfl) ?_
  refine ev_aloadn_0 i180_0 ?_
  refine ev_iloadn_1 i180_1 ?_
  refine ev_virt1 i180_2 g180_2 rfl (by decide +kernel) (Nat.le_of_ble_eq_true rfl) (m_bytesIs hS hx ?_)
  refine ew_iconst i180_5 ?_
  refine ew_icmpeq i180_6 (by omega) (fun c6 => ?_) (fun c6 => ?_)
  · refine ew_iconst i180_21 ?_
    refine ev_ireturn i180_22 r180 ?_
    by_cases c : 0 ≤ v ∧ v ≤ 4
    · rw [if_neg (fun r => r c), if_pos (by omega)] at hK
      exact zK (hK I (fr_rfl _ _)) (by omega)
    · rw [if_pos c] at hK
      exact hK I (fr_rfl _ _)
  · refine ev_iloadn_2 i180_9 ?_
    refine ew_i2l i180_10 (by omega) ?_
    refine ew_lconst (z := 0) i180_11 (by decide) ?_
    refine ew_ldc2_w (z := (4)) i180_12 g180_12 (by decide) ?_
    refine ev_stat3 i180_15 g180_15 (by decide +kernel) (Nat.le_of_ble_eq_true rfl) (m_within (by omega) (by omega) (by omega) ?_)
    first
    | refine ew_ifneB i180_18 (fun c18 => ?_) (fun c18 => ?_)
    | refine ew_ifne i180_18 (by omega) (fun c18 => ?_) (fun c18 => ?_)
    · rw [if_neg (fun r => r c18)] at hK
      refine ev_aloadn_0 i180_23 ?_
      refine ev_iloadn_1 i180_24 ?_
      refine ev_virt1 i180_25 g180_25 rfl (by decide +kernel) (Nat.le_of_ble_eq_true rfl) (m_bytesIs hS hx ?_)
      refine ew_ifge i180_28 (by omega) (fun c28 => ?_) (fun c28 => ?_)
      · have c0 : g_bytes s x = 0 := by omega
        rw [if_neg (fun r => r c0)] at hK
        have h0 := g_bytes_0 c0
        refine ev_aloadn_0 i180_37 ?_
        refine ev_iloadn_1 i180_38 ?_
        refine ev_virt1 i180_39 g180_39 rfl (by decide +kernel) (Nat.le_of_ble_eq_true rfl) (m_goesPlan hM hW hO hS hQ ⟨h0.1, h0.2.1⟩ h0.2.2 (fun J h1 h2 => ?_))
        refine ew_iconst i180_42 ?_
        refine ev_istoren_3 i180_43 rfl ?_
        refine ew_iconst i180_44 ?_
        refine ev_istore_4 i180_45 rfl ?_
        have hMJ := hM.fmp h1
        have e := hK J h1
        have hd : ∀ b, 0 ≤ b → b < g_pb s f x → -2 ≤ g_hd f w (s.2.2 x) b ∧ g_hd f w (s.2.2 x) b ≤ 7 ∧ ¬ g_hd f w (s.2.2 x) b = -1 := fun b h0 h1 => g_pb_hd hM h0 h1
        generalize hn : g_pb s f x = n at *
        have b3 := h2.1.2
        have l3 : ∀ j : Int, -1 ≤ j → j ≤ n → ts_Ev X (ts_Cal X (d + 82)) 180 ts_S0 K 133 [.ref 72, .int (zI (x)), .int (zI (v)), .int (zI (g_ph f w (s.2.2 x) n)), .int (zI (zbits (fun t => ¬ g_wh f w (s.2.2 x) n t = -2) (f_told f).toNat)), .int (zI (zfd (n + 1) (fun b => g_pc f (s.2.2 x) b = 0) (-2) (j + 1))), .int (zI (j))] [] (J, L, ts_P0 sw, ts_S0) := by
          refine ts_indd (-1) (fun j ih j0 j1 => ?_)
          refine ev_iload_6 i180_133 ?_
          refine ew_iflt i180_135 (by omega) (fun c135 => ?_) (fun c135 => ?_)
          · obtain rfl : j = -1 := by omega
            refine ev_iloadn_2 i180_163 ?_
            rcases (show v = 0 ∨ v = 1 ∨ v = 2 ∨ v = 3 ∨ (v < 0 ∨ 3 < v) by omega) with c164 | c164 | c164 | c164 | c164
            · refine ew_sw (v := 0) i180_164 c164 (t := 196) (by decide) rfl ?_
              refine ev_aloadn_0 i180_196 ?_
              refine ew_getI i180_197 g180_197 rfl (by first | exact h2.1 | exact hM.men | exact hM.told | exact hM.road | exact hM.stand _ (by omega) (by omega) | exact hM.reach _ (by omega) (by omega) | exact hM.arm _ (by omega) (by omega) | exact hM.late _ (by omega) (by omega) | exact hM.len _ (by omega) (by omega) | exact hM.corn _ (by omega) (by omega) | exact hM.say (by omega) (by omega) _ (by omega) (by omega) | exact hM.tone _ (by omega) (by omega)) (fun b197 => ?_)
              refine ev_ireturn i180_200 r180 ?_
              subst c164
              exact e
            · refine ew_sw (v := 1) i180_164 c164 (t := 201) (by decide) rfl ?_
              refine ev_iloadn_3 i180_201 ?_
              refine ev_ireturn i180_202 r180 ?_
              subst c164
              exact e
            · refine ew_sw (v := 2) i180_164 c164 (t := 203) (by decide) rfl ?_
              refine ev_aloadn_0 i180_203 ?_
              refine ev_getA i180_204 g180_204 rfl rfl (by decide) ?_
              refine ev_aloadn_0 i180_207 ?_
              refine ew_getI i180_208 g180_208 rfl (by first | exact h2.1 | exact hM.men | exact hM.told | exact hM.road | exact hM.stand _ (by omega) (by omega) | exact hM.reach _ (by omega) (by omega) | exact hM.arm _ (by omega) (by omega) | exact hM.late _ (by omega) (by omega) | exact hM.len _ (by omega) (by omega) | exact hM.corn _ (by omega) (by omega) | exact hM.say (by omega) (by omega) _ (by omega) (by omega) | exact hM.tone _ (by omega) (by omega)) (fun b208 => ?_)
              refine ew_iaload i180_211 rfl (by omega) (by omega) (by omega) ((h2.2.2.1 n (by omega) (by omega))) (fun b211 => ?_)
              refine ev_ireturn i180_212 r180 ?_
              subst c164
              exact e
            · refine ew_sw (v := 3) i180_164 c164 (t := 213) (by decide) rfl ?_
              refine ev_iload_5 i180_213 ?_
              refine ev_ireturn i180_215 r180 ?_
              subst c164
              exact e
            · refine ew_tswD (t := 216) i180_164 (by omega) c164 (by decide) ?_
              refine ev_iload_4 i180_216 ?_
              refine ev_ireturn i180_218 r180 ?_
              rw [if_neg (by omega), if_neg (by omega), if_neg (by omega), if_neg (by omega)] at e
              exact e
          · refine ev_aloadn_0 i180_138 ?_
            refine ev_getA i180_139 g180_139 rfl rfl (by decide) ?_
            refine ev_iload_6 i180_142 ?_
            refine ew_iaload i180_144 rfl (by omega) (by omega) (by omega) ((h2.2.2.1 j (by omega) (by omega))) (fun b144 => ?_)
            first
            | refine ew_ifneB i180_145 (fun c145 => ?_) (fun c145 => ?_)
            | refine ew_ifne i180_145 (by omega) (fun c145 => ?_) (fun c145 => ?_)
            · refine ev_iload_5 i180_153 ?_
              refine ev_istore_5 i180_155 rfl ?_
              refine ew_iinc_6 i180_157 rfl ?_
              refine ev_goto i180_160 ?_
              have e2 := ih (by omega) (by omega) (by omega)
              rw [show j - 1 + 1 = j from by omega, zfd_1 (by omega)] at e2
              first
                | (rw [if_pos c145] at e2; exact e2)
                | (rw [if_neg c145] at e2; exact e2)
            · refine ev_iload_6 i180_148 ?_
              refine ev_goto i180_150 ?_
              refine ev_istore_5 i180_155 rfl ?_
              refine ew_iinc_6 i180_157 rfl ?_
              refine ev_goto i180_160 ?_
              have e2 := ih (by omega) (by omega) (by omega)
              rw [show j - 1 + 1 = j from by omega, zfd_1 (by omega)] at e2
              first
                | (rw [if_pos c145] at e2; exact e2)
                | (rw [if_neg c145] at e2; exact e2)
        have l2 : ∀ t : Int, 0 ≤ t → t ≤ f_told f → ∀ o, ts_Ev X (ts_Cal X (d + 82)) 180 ts_S0 K 86 [.ref 72, .int (zI (x)), .int (zI (v)), .int (zI (g_ph f w (s.2.2 x) n)), .int (zI (zbits (fun t => ¬ g_wh f w (s.2.2 x) n t = -2) t.toNat)), .int (zI (t)), o] [] (J, L, ts_P0 sw, ts_S0) := by
          refine ts_ind (f_told f) (fun t ih t0 t1 o => ?_)
          by_cases ht : t < f_told f
          · have wr := g_wh_r (w := w) (it := s.2.2 x) (n := n) hRO ⟨t0, ht⟩
            refine ev_iload_5 i180_86 ?_
            refine ev_aloadn_0 i180_88 ?_
            refine ew_getI i180_89 g180_89 rfl (by first | exact hMJ.told | exact hM.men | exact hM.told | exact hM.road | exact hM.stand _ (by omega) (by omega) | exact hM.reach _ (by omega) (by omega) | exact hM.arm _ (by omega) (by omega) | exact hM.late _ (by omega) (by omega) | exact hM.len _ (by omega) (by omega) | exact hM.corn _ (by omega) (by omega) | exact hM.say (by omega) (by omega) _ (by omega) (by omega) | exact hM.tone _ (by omega) (by omega)) (fun b89 => ?_)
            refine ew_icmpge i180_92 (by omega) (fun c92 => ?_) (fun c92 => ?_)
            · exfalso; omega
            · refine ev_iload_4 i180_95 ?_
              refine ev_aloadn_0 i180_97 ?_
              refine ev_iload_5 i180_98 ?_
              refine ev_virt1 i180_100 g180_100 rfl (by decide +kernel) (Nat.le_of_ble_eq_true rfl) (m_wholeAt hMJ hRO h2 ⟨t0, ht⟩ ?_)
              refine ew_iflt i180_103 (by omega) (fun c103 => ?_) (fun c103 => ?_)
              · refine ew_iconst i180_113 ?_
                refine ew_ior i180_114 ?_
                refine ev_istore_4 i180_115 rfl ?_
                refine ew_iinc_5 i180_117 rfl ?_
                refine ev_goto i180_120 ?_
                have e2 := ih (by omega) (by omega) (by omega)
                rw [zbits_s t0] at e2
                first
                  | (rw [if_neg (fun r => by omega)] at e2; rw [zor_0 (zbits_r _ _)]; exact e2 _)
                  | (rw [if_pos (by omega)] at e2; exact e2 _)
              · refine ew_iconst i180_106 ?_
                refine ev_iload_5 i180_107 ?_
                refine ew_ishl i180_109 ?_
                refine ev_goto i180_110 ?_
                refine ew_ior i180_114 ?_
                refine ev_istore_4 i180_115 rfl ?_
                refine ew_iinc_5 i180_117 rfl ?_
                refine ev_goto i180_120 ?_
                have e2 := ih (by omega) (by omega) (by omega)
                rw [zbits_s t0] at e2
                first
                  | (rw [if_neg (fun r => by omega)] at e2; rw [zor_0 (zbits_r _ _)]; exact e2 _)
                  | (rw [if_pos (by omega)] at e2; exact e2 _)
          · obtain rfl : t = f_told f := by omega
            refine ev_iload_5 i180_86 ?_
            refine ev_aloadn_0 i180_88 ?_
            refine ew_getI i180_89 g180_89 rfl (by first | exact hMJ.told | exact h2.1 | exact hM.men | exact hM.told | exact hM.road | exact hM.stand _ (by omega) (by omega) | exact hM.reach _ (by omega) (by omega) | exact hM.arm _ (by omega) (by omega) | exact hM.late _ (by omega) (by omega) | exact hM.len _ (by omega) (by omega) | exact hM.corn _ (by omega) (by omega) | exact hM.say (by omega) (by omega) _ (by omega) (by omega) | exact hM.tone _ (by omega) (by omega)) (fun b89 => ?_)
            refine ew_icmpge i180_92 (by omega) (fun c92 => ?_) (fun c92 => ?_)
            · refine ew_bipush i180_123 (by decide) ?_
              refine ev_istore_5 i180_125 rfl ?_
              refine ev_aloadn_0 i180_127 ?_
              refine ew_getI i180_128 g180_128 rfl (by first | exact hMJ.told | exact h2.1 | exact hM.men | exact hM.told | exact hM.road | exact hM.stand _ (by omega) (by omega) | exact hM.reach _ (by omega) (by omega) | exact hM.arm _ (by omega) (by omega) | exact hM.late _ (by omega) (by omega) | exact hM.len _ (by omega) (by omega) | exact hM.corn _ (by omega) (by omega) | exact hM.say (by omega) (by omega) _ (by omega) (by omega) | exact hM.tone _ (by omega) (by omega)) (fun b128 => ?_)
              refine ev_istore_6 i180_131 rfl ?_
              have e2 := l3 n (by omega) (Int.le_refl _)
              rw [zfd_0 (by omega)] at e2
              exact e2
            · exfalso; omega
        have l1 : ∀ b : Int, 0 ≤ b → b ≤ n → ∀ o o2, ts_Ev X (ts_Cal X (d + 82)) 180 ts_S0 K 47 [.ref 72, .int (zI (x)), .int (zI (v)), .int (zI (g_ph f w (s.2.2 x) b)), .int (zI (b)), o, o2] [] (J, L, ts_P0 sw, ts_S0) := by
          refine ts_ind n (fun b ih b0 bn o o2 => ?_)
          refine ev_iload_4 i180_47 ?_
          refine ev_aloadn_0 i180_49 ?_
          refine ew_getI i180_50 g180_50 rfl (by first | exact h2.1 | exact hM.men | exact hM.told | exact hM.road | exact hM.stand _ (by omega) (by omega) | exact hM.reach _ (by omega) (by omega) | exact hM.arm _ (by omega) (by omega) | exact hM.late _ (by omega) (by omega) | exact hM.len _ (by omega) (by omega) | exact hM.corn _ (by omega) (by omega) | exact hM.say (by omega) (by omega) _ (by omega) (by omega) | exact hM.tone _ (by omega) (by omega)) (fun b50 => ?_)
          refine ew_icmpge i180_53 (by omega) (fun c53 => ?_) (fun c53 => ?_)
          · refine ew_iconst i180_80 ?_
            refine ev_istore_4 i180_81 rfl ?_
            refine ew_iconst i180_83 ?_
            refine ev_istore_5 i180_84 rfl ?_
            obtain rfl : b = n := by omega
            exact l2 0 (by decide) (by omega) _
          · refine ev_iloadn_3 i180_56 ?_
            refine ev_aloadn_0 i180_57 ?_
            refine ev_getA i180_58 g180_58 rfl rfl (by decide) ?_
            refine ev_iload_4 i180_61 ?_
            refine ew_iaload i180_63 rfl (by omega) (by omega) (by omega) ((h2.2.1 b b0 (by omega))) (fun b63 => ?_)
            refine ew_iflt i180_64 (by omega) (fun c64 => ?_) (fun c64 => ?_)
            · refine ew_iconst i180_71 ?_
              refine ew_iadd i180_72 ?_
              refine ev_istoren_3 i180_73 rfl ?_
              refine ew_iinc_4 i180_74 rfl ?_
              refine ev_goto i180_77 ?_
              have e2 := ih (by omega) (by omega) (by omega)
              rw [g_ph_s b0] at e2
              have hb := hd b b0 (by omega)
              have gh : g_hm1 f w (s.2.2 x) b = if g_hd f w (s.2.2 x) b = -2 then -1 else g_hd f w (s.2.2 x) b := rfl
              first
                | (rw [if_pos (by omega)] at e2; exact e2 _ _)
                | (rw [if_neg (by omega)] at e2; exact e2 _ _)
            · refine ew_iconst i180_67 ?_
              refine ev_goto i180_68 ?_
              refine ew_iadd i180_72 ?_
              refine ev_istoren_3 i180_73 rfl ?_
              refine ew_iinc_4 i180_74 rfl ?_
              refine ev_goto i180_77 ?_
              have e2 := ih (by omega) (by omega) (by omega)
              rw [g_ph_s b0] at e2
              have hb := hd b b0 (by omega)
              have gh : g_hm1 f w (s.2.2 x) b = if g_hd f w (s.2.2 x) b = -2 then -1 else g_hd f w (s.2.2 x) b := rfl
              first
                | (rw [if_pos (by omega)] at e2; exact e2 _ _)
                | (rw [if_neg (by omega)] at e2; exact e2 _ _)
        exact l1 0 (by decide) (by omega) _ _
      · refine ev_aloadn_0 i180_31 ?_
        refine ev_iloadn_1 i180_32 ?_
        refine ev_virt1 i180_33 g180_33 rfl (by decide +kernel) (Nat.le_of_ble_eq_true rfl) (m_bytesIs hS hx ?_)
        refine ev_ireturn i180_36 r180 ?_
        rw [if_pos (by omega)] at hK
        exact zK (hK I (fr_rfl _ _)) (by omega)
    · refine ew_iconst i180_21 ?_
      refine ev_ireturn i180_22 r180 ?_
      by_cases c : 0 ≤ v ∧ v ≤ 4
      · rw [if_neg (fun r => r c), if_pos (by omega)] at hK
        exact zK (hK I (fr_rfl _ _)) (by omega)
      · rw [if_pos c] at hK
        exact hK I (fr_rfl _ _)
theorem m_tone (hM : RM I f) (hW : RMw I w) (hO : ROw w) (hS : RMs I L s) (hQ : ROs s) {x b : Int} (hx : -2147483648 ≤ x ∧ x ≤ 2147483647) (hb : -2147483648 ≤ b ∧ b ≤ 2147483647) (hK : ∀ J, fr fmp I J → K (some (.int (zI (g_toneA s f w x b)))) (J, L, ts_P0 sw, ts_S0)) : ts_Cal X (d + 83) 181 [.ref 72, .int (zI (x)), .int (zI (b))] (I, L, ts_P0 sw, ts_S0) K := by
  have gr := g_bytes_r s x
  unfold g_toneA at hK
  refine ev_enter (lv := [.ref 72, .int (zI (x)), .int (zI (b))]) l181 rfl (Nat.le_of_ble_eq_true rfl) ?_
  refine ev_aloadn_0 i181_0 ?_
  refine ev_iloadn_1 i181_1 ?_
  refine ev_virt1 i181_2 g181_2 rfl (by decide +kernel) (Nat.le_of_ble_eq_true rfl) (m_bytesIs hS hx ?_)
  refine ew_iconst i181_5 ?_
  refine ew_icmpeq i181_6 (by omega) (fun c6 => ?_) (fun c6 => ?_)
  · refine ew_iconst i181_13 ?_
    refine ev_ireturn i181_14 r181 ?_
    by_cases c : b < 0
    · rw [if_pos c] at hK
      exact hK I (fr_rfl _ _)
    · rw [if_neg c, if_pos (by omega)] at hK
      exact zK (hK I (fr_rfl _ _)) (by omega)
  · refine ev_iloadn_2 i181_9 ?_
    refine ew_ifge i181_10 (by omega) (fun c10 => ?_) (fun c10 => ?_)
    · rw [if_neg (by omega)] at hK
      refine ev_aloadn_0 i181_15 ?_
      refine ev_iloadn_1 i181_16 ?_
      refine ev_virt1 i181_17 g181_17 rfl (by decide +kernel) (Nat.le_of_ble_eq_true rfl) (m_bytesIs hS hx ?_)
      refine ew_ifge i181_20 (by omega) (fun c20 => ?_) (fun c20 => ?_)
      · have c0 : g_bytes s x = 0 := by omega
        rw [if_neg (fun r => r c0)] at hK
        have h0 := g_bytes_0 c0
        refine ev_aloadn_0 i181_29 ?_
        refine ev_iloadn_1 i181_30 ?_
        refine ev_virt1 i181_31 g181_31 rfl (by decide +kernel) (Nat.le_of_ble_eq_true rfl) (m_goesPlan hM hW hO hS hQ ⟨h0.1, h0.2.1⟩ h0.2.2 (fun J h1 h2 => ?_))
        refine ev_iloadn_2 i181_34 ?_
        refine ev_aloadn_0 i181_35 ?_
        refine ew_getI i181_36 g181_36 rfl (h2.1) (fun b36 => ?_)
        refine ew_icmpge i181_39 (by omega) (fun c39 => ?_) (fun c39 => ?_)
        · refine ew_bipush i181_51 (by decide) ?_
          refine ev_goto i181_53 ?_
          refine ev_ireturn i181_62 r181 ?_
          have e := hK J h1
          first
          | (rw [if_neg (by omega)] at e; exact e)
          | (have hb := g_pb_hd (w := w) hM (by omega) (show b < g_pb s f x by omega)
             have gh : g_hm1 f w (s.2.2 x) b = if g_hd f w (s.2.2 x) b = -2 then -1 else g_hd f w (s.2.2 x) b := rfl
             rw [if_pos (by omega)] at e
             exact zK e (by omega))
        · refine ev_aloadn_0 i181_42 ?_
          refine ev_getA i181_43 g181_43 rfl rfl (by decide) ?_
          refine ev_iloadn_2 i181_46 ?_
          refine ew_iaload i181_47 rfl (by omega) (by omega) (by omega) ((h2.2.1 b (by omega) (by omega))) (fun b47 => ?_)
          refine ew_ifge i181_48 (by omega) (fun c48 => ?_) (fun c48 => ?_)
          · refine ev_aloadn_0 i181_56 ?_
            refine ev_getA i181_57 g181_57 rfl rfl (by decide) ?_
            refine ev_iloadn_2 i181_60 ?_
            refine ew_iaload i181_61 rfl (by omega) (by omega) (by omega) ((h2.2.1 b (by omega) (by omega))) (fun b61 => ?_)
            refine ev_ireturn i181_62 r181 ?_
            have e := hK J h1
            first
            | (rw [if_neg (by omega)] at e; exact e)
            | (have hb := g_pb_hd (w := w) hM (by omega) (show b < g_pb s f x by omega)
               have gh : g_hm1 f w (s.2.2 x) b = if g_hd f w (s.2.2 x) b = -2 then -1 else g_hd f w (s.2.2 x) b := rfl
               rw [if_pos (by omega)] at e
               exact zK e (by omega))
          · refine ew_bipush i181_51 (by decide) ?_
            refine ev_goto i181_53 ?_
            refine ev_ireturn i181_62 r181 ?_
            have e := hK J h1
            first
            | (rw [if_neg (by omega)] at e; exact e)
            | (have hb := g_pb_hd (w := w) hM (by omega) (show b < g_pb s f x by omega)
               have gh : g_hm1 f w (s.2.2 x) b = if g_hd f w (s.2.2 x) b = -2 then -1 else g_hd f w (s.2.2 x) b := rfl
               rw [if_pos (by omega)] at e
               exact zK e (by omega))
      · refine ev_aloadn_0 i181_23 ?_
        refine ev_iloadn_1 i181_24 ?_
        refine ev_virt1 i181_25 g181_25 rfl (by decide +kernel) (Nat.le_of_ble_eq_true rfl) (m_bytesIs hS hx ?_)
        refine ev_ireturn i181_28 r181 ?_
        rw [if_pos (by omega)] at hK
        exact zK (hK I (fr_rfl _ _)) (by omega)
    · refine ew_iconst i181_13 ?_
      refine ev_ireturn i181_14 r181 ?_
      by_cases c : b < 0
      · rw [if_pos c] at hK
        exact hK I (fr_rfl _ _)
      · rw [if_neg c, if_pos (by omega)] at hK
        exact zK (hK I (fr_rfl _ _)) (by omega)
theorem m_behind (hM : RM I f) (hRO : RO f) (hW : RMw I w) (hO : ROw w) (hS : RMs I L s) (hQ : ROs s) {x n v : Int} (hx : -2147483648 ≤ x ∧ x ≤ 2147483647) (hn : -2147483648 ≤ n ∧ n ≤ 2147483647) (hv : -2147483648 ≤ v ∧ v ≤ 2147483647) (hK : ∀ J, fr fmp I J → K (some (.int (zI (g_behA s f w x n v)))) (J, L, ts_P0 sw, ts_S0)) : ts_Cal X (d + 83) 182 [.ref 72, .int (zI (x)), .int (zI (n)), .int (zI (v))] (I, L, ts_P0 sw, ts_S0) K := by
  have gr := g_bytes_r s x
  unfold g_behA at hK
  refine ev_enter (lv := [.ref 72, .int (zI (x)), .int (zI (n)), .int (zI (v))]) l182 rfl (Nat.le_of_ble_eq_true rfl) ?_
  refine ev_aloadn_0 i182_0 ?_
  refine ev_iloadn_1 i182_1 ?_
  refine ev_virt1 i182_2 g182_2 rfl (by decide +kernel) (Nat.le_of_ble_eq_true rfl) (m_bytesIs hS hx ?_)
  refine ew_iconst i182_5 ?_
  refine ew_icmpeq i182_6 (by omega) (fun c6 => ?_) (fun c6 => ?_)
  · refine ew_iconst i182_38 ?_
    refine ev_ireturn i182_39 r182 ?_
    by_cases c : (v = 0 ∧ 0 ≤ n ∧ n < 16) ∨ (v = 1 ∧ 0 ≤ n ∧ n < f_told f)
    · rw [if_neg (fun r => r c), if_pos (by omega)] at hK
      exact zK (hK I (fr_rfl _ _)) (by omega)
    · rw [if_pos c] at hK
      exact hK I (fr_rfl _ _)
  · refine ev_iloadn_3 i182_9 ?_
    first
    | refine ew_ifneB i182_10 (fun c10 => ?_) (fun c10 => ?_)
    | refine ew_ifne i182_10 (by omega) (fun c10 => ?_) (fun c10 => ?_)
    · refine ev_iloadn_3 i182_24 ?_
      refine ew_iconst i182_25 ?_
      refine ew_icmpne i182_26 (by omega) (fun c26 => ?_) (fun c26 => ?_)
      · refine ew_iconst i182_38 ?_
        refine ev_ireturn i182_39 r182 ?_
        by_cases c : (v = 0 ∧ 0 ≤ n ∧ n < 16) ∨ (v = 1 ∧ 0 ≤ n ∧ n < f_told f)
        · rw [if_neg (fun r => r c), if_pos (by omega)] at hK
          exact zK (hK I (fr_rfl _ _)) (by omega)
        · rw [if_pos c] at hK
          exact hK I (fr_rfl _ _)
      · refine ev_aloadn_0 i182_29 ?_
        refine ev_iloadn_2 i182_30 ?_
        refine ew_i2l i182_31 (by omega) ?_
        refine ev_virt1 i182_32 g182_32 rfl (by decide +kernel) (Nat.le_of_ble_eq_true rfl) (m_isSaying hM (by omega) ?_)
        first
        | refine ew_ifneB i182_35 (fun c35 => ?_) (fun c35 => ?_)
        | refine ew_ifne i182_35 (by omega) (fun c35 => ?_) (fun c35 => ?_)
        · rw [if_neg (by omega)] at hK
          refine ev_aloadn_0 i182_40 ?_
          refine ev_iloadn_1 i182_41 ?_
          refine ev_virt1 i182_42 g182_42 rfl (by decide +kernel) (Nat.le_of_ble_eq_true rfl) (m_bytesIs hS hx ?_)
          refine ew_ifge i182_45 (by omega) (fun c45 => ?_) (fun c45 => ?_)
          · have c0 : g_bytes s x = 0 := by omega
            rw [if_neg (fun r => r c0)] at hK
            have h0 := g_bytes_0 c0
            refine ev_aloadn_0 i182_54 ?_
            refine ev_iloadn_1 i182_55 ?_
            refine ev_virt1 i182_56 g182_56 rfl (by decide +kernel) (Nat.le_of_ble_eq_true rfl) (m_goesPlan hM hW hO hS hQ ⟨h0.1, h0.2.1⟩ h0.2.2 (fun J h1 h2 => ?_))
            refine ev_iloadn_3 i182_59 ?_
            first
            | refine ew_ifneB i182_60 (fun c60 => ?_) (fun c60 => ?_)
            | refine ew_ifne i182_60 (by omega) (fun c60 => ?_) (fun c60 => ?_)
            · refine ev_aloadn_0 i182_72 ?_
              refine ev_iloadn_2 i182_73 ?_
              refine ev_virt1 i182_74 g182_74 rfl (by decide +kernel) (Nat.le_of_ble_eq_true rfl) (m_wholeAt (hM.fmp h1) hRO h2 (by omega) ?_)
              refine ev_ireturn i182_77 r182 ?_
              have e := hK J h1
              first
              | (rw [if_pos (by omega)] at e; exact e)
              | (rw [if_neg (by omega)] at e; exact e)
              | (exfalso; omega)
            · refine ev_aloadn_0 i182_63 ?_
              refine ev_getA i182_64 g182_64 rfl rfl (by decide) ?_
              refine ev_iloadn_2 i182_67 ?_
              refine ew_iaload i182_68 rfl (by omega) (by omega) (by omega) ((h2.2.2.2 n (by omega) (by omega))) (fun b68 => ?_)
              refine ev_goto i182_69 ?_
              refine ev_ireturn i182_77 r182 ?_
              have e := hK J h1
              first
              | (rw [if_pos (by omega)] at e; exact e)
              | (rw [if_neg (by omega)] at e; exact e)
              | (exfalso; omega)
          · refine ev_aloadn_0 i182_48 ?_
            refine ev_iloadn_1 i182_49 ?_
            refine ev_virt1 i182_50 g182_50 rfl (by decide +kernel) (Nat.le_of_ble_eq_true rfl) (m_bytesIs hS hx ?_)
            refine ev_ireturn i182_53 r182 ?_
            rw [if_pos (by omega)] at hK
            exact zK (hK I (fr_rfl _ _)) (by omega)
        · refine ew_iconst i182_38 ?_
          refine ev_ireturn i182_39 r182 ?_
          by_cases c : (v = 0 ∧ 0 ≤ n ∧ n < 16) ∨ (v = 1 ∧ 0 ≤ n ∧ n < f_told f)
          · rw [if_neg (fun r => r c), if_pos (by omega)] at hK
            exact zK (hK I (fr_rfl _ _)) (by omega)
          · rw [if_pos c] at hK
            exact hK I (fr_rfl _ _)
    · refine ev_iloadn_2 i182_13 ?_
      refine ew_i2l i182_14 (by omega) ?_
      refine ev_stat1 i182_15 g182_15 (by decide +kernel) (Nat.le_of_ble_eq_true rfl) (m_isPlank (by omega) ?_)
      first
      | refine ew_ifneB i182_18 (fun c18 => ?_) (fun c18 => ?_)
      | refine ew_ifne i182_18 (by omega) (fun c18 => ?_) (fun c18 => ?_)
      · rw [if_neg (by omega)] at hK
        refine ev_aloadn_0 i182_40 ?_
        refine ev_iloadn_1 i182_41 ?_
        refine ev_virt1 i182_42 g182_42 rfl (by decide +kernel) (Nat.le_of_ble_eq_true rfl) (m_bytesIs hS hx ?_)
        refine ew_ifge i182_45 (by omega) (fun c45 => ?_) (fun c45 => ?_)
        · have c0 : g_bytes s x = 0 := by omega
          rw [if_neg (fun r => r c0)] at hK
          have h0 := g_bytes_0 c0
          refine ev_aloadn_0 i182_54 ?_
          refine ev_iloadn_1 i182_55 ?_
          refine ev_virt1 i182_56 g182_56 rfl (by decide +kernel) (Nat.le_of_ble_eq_true rfl) (m_goesPlan hM hW hO hS hQ ⟨h0.1, h0.2.1⟩ h0.2.2 (fun J h1 h2 => ?_))
          refine ev_iloadn_3 i182_59 ?_
          first
          | refine ew_ifneB i182_60 (fun c60 => ?_) (fun c60 => ?_)
          | refine ew_ifne i182_60 (by omega) (fun c60 => ?_) (fun c60 => ?_)
          · refine ev_aloadn_0 i182_72 ?_
            refine ev_iloadn_2 i182_73 ?_
            refine ev_virt1 i182_74 g182_74 rfl (by decide +kernel) (Nat.le_of_ble_eq_true rfl) (m_wholeAt (hM.fmp h1) hRO h2 (by omega) ?_)
            refine ev_ireturn i182_77 r182 ?_
            have e := hK J h1
            first
            | (rw [if_pos (by omega)] at e; exact e)
            | (rw [if_neg (by omega)] at e; exact e)
            | (exfalso; omega)
          · refine ev_aloadn_0 i182_63 ?_
            refine ev_getA i182_64 g182_64 rfl rfl (by decide) ?_
            refine ev_iloadn_2 i182_67 ?_
            refine ew_iaload i182_68 rfl (by omega) (by omega) (by omega) ((h2.2.2.2 n (by omega) (by omega))) (fun b68 => ?_)
            refine ev_goto i182_69 ?_
            refine ev_ireturn i182_77 r182 ?_
            have e := hK J h1
            first
            | (rw [if_pos (by omega)] at e; exact e)
            | (rw [if_neg (by omega)] at e; exact e)
            | (exfalso; omega)
        · refine ev_aloadn_0 i182_48 ?_
          refine ev_iloadn_1 i182_49 ?_
          refine ev_virt1 i182_50 g182_50 rfl (by decide +kernel) (Nat.le_of_ble_eq_true rfl) (m_bytesIs hS hx ?_)
          refine ev_ireturn i182_53 r182 ?_
          rw [if_pos (by omega)] at hK
          exact zK (hK I (fr_rfl _ _)) (by omega)
      · refine ev_goto i182_21 ?_
        refine ew_iconst i182_38 ?_
        refine ev_ireturn i182_39 r182 ?_
        by_cases c : (v = 0 ∧ 0 ≤ n ∧ n < 16) ∨ (v = 1 ∧ 0 ≤ n ∧ n < f_told f)
        · rw [if_neg (fun r => r c), if_pos (by omega)] at hK
          exact zK (hK I (fr_rfl _ _)) (by omega)
        · rw [if_pos c] at hK
          exact hK I (fr_rfl _ _)
end PN
