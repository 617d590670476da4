theorem i175_0 : ts_ins 175 0 = some (.iconst 0, 1, 0) := by decide +kernel
theorem i175_1 : ts_ins 175 1 = some (.istore_n 1, 2, 0) := by decide +kernel
theorem i175_2 : ts_ins 175 2 = some (.iload_n 1, 3, 0) := by decide +kernel
theorem i175_3 : ts_ins 175 3 = some (.bipush 16, 5, 0) := by decide +kernel
theorem i175_5 : ts_ins 175 5 = some (.if_icmp .ge 24, 8, 29) := by decide +kernel
theorem i175_8 : ts_ins 175 8 = some (.aload_n 0, 9, 0) := by decide +kernel
theorem i175_9 : ts_ins 175 9 = some (.getfield 34, 12, 0) := by decide +kernel
theorem g175_9 : ts_fm 175 34 = some (12, 19, 2) := by decide +kernel
theorem i175_12 : ts_ins 175 12 = some (.iload_n 1, 13, 0) := by decide +kernel
theorem i175_13 : ts_ins 175 13 = some (.aload_n 0, 14, 0) := by decide +kernel
theorem i175_14 : ts_ins 175 14 = some (.getfield 9, 17, 0) := by decide +kernel
theorem g175_14 : ts_fm 175 9 = some (12, 0, 2) := by decide +kernel
theorem i175_17 : ts_ins 175 17 = some (.bipush 16, 19, 0) := by decide +kernel
theorem i175_19 : ts_ins 175 19 = some (.iload_n 1, 20, 0) := by decide +kernel
theorem i175_20 : ts_ins 175 20 = some (.iadd, 21, 0) := by decide +kernel
theorem i175_21 : ts_ins 175 21 = some (.iaload, 22, 0) := by decide +kernel
theorem i175_22 : ts_ins 175 22 = some (.iastore, 23, 0) := by decide +kernel
theorem i175_23 : ts_ins 175 23 = some (.iinc 1 1, 26, 0) := by decide +kernel
theorem i175_26 : ts_ins 175 26 = some (.goto (-24), 29, 2) := by decide +kernel
theorem i175_29 : ts_ins 175 29 = some (.return_, 30, 0) := by decide +kernel
theorem r175 : ts_rt 175 = (none, 0, 0) := by decide +kernel
theorem l175 : ts_ml 175 = 2 := by decide +kernel
theorem i176_0 : ts_ins 176 0 = some (.iconst 0, 1, 0) := by decide +kernel
theorem i176_1 : ts_ins 176 1 = some (.istore_n 1, 2, 0) := by decide +kernel
theorem i176_2 : ts_ins 176 2 = some (.iconst 0, 3, 0) := by decide +kernel
theorem i176_3 : ts_ins 176 3 = some (.istore_n 2, 4, 0) := by decide +kernel
theorem i176_4 : ts_ins 176 4 = some (.iload_n 2, 5, 0) := by decide +kernel
theorem i176_5 : ts_ins 176 5 = some (.bipush 16, 7, 0) := by decide +kernel
theorem i176_7 : ts_ins 176 7 = some (.if_icmp .ge 18, 10, 25) := by decide +kernel
theorem i176_10 : ts_ins 176 10 = some (.iload_n 1, 11, 0) := by decide +kernel
theorem i176_11 : ts_ins 176 11 = some (.aload_n 0, 12, 0) := by decide +kernel
theorem i176_12 : ts_ins 176 12 = some (.getfield 34, 15, 0) := by decide +kernel
theorem g176_12 : ts_fm 176 34 = some (12, 19, 2) := by decide +kernel
theorem i176_15 : ts_ins 176 15 = some (.iload_n 2, 16, 0) := by decide +kernel
theorem i176_16 : ts_ins 176 16 = some (.iaload, 17, 0) := by decide +kernel
theorem i176_17 : ts_ins 176 17 = some (.iadd, 18, 0) := by decide +kernel
theorem i176_18 : ts_ins 176 18 = some (.istore_n 1, 19, 0) := by decide +kernel
theorem i176_19 : ts_ins 176 19 = some (.iinc 2 1, 22, 0) := by decide +kernel
theorem i176_22 : ts_ins 176 22 = some (.goto (-18), 25, 4) := by decide +kernel
theorem i176_25 : ts_ins 176 25 = some (.iload_n 1, 26, 0) := by decide +kernel
theorem i176_26 : ts_ins 176 26 = some (.ireturn, 27, 0) := by decide +kernel
theorem r176 : ts_rt 176 = ((some .int), 0, 0) := by decide +kernel
theorem l176 : ts_ml 176 = 3 := by decide +kernel
theorem i188_0 : ts_ins 188 0 = some (.iconst 0, 1, 0) := by decide +kernel
theorem i188_1 : ts_ins 188 1 = some (.istore_n 2, 2, 0) := by decide +kernel
theorem i188_2 : ts_ins 188 2 = some (.iload_n 2, 3, 0) := by decide +kernel
theorem i188_3 : ts_ins 188 3 = some (.iconst 1, 4, 0) := by decide +kernel
theorem i188_4 : ts_ins 188 4 = some (.aload_n 0, 5, 0) := by decide +kernel
theorem i188_5 : ts_ins 188 5 = some (.getfield 99, 8, 0) := by decide +kernel
theorem g188_5 : ts_fm 188 99 = some (12, 6, 0) := by decide +kernel
theorem i188_8 : ts_ins 188 8 = some (.ishl, 9, 0) := by decide +kernel
theorem i188_9 : ts_ins 188 9 = some (.if_icmp .ge 148, 12, 157) := by decide +kernel
theorem i188_12 : ts_ins 188 12 = some (.iconst 0, 13, 0) := by decide +kernel
theorem i188_13 : ts_ins 188 13 = some (.istore_n 3, 14, 0) := by decide +kernel
theorem i188_14 : ts_ins 188 14 = some (.iconst 0, 15, 0) := by decide +kernel
theorem i188_15 : ts_ins 188 15 = some (.istore 4, 17, 0) := by decide +kernel
theorem i188_17 : ts_ins 188 17 = some (.iload 4, 19, 0) := by decide +kernel
theorem i188_19 : ts_ins 188 19 = some (.iload_n 1, 20, 0) := by decide +kernel
theorem i188_20 : ts_ins 188 20 = some (.if_icmp .ge 30, 23, 50) := by decide +kernel
theorem i188_23 : ts_ins 188 23 = some (.aload_n 0, 24, 0) := by decide +kernel
theorem i188_24 : ts_ins 188 24 = some (.getfield 99, 27, 0) := by decide +kernel
theorem g188_24 : ts_fm 188 99 = some (12, 6, 0) := by decide +kernel
theorem i188_27 : ts_ins 188 27 = some (.ifCond .le 23, 30, 50) := by decide +kernel
theorem i188_30 : ts_ins 188 30 = some (.iload_n 3, 31, 0) := by decide +kernel
theorem i188_31 : ts_ins 188 31 = some (.iload_n 2, 32, 0) := by decide +kernel
theorem i188_32 : ts_ins 188 32 = some (.iload 4, 34, 0) := by decide +kernel
theorem i188_34 : ts_ins 188 34 = some (.aload_n 0, 35, 0) := by decide +kernel
theorem i188_35 : ts_ins 188 35 = some (.getfield 99, 38, 0) := by decide +kernel
theorem g188_35 : ts_fm 188 99 = some (12, 6, 0) := by decide +kernel
theorem i188_38 : ts_ins 188 38 = some (.irem, 39, 0) := by decide +kernel
theorem i188_39 : ts_ins 188 39 = some (.ishr, 40, 0) := by decide +kernel
theorem i188_40 : ts_ins 188 40 = some (.iconst 1, 41, 0) := by decide +kernel
theorem i188_41 : ts_ins 188 41 = some (.iand, 42, 0) := by decide +kernel
theorem i188_42 : ts_ins 188 42 = some (.iadd, 43, 0) := by decide +kernel
theorem i188_43 : ts_ins 188 43 = some (.istore_n 3, 44, 0) := by decide +kernel
theorem i188_44 : ts_ins 188 44 = some (.iinc 4 1, 47, 0) := by decide +kernel
theorem i188_47 : ts_ins 188 47 = some (.goto (-30), 50, 17) := by decide +kernel
theorem i188_50 : ts_ins 188 50 = some (.iconst 0, 51, 0) := by decide +kernel
theorem i188_51 : ts_ins 188 51 = some (.istore 4, 53, 0) := by decide +kernel
theorem i188_53 : ts_ins 188 53 = some (.iconst 0, 54, 0) := by decide +kernel
theorem i188_54 : ts_ins 188 54 = some (.istore 5, 56, 0) := by decide +kernel
theorem i188_56 : ts_ins 188 56 = some (.iload 5, 58, 0) := by decide +kernel
theorem i188_58 : ts_ins 188 58 = some (.bipush 16, 60, 0) := by decide +kernel
theorem i188_60 : ts_ins 188 60 = some (.if_icmp .ge 83, 63, 143) := by decide +kernel
theorem i188_63 : ts_ins 188 63 = some (.iconst 0, 64, 0) := by decide +kernel
theorem i188_64 : ts_ins 188 64 = some (.istore 6, 66, 0) := by decide +kernel
theorem i188_66 : ts_ins 188 66 = some (.iconst 0, 67, 0) := by decide +kernel
theorem i188_67 : ts_ins 188 67 = some (.istore 7, 69, 0) := by decide +kernel
theorem i188_69 : ts_ins 188 69 = some (.iload 7, 71, 0) := by decide +kernel
theorem i188_71 : ts_ins 188 71 = some (.aload_n 0, 72, 0) := by decide +kernel
theorem i188_72 : ts_ins 188 72 = some (.getfield 99, 75, 0) := by decide +kernel
theorem g188_72 : ts_fm 188 99 = some (12, 6, 0) := by decide +kernel
theorem i188_75 : ts_ins 188 75 = some (.if_icmp .ge 41, 78, 116) := by decide +kernel
theorem i188_78 : ts_ins 188 78 = some (.iload 6, 80, 0) := by decide +kernel
theorem i188_80 : ts_ins 188 80 = some (.ifCond .ne 23, 83, 103) := by decide +kernel
theorem i188_83 : ts_ins 188 83 = some (.iload_n 2, 84, 0) := by decide +kernel
theorem i188_84 : ts_ins 188 84 = some (.iload 7, 86, 0) := by decide +kernel
theorem i188_86 : ts_ins 188 86 = some (.ishr, 87, 0) := by decide +kernel
theorem i188_87 : ts_ins 188 87 = some (.iconst 1, 88, 0) := by decide +kernel
theorem i188_88 : ts_ins 188 88 = some (.iand, 89, 0) := by decide +kernel
theorem i188_89 : ts_ins 188 89 = some (.ifCond .ne 18, 92, 107) := by decide +kernel
theorem i188_92 : ts_ins 188 92 = some (.aload_n 0, 93, 0) := by decide +kernel
theorem i188_93 : ts_ins 188 93 = some (.iload 7, 95, 0) := by decide +kernel
theorem i188_95 : ts_ins 188 95 = some (.iload 5, 97, 0) := by decide +kernel
theorem i188_97 : ts_ins 188 97 = some (.invokevirtual 201, 100, 0) := by decide +kernel
theorem g188_97 : ts_cal (ts_mc 188) 201 = some (0, 173, 2) := by decide +kernel
theorem i188_100 : ts_ins 188 100 = some (.ifCond .eq 7, 103, 107) := by decide +kernel
theorem i188_103 : ts_ins 188 103 = some (.iconst 1, 104, 0) := by decide +kernel
theorem i188_104 : ts_ins 188 104 = some (.goto 4, 107, 108) := by decide +kernel
theorem i188_107 : ts_ins 188 107 = some (.iconst 0, 108, 0) := by decide +kernel
theorem i188_108 : ts_ins 188 108 = some (.istore 6, 110, 0) := by decide +kernel
theorem i188_110 : ts_ins 188 110 = some (.iinc 7 1, 113, 0) := by decide +kernel
theorem i188_113 : ts_ins 188 113 = some (.goto (-44), 116, 69) := by decide +kernel
theorem i188_116 : ts_ins 188 116 = some (.iload 4, 118, 0) := by decide +kernel
theorem i188_118 : ts_ins 188 118 = some (.iload 6, 120, 0) := by decide +kernel
theorem i188_120 : ts_ins 188 120 = some (.ifCond .eq 7, 123, 127) := by decide +kernel
theorem i188_123 : ts_ins 188 123 = some (.iconst 0, 124, 0) := by decide +kernel
theorem i188_124 : ts_ins 188 124 = some (.goto 10, 127, 134) := by decide +kernel
theorem i188_127 : ts_ins 188 127 = some (.aload_n 0, 128, 0) := by decide +kernel
theorem i188_128 : ts_ins 188 128 = some (.getfield 34, 131, 0) := by decide +kernel
theorem g188_128 : ts_fm 188 34 = some (12, 19, 2) := by decide +kernel
theorem i188_131 : ts_ins 188 131 = some (.iload 5, 133, 0) := by decide +kernel
theorem i188_133 : ts_ins 188 133 = some (.iaload, 134, 0) := by decide +kernel
theorem i188_134 : ts_ins 188 134 = some (.iadd, 135, 0) := by decide +kernel
theorem i188_135 : ts_ins 188 135 = some (.istore 4, 137, 0) := by decide +kernel
theorem i188_137 : ts_ins 188 137 = some (.iinc 5 1, 140, 0) := by decide +kernel
theorem i188_140 : ts_ins 188 140 = some (.goto (-84), 143, 56) := by decide +kernel
theorem i188_143 : ts_ins 188 143 = some (.iload 4, 145, 0) := by decide +kernel
theorem i188_145 : ts_ins 188 145 = some (.iload_n 3, 146, 0) := by decide +kernel
theorem i188_146 : ts_ins 188 146 = some (.if_icmp .le 5, 149, 151) := by decide +kernel
theorem i188_149 : ts_ins 188 149 = some (.iconst 0, 150, 0) := by decide +kernel
theorem i188_150 : ts_ins 188 150 = some (.ireturn, 151, 0) := by decide +kernel
theorem i188_151 : ts_ins 188 151 = some (.iinc 2 1, 154, 0) := by decide +kernel
theorem i188_154 : ts_ins 188 154 = some (.goto (-152), 157, 2) := by decide +kernel
theorem i188_157 : ts_ins 188 157 = some (.iconst 1, 158, 0) := by decide +kernel
theorem i188_158 : ts_ins 188 158 = some (.ireturn, 159, 0) := by decide +kernel
theorem r188 : ts_rt 188 = ((some .boolean), 0, 0) := by decide +kernel
theorem l188 : ts_ml 188 = 8 := by decide +kernel
theorem i189_0 : ts_ins 189 0 = some (.aload_n 0, 1, 0) := by decide +kernel
theorem i189_1 : ts_ins 189 1 = some (.invokevirtual 205, 4, 0) := by decide +kernel
theorem g189_1 : ts_cal (ts_mc 189) 205 = some (0, 175, 0) := by decide +kernel
theorem i189_4 : ts_ins 189 4 = some (.iconst 4, 5, 0) := by decide +kernel
theorem i189_5 : ts_ins 189 5 = some (.aload_n 0, 6, 0) := by decide +kernel
theorem i189_6 : ts_ins 189 6 = some (.invokevirtual 211, 9, 0) := by decide +kernel
theorem g189_6 : ts_cal (ts_mc 189) 211 = some (0, 176, 0) := by decide +kernel
theorem i189_9 : ts_ins 189 9 = some (.iconst 1, 10, 0) := by decide +kernel
theorem i189_10 : ts_ins 189 10 = some (.iadd, 11, 0) := by decide +kernel
theorem i189_11 : ts_ins 189 11 = some (.imul, 12, 0) := by decide +kernel
theorem i189_12 : ts_ins 189 12 = some (.istore_n 1, 13, 0) := by decide +kernel
theorem i189_13 : ts_ins 189 13 = some (.iconst 0, 14, 0) := by decide +kernel
theorem i189_14 : ts_ins 189 14 = some (.istore_n 2, 15, 0) := by decide +kernel
theorem i189_15 : ts_ins 189 15 = some (.iload_n 2, 16, 0) := by decide +kernel
theorem i189_16 : ts_ins 189 16 = some (.iload_n 1, 17, 0) := by decide +kernel
theorem i189_17 : ts_ins 189 17 = some (.if_icmp .gt 19, 20, 36) := by decide +kernel
theorem i189_20 : ts_ins 189 20 = some (.aload_n 0, 21, 0) := by decide +kernel
theorem i189_21 : ts_ins 189 21 = some (.iload_n 2, 22, 0) := by decide +kernel
theorem i189_22 : ts_ins 189 22 = some (.invokevirtual 241, 25, 0) := by decide +kernel
theorem g189_22 : ts_cal (ts_mc 189) 241 = some (0, 188, 1) := by decide +kernel
theorem i189_25 : ts_ins 189 25 = some (.ifCond .eq 5, 28, 30) := by decide +kernel
theorem i189_28 : ts_ins 189 28 = some (.iload_n 2, 29, 0) := by decide +kernel
theorem i189_29 : ts_ins 189 29 = some (.ireturn, 30, 0) := by decide +kernel
theorem i189_30 : ts_ins 189 30 = some (.iinc 2 1, 33, 0) := by decide +kernel
theorem i189_33 : ts_ins 189 33 = some (.goto (-18), 36, 15) := by decide +kernel
theorem i189_36 : ts_ins 189 36 = some (.bipush (-2), 38, 0) := by decide +kernel
theorem i189_38 : ts_ins 189 38 = some (.ireturn, 39, 0) := by decide +kernel
theorem r189 : ts_rt 189 = ((some .int), 0, 0) := by decide +kernel
theorem l189 : ts_ml 189 = 3 := by decide +kernel
/-! THRESH in the reference -/
section TM
variable {X : ts_X} {I J : Nat → Nat → Int32} {L : Nat → Nat → Int64} {sw : Bool} {K : Option Value → ts_H → Prop} {d : Nat} {f : ts_Fl} {c : Int → Int}
theorem RM.fcm (h : RM I f) (e : fr fcm I J) : RM J f := h.co (fun a p0 p1 => fr_row e (fun k => by omega))
theorem m_takesNow (hM : RM I f) (hK : ∀ J, fr fcm I J → ar J 81 16 0 9 (f_corn f) → K none (J, L, ts_P0 sw, ts_S0)) : ts_Cal X (d + 1) 175 [.ref 72] (I, L, ts_P0 sw, ts_S0) K := by
  have loop : ∀ p : Int, 0 ≤ p → p ≤ 16 → ∀ J, fr fcm I J → ar J 81 p 0 9 (f_corn f) → ts_Ev X (ts_Cal X (d + 0)) 175 ts_S0 K 2 [.ref 72, .int (zI (p))] [] (J, L, ts_P0 sw, ts_S0) := by
    refine ts_ind 16 (fun p ih h0 h1 J hJ ha => ?_)
    have hM2 := hM.fcm hJ
    refine ev_iloadn_1 i175_2 ?_
    refine ew_bipush i175_3 (by decide) ?_
    refine ew_icmpge i175_5 (by omega) (fun c5 => ?_) (fun c5 => ?_)
    · refine ev_return i175_29 r175 ?_
      obtain rfl : p = 16 := by omega
      exact hK J hJ ha
    · refine ev_aloadn_0 i175_8 ?_
      refine ev_getA i175_9 g175_9 rfl rfl (by decide) ?_
      refine ev_iloadn_1 i175_12 ?_
      refine ev_aloadn_0 i175_13 ?_
      refine ev_getA i175_14 g175_14 rfl rfl (by decide) ?_
      refine ew_bipush i175_17 (by decide) ?_
      refine ev_iloadn_1 i175_19 ?_
      refine ew_iadd i175_20 ?_
      refine ew_iaload i175_21 rfl (by omega) (by omega) (by omega) ((hM2.corn _ (by omega) (by omega))) (fun b21 => ?_)
      refine ew_iastore i175_22 rfl (by omega) (by omega) (by omega) ?_
      refine ew_iinc_1 i175_23 rfl ?_
      refine ev_goto i175_26 ?_
      exact ih (by omega) (by omega) (by omega) _ (fr_up hJ (by omega)) (ar_ext2 ha h0 b21)
  refine ev_enter (lv := [.ref 72, .null]) l175 rfl (Nat.le_of_ble_eq_true rfl) ?_
  refine ew_iconst i175_0 ?_
  refine ev_istoren_1 i175_1 rfl ?_
  exact loop 0 (by decide) (by decide) I (fr_rfl _ _) (fun q q0 q1 => by omega)
theorem m_cornAll (ha : ar I 81 16 0 9 c) (hK : 0 ≤ zsum c 16 → zsum c 16 ≤ 144 → K (some (.int (zI (zsum c 16)))) (I, L, ts_P0 sw, ts_S0)) : ts_Cal X (d + 1) 176 [.ref 72] (I, L, ts_P0 sw, ts_S0) K := by
  have hb := zsum_b (g := c) (lo := 0) (hi := 9) (N := 16) (fun p p0 p1 => (ha p p0 p1).2) 16 (by decide)
  have loop : ∀ p : Int, 0 ≤ p → p ≤ 16 → ts_Ev X (ts_Cal X (d + 0)) 176 ts_S0 K 4 [.ref 72, .int (zI (zsum c p.toNat)), .int (zI (p))] [] (I, L, ts_P0 sw, ts_S0) := by
    refine ts_ind 16 (fun p ih h0 h1 => ?_)
    refine ev_iloadn_2 i176_4 ?_
    refine ew_bipush i176_5 (by decide) ?_
    refine ew_icmpge i176_7 (by omega) (fun c7 => ?_) (fun c7 => ?_)
    · refine ev_iloadn_1 i176_25 ?_
      refine ev_ireturn i176_26 r176 ?_
      obtain rfl : p = 16 := by omega
      exact hK (by omega) (by omega)
    · refine ev_iloadn_1 i176_10 ?_
      refine ev_aloadn_0 i176_11 ?_
      refine ev_getA i176_12 g176_12 rfl rfl (by decide) ?_
      refine ev_iloadn_2 i176_15 ?_
      refine ew_iaload i176_16 rfl (by omega) (by omega) (by omega) ((ha p h0 (by omega))) (fun b16 => ?_)
      refine ew_iadd i176_17 ?_
      refine ev_istoren_1 i176_18 rfl ?_
      refine ew_iinc_2 i176_19 rfl ?_
      refine ev_goto i176_22 ?_
      have e := ih (by omega) (by omega) (by omega)
      rw [zsum_s h0] at e
      exact e
  refine ev_enter (lv := [.ref 72, .null, .null]) l176 rfl (Nat.le_of_ble_eq_true rfl) ?_
  refine ew_iconst i176_0 ?_
  refine ev_istoren_1 i176_1 rfl ?_
  refine ew_iconst i176_2 ?_
  refine ev_istoren_2 i176_3 rfl ?_
  exact loop 0 (by decide) (by decide)
theorem m_areEnough (hM : RM I f) (ha : ar I 81 16 0 9 (f_corn f)) {n : Int} (hn : 0 ≤ n ∧ n ≤ 1000) (hK : K (some (.int (zI (if zall (fun g => g_alone f g ≤ g_S f g n) (zshl 1 (f_men f)).toNat = true then 1 else 0)))) (I, L, ts_P0 sw, ts_S0)) : ts_Cal X (d + 3) 188 [.ref 72, .int (zI (n))] (I, L, ts_P0 sw, ts_S0) K := by
  have b1 := hM.men.2
  have hs := zshl_men b1
  have outer : ∀ g : Int, 0 ≤ g → g ≤ zshl 1 (f_men f) → zall (fun g => g_alone f g ≤ g_S f g n) g.toNat = true → ∀ o1 o2 o3 o4 o5, ts_Ev X (ts_Cal X (d + 2)) 188 ts_S0 K 2 [.ref 72, .int (zI (n)), .int (zI (g)), o1, o2, o3, o4, o5] [] (I, L, ts_P0 sw, ts_S0) := by
    refine ts_ind (zshl 1 (f_men f)) (fun g ih h0 h1 h2 o1 o2 o3 o4 o5 => ?_)
    have hal := g_alone_r (f := f) (fun p p0 p1 => (hM.corn p p0 p1).2) g
    have sr := g_S_r (f := f) (g := g) n.toNat
    rw [show ((n.toNat : Nat) : Int) = n from by omega] at sr
    have planks : g < zshl 1 (f_men f) → ∀ p : Int, 0 ≤ p → p ≤ 16 → ∀ o4 o5, ts_Ev X (ts_Cal X (d + 2)) 188 ts_S0 K 56 [.ref 72, .int (zI (n)), .int (zI (g)), .int (zI (g_S f g n)), .int (zI (zsum (fun p => if g_al f g p then f_corn f p else 0) p.toNat)), .int (zI (p)), o4, o5] [] (I, L, ts_P0 sw, ts_S0) := by
      intro hg
      refine ts_ind 16 (fun p ihp p0 p1 o4 o5 => ?_)
      have others : p < 16 → ∀ m : Int, 0 ≤ m → m ≤ f_men f → ts_Ev X (ts_Cal X (d + 2)) 188 ts_S0 K 69 [.ref 72, .int (zI (n)), .int (zI (g)), .int (zI (g_S f g n)), .int (zI (zsum (fun p => if g_al f g p then f_corn f p else 0) p.toNat)), .int (zI (p)), .int (zI (if ¬ zall (fun m => ¬ (¬ bt g m ∧ f_can f m p)) m.toNat = true then 1 else 0)), .int (zI (m))] [] (I, L, ts_P0 sw, ts_S0) := by
        intro hp
        refine ts_ind (f_men f) (fun m ihm m0 m1 => ?_)
        have bb := bt_r g m
        refine ev_iload_7 i188_69 ?_
        refine ev_aloadn_0 i188_71 ?_
        refine ew_getI i188_72 g188_72 rfl (by first | exact hM.men | exact hM.told | exact hM.road | exact hM.stand _ (by omega) (by omega) | exact hM.reach _ (by omega) (by omega) | exact hM.arm _ (by omega) (by omega) | exact hM.late _ (by omega) (by omega) | exact hM.len _ (by omega) (by omega) | exact hM.corn _ (by omega) (by omega) | exact hM.say (by omega) (by omega) _ (by omega) (by omega) | exact hM.tone _ (by omega) (by omega)) (fun b72 => ?_)
        refine ew_icmpge i188_75 (by omega) (fun c75 => ?_) (fun c75 => ?_)
        · obtain rfl : m = f_men f := by omega
          refine ev_iload_4 i188_116 ?_
          refine ev_iload_6 i188_118 ?_
          first
          | refine ew_ifeqB i188_120 (fun c120 => ?_) (fun c120 => ?_)
          | refine ew_ifeq i188_120 (by omega) (fun c120 => ?_) (fun c120 => ?_)
          · refine ev_aloadn_0 i188_127 ?_
            refine ev_getA i188_128 g188_128 rfl rfl (by decide) ?_
            refine ev_iload_5 i188_131 ?_
            refine ew_iaload i188_133 rfl (by omega) (by omega) (by omega) ((ha p p0 (by omega))) (fun b133 => ?_)
            refine ew_iadd i188_134 ?_
            refine ev_istore_4 i188_135 rfl ?_
            refine ew_iinc_5 i188_137 rfl ?_
            refine ev_goto i188_140 ?_
            have e := ihp (by omega) (by omega) (by omega)
            rw [zsum_s p0] at e
            first
              | (rw [if_neg c120, Int.add_zero] at e
                 rw [Int.add_zero]
                 exact e _ _)
              | (rw [if_pos (Decidable.of_not_not c120)] at e
                 exact e _ _)
          · refine ew_iconst i188_123 ?_
            refine ev_goto i188_124 ?_
            refine ew_iadd i188_134 ?_
            refine ev_istore_4 i188_135 rfl ?_
            refine ew_iinc_5 i188_137 rfl ?_
            refine ev_goto i188_140 ?_
            have e := ihp (by omega) (by omega) (by omega)
            rw [zsum_s p0] at e
            first
              | (rw [if_neg c120, Int.add_zero] at e
                 rw [Int.add_zero]
                 exact e _ _)
              | (rw [if_pos (Decidable.of_not_not c120)] at e
                 exact e _ _)
        · refine ev_iload_6 i188_78 ?_
          first
          | refine ew_ifneB i188_80 (fun c80 => ?_) (fun c80 => ?_)
          | refine ew_ifne i188_80 (by omega) (fun c80 => ?_) (fun c80 => ?_)
          · refine ew_iconst i188_103 ?_
            refine ev_goto i188_104 ?_
            refine ev_istore_6 i188_108 rfl ?_
            refine ew_iinc_7 i188_110 rfl ?_
            refine ev_goto i188_113 ?_
            have e := ihm (by omega) (by omega) (by omega)
            have sp := zall_s (g := fun m => ¬ (¬ bt g m ∧ f_can f m p)) m0
            first
              | (rw [if_pos (fun r => c80 (sp.mp r).1)] at e; exact e)
              | (have q : ¬ bt g m := by unfold bt; omega
                 have q2 : f_can f m p := by assumption
                 rw [if_pos (fun r => (sp.mp r).2 ⟨q, q2⟩)] at e
                 exact e)
              | (have q2 : ¬ f_can f m p := by assumption
                 rw [if_neg (fun r => r (sp.mpr ⟨Decidable.of_not_not c80, fun t => q2 t.2⟩))] at e
                 exact e)
              | (have q : bt g m := by unfold bt; omega
                 rw [if_neg (fun r => r (sp.mpr ⟨Decidable.of_not_not c80, fun t => t.1 q⟩))] at e
                 exact e)
          · refine ev_iloadn_2 i188_83 ?_
            refine ev_iload_7 i188_84 ?_
            refine ew_ishr i188_86 ?_
            refine ew_iconst i188_87 ?_
            refine ew_iand i188_88 ?_
            first
            | refine ew_ifneB i188_89 (fun c89 => ?_) (fun c89 => ?_)
            | refine ew_ifne i188_89 ((by have := zand_r (zshr g m) 1; omega)) (fun c89 => ?_) (fun c89 => ?_)
            · refine ew_iconst i188_107 ?_
              refine ev_istore_6 i188_108 rfl ?_
              refine ew_iinc_7 i188_110 rfl ?_
              refine ev_goto i188_113 ?_
              have e := ihm (by omega) (by omega) (by omega)
              have sp := zall_s (g := fun m => ¬ (¬ bt g m ∧ f_can f m p)) m0
              first
                | (rw [if_pos (fun r => c80 (sp.mp r).1)] at e; exact e)
                | (have q : ¬ bt g m := by unfold bt; omega
                   have q2 : f_can f m p := by assumption
                   rw [if_pos (fun r => (sp.mp r).2 ⟨q, q2⟩)] at e
                   exact e)
                | (have q2 : ¬ f_can f m p := by assumption
                   rw [if_neg (fun r => r (sp.mpr ⟨Decidable.of_not_not c80, fun t => q2 t.2⟩))] at e
                   exact e)
                | (have q : bt g m := by unfold bt; omega
                   rw [if_neg (fun r => r (sp.mpr ⟨Decidable.of_not_not c80, fun t => t.1 q⟩))] at e
                   exact e)
            · refine ev_aloadn_0 i188_92 ?_
              refine ev_iload_7 i188_93 ?_
              refine ev_iload_5 i188_95 ?_
              refine ev_virt2 i188_97 g188_97 rfl (by decide +kernel) (Nat.le_of_ble_eq_true rfl) (m_reaches hM m0 (by omega) p0 hp ?_)
              first
              | refine ew_ifeqB i188_100 (fun c100 => ?_) (fun c100 => ?_)
              | refine ew_ifeq i188_100 (by omega) (fun c100 => ?_) (fun c100 => ?_)
              · refine ew_iconst i188_107 ?_
                refine ev_istore_6 i188_108 rfl ?_
                refine ew_iinc_7 i188_110 rfl ?_
                refine ev_goto i188_113 ?_
                have e := ihm (by omega) (by omega) (by omega)
                have sp := zall_s (g := fun m => ¬ (¬ bt g m ∧ f_can f m p)) m0
                first
                  | (rw [if_pos (fun r => c80 (sp.mp r).1)] at e; exact e)
                  | (have q : ¬ bt g m := by unfold bt; omega
                     have q2 : f_can f m p := by assumption
                     rw [if_pos (fun r => (sp.mp r).2 ⟨q, q2⟩)] at e
                     exact e)
                  | (have q2 : ¬ f_can f m p := by assumption
                     rw [if_neg (fun r => r (sp.mpr ⟨Decidable.of_not_not c80, fun t => q2 t.2⟩))] at e
                     exact e)
                  | (have q : bt g m := by unfold bt; omega
                     rw [if_neg (fun r => r (sp.mpr ⟨Decidable.of_not_not c80, fun t => t.1 q⟩))] at e
                     exact e)
              · refine ew_iconst i188_103 ?_
                refine ev_goto i188_104 ?_
                refine ev_istore_6 i188_108 rfl ?_
                refine ew_iinc_7 i188_110 rfl ?_
                refine ev_goto i188_113 ?_
                have e := ihm (by omega) (by omega) (by omega)
                have sp := zall_s (g := fun m => ¬ (¬ bt g m ∧ f_can f m p)) m0
                first
                  | (rw [if_pos (fun r => c80 (sp.mp r).1)] at e; exact e)
                  | (have q : ¬ bt g m := by unfold bt; omega
                     have q2 : f_can f m p := by assumption
                     rw [if_pos (fun r => (sp.mp r).2 ⟨q, q2⟩)] at e
                     exact e)
                  | (have q2 : ¬ f_can f m p := by assumption
                     rw [if_neg (fun r => r (sp.mpr ⟨Decidable.of_not_not c80, fun t => q2 t.2⟩))] at e
                     exact e)
                  | (have q : bt g m := by unfold bt; omega
                     rw [if_neg (fun r => r (sp.mpr ⟨Decidable.of_not_not c80, fun t => t.1 q⟩))] at e
                     exact e)
      refine ev_iload_5 i188_56 ?_
      refine ew_bipush i188_58 (by decide) ?_
      refine ew_icmpge i188_60 (by omega) (fun c60 => ?_) (fun c60 => ?_)
      · obtain rfl : p = 16 := by omega
        have ea : zsum (fun p => if g_al f g p then f_corn f p else 0) (16 : Int).toNat = g_alone f g := rfl
        rw [ea]
        refine ev_iload_4 i188_143 ?_
        refine ev_iloadn_3 i188_145 ?_
        refine ew_icmple i188_146 (by omega) (fun c146 => ?_) (fun c146 => ?_)
        · refine ew_iinc_2 i188_151 rfl ?_
          refine ev_goto i188_154 ?_
          exact ih (by omega) (by omega) (by omega) ((zall_s h0).mpr ⟨h2, by omega⟩) _ _ _ _ _
        · refine ew_iconst i188_149 ?_
          exact ew_zreturn i188_150 r188 (Or.inr ⟨rfl, fun r => by have e := zall_t.mp r g h0 hg; omega⟩) hK
      · refine ew_iconst i188_63 ?_
        refine ev_istore_6 i188_64 rfl ?_
        refine ew_iconst i188_66 ?_
        refine ev_istore_7 i188_67 rfl ?_
        have e := others (by omega) 0 (by decide) (by omega)
        rw [if_neg (fun r => r rfl)] at e
        exact e
    have beats : g < zshl 1 (f_men f) → ∀ b : Int, 0 ≤ b → b ≤ n → ∀ o3 o4 o5, ts_Ev X (ts_Cal X (d + 2)) 188 ts_S0 K 17 [.ref 72, .int (zI (n)), .int (zI (g)), .int (zI (g_S f g b)), .int (zI (b)), o3, o4, o5] [] (I, L, ts_P0 sw, ts_S0) := by
      intro hg
      refine ts_ind n (fun b ihb k0 k1 o3 o4 o5 => ?_)
      refine ev_iload_4 i188_17 ?_
      refine ev_iloadn_1 i188_19 ?_
      refine ew_icmpge i188_20 (by omega) (fun c20 => ?_) (fun c20 => ?_)
      · have e : g_S f g b = g_S f g n := by
          by_cases q : b = n
          · rw [q]
          · have z : ∀ k : Nat, g_S f g k = 0 := by
              intro k
              induction k with
              | zero => rfl
              | succ k ihk =>
                have e := g_S_s (f := f) (g := g) (n := (k : Int)) (by omega)
                have e2 : g_st f g k = 0 := by unfold g_st; exact if_neg (fun r => by omega)
                rw [show ((k + 1 : Nat) : Int) = (k : Int) + 1 from rfl, e, e2, ihk]
                rfl
            have z1 := z b.toNat
            have z2 := z n.toNat
            rw [show ((b.toNat : Nat) : Int) = b from by omega] at z1
            rw [show ((n.toNat : Nat) : Int) = n from by omega] at z2
            rw [z1, z2]
        rw [e]
        refine ew_iconst i188_50 ?_
        refine ev_istore_4 i188_51 rfl ?_
        refine ew_iconst i188_53 ?_
        refine ev_istore_5 i188_54 rfl ?_
        exact planks hg 0 (by decide) (by decide) _ _
      · refine ev_aloadn_0 i188_23 ?_
        refine ew_getI i188_24 g188_24 rfl (by first | exact hM.men | exact hM.told | exact hM.road | exact hM.stand _ (by omega) (by omega) | exact hM.reach _ (by omega) (by omega) | exact hM.arm _ (by omega) (by omega) | exact hM.late _ (by omega) (by omega) | exact hM.len _ (by omega) (by omega) | exact hM.corn _ (by omega) (by omega) | exact hM.say (by omega) (by omega) _ (by omega) (by omega) | exact hM.tone _ (by omega) (by omega)) (fun b24 => ?_)
        refine ew_ifle i188_27 (by omega) (fun c27 => ?_) (fun c27 => ?_)
        · have e : g_S f g b = g_S f g n := by
            by_cases q : b = n
            · rw [q]
            · have z : ∀ k : Nat, g_S f g k = 0 := by
                intro k
                induction k with
                | zero => rfl
                | succ k ihk =>
                  have e := g_S_s (f := f) (g := g) (n := (k : Int)) (by omega)
                  have e2 : g_st f g k = 0 := by unfold g_st; exact if_neg (fun r => by omega)
                  rw [show ((k + 1 : Nat) : Int) = (k : Int) + 1 from rfl, e, e2, ihk]
                  rfl
              have z1 := z b.toNat
              have z2 := z n.toNat
              rw [show ((b.toNat : Nat) : Int) = b from by omega] at z1
              rw [show ((n.toNat : Nat) : Int) = n from by omega] at z2
              rw [z1, z2]
          rw [e]
          refine ew_iconst i188_50 ?_
          refine ev_istore_4 i188_51 rfl ?_
          refine ew_iconst i188_53 ?_
          refine ev_istore_5 i188_54 rfl ?_
          exact planks hg 0 (by decide) (by decide) _ _
        · refine ev_iloadn_3 i188_30 ?_
          refine ev_iloadn_2 i188_31 ?_
          refine ev_iload_4 i188_32 ?_
          refine ev_aloadn_0 i188_34 ?_
          refine ew_getI i188_35 g188_35 rfl (by first | exact hM.men | exact hM.told | exact hM.road | exact hM.stand _ (by omega) (by omega) | exact hM.reach _ (by omega) (by omega) | exact hM.arm _ (by omega) (by omega) | exact hM.late _ (by omega) (by omega) | exact hM.len _ (by omega) (by omega) | exact hM.corn _ (by omega) (by omega) | exact hM.say (by omega) (by omega) _ (by omega) (by omega) | exact hM.tone _ (by omega) (by omega)) (fun b35 => ?_)
          refine ew_iremB i188_38 (by omega) (by omega) (fun r38 => ?_)
          refine ew_ishr i188_39 ?_
          refine ew_iconst i188_40 ?_
          refine ew_iand i188_41 ?_
          refine ew_iadd i188_42 ?_
          refine ev_istoren_3 i188_43 rfl ?_
          refine ew_iinc_4 i188_44 rfl ?_
          refine ev_goto i188_47 ?_
          have e := ihb (by omega) (by omega) (by omega)
          rw [g_S_s k0] at e
          have e2 : g_st f g b = zand (zshr g (b % f_men f)) 1 := by
            unfold g_st
            by_cases r : 0 < f_men f ∧ bt g (b % f_men f)
            · rw [if_pos r]
              exact r.2.symm
            · rw [if_neg r]
              rcases bt_r g (b % f_men f) with q | q
              · exact q.symm
              · exact absurd ⟨by omega, q⟩ r
          rw [e2] at e
          exact e _ _ _
    refine ev_iloadn_2 i188_2 ?_
    refine ew_iconst i188_3 ?_
    refine ev_aloadn_0 i188_4 ?_
    refine ew_getI i188_5 g188_5 rfl (by first | exact hM.men | exact hM.told | exact hM.road | exact hM.stand _ (by omega) (by omega) | exact hM.reach _ (by omega) (by omega) | exact hM.arm _ (by omega) (by omega) | exact hM.late _ (by omega) (by omega) | exact hM.len _ (by omega) (by omega) | exact hM.corn _ (by omega) (by omega) | exact hM.say (by omega) (by omega) _ (by omega) (by omega) | exact hM.tone _ (by omega) (by omega)) (fun b5 => ?_)
    refine ew_ishl i188_8 ?_
    refine ew_icmpge i188_9 (by omega) (fun c9 => ?_) (fun c9 => ?_)
    · refine ew_iconst i188_157 ?_
      obtain rfl : g = zshl 1 (f_men f) := by omega
      exact ew_zreturn i188_158 r188 (Or.inl ⟨rfl, h2⟩) hK
    · refine ew_iconst i188_12 ?_
      refine ev_istoren_3 i188_13 rfl ?_
      refine ew_iconst i188_14 ?_
      refine ev_istore_4 i188_15 rfl ?_
      exact beats (by omega) 0 (by decide) (by omega) _ _ _
  refine ev_enter (lv := [.ref 72, .int (zI (n)), .null, .null, .null, .null, .null, .null]) l188 rfl (Nat.le_of_ble_eq_true rfl) ?_
  refine ew_iconst i188_0 ?_
  refine ev_istoren_2 i188_1 rfl ?_
  exact outer 0 (by decide) (by omega) rfl _ _ _ _ _
theorem m_thresh (hM : RM I f) (hK : ∀ J, fr fcm I J → K (some (.int (zI (g_thM f)))) (J, L, ts_P0 sw, ts_S0)) : ts_Cal X (d + 4) 189 [.ref 72] (I, L, ts_P0 sw, ts_S0) K := by
  unfold g_thM at hK
  refine ev_enter (lv := [.ref 72, .null, .null]) l189 rfl (Nat.le_of_ble_eq_true rfl) ?_
  refine ev_aloadn_0 i189_0 ?_
  refine ev_virt0 i189_1 g189_1 rfl (by decide +kernel) (Nat.le_of_ble_eq_true rfl) (m_takesNow hM (fun J h1 h2 => ?_))
  refine ew_iconst i189_4 ?_
  refine ev_aloadn_0 i189_5 ?_
  refine ev_virt0 i189_6 g189_6 rfl (by decide +kernel) (Nat.le_of_ble_eq_true rfl) (m_cornAll h2 (fun q0 q1 => ?_))
  refine ew_iconst i189_9 ?_
  refine ew_iadd i189_10 ?_
  refine ew_imul i189_11 ?_
  refine ev_istoren_1 i189_12 rfl ?_
  refine ew_iconst i189_13 ?_
  refine ev_istoren_2 i189_14 rfl ?_
  have loop : ∀ n : Int, 0 ≤ n → n ≤ 4 * (zsum (f_corn f) 16 + 1) + 1 → zfd (4 * (zsum (f_corn f) 16 + 1) + 1) (fun n => zall (fun g => g_alone f g ≤ g_S f g n) (zshl 1 (f_men f)).toNat = true) (-2) n = zfd (4 * (zsum (f_corn f) 16 + 1) + 1) (fun n => zall (fun g => g_alone f g ≤ g_S f g n) (zshl 1 (f_men f)).toNat = true) (-2) 0 → ts_Ev X (ts_Cal X (d + 3)) 189 ts_S0 K 15 [.ref 72, .int (zI (4 * (zsum (f_corn f) 16 + 1))), .int (zI (n))] [] (J, L, ts_P0 sw, ts_S0) := by
    refine ts_ind (4 * (zsum (f_corn f) 16 + 1) + 1) (fun n ih k0 k1 k2 => ?_)
    refine ev_iloadn_2 i189_15 ?_
    refine ev_iloadn_1 i189_16 ?_
    refine ew_icmpgt i189_17 (by omega) (fun c17 => ?_) (fun c17 => ?_)
    · refine ew_bipush i189_36 (by decide) ?_
      refine ev_ireturn i189_38 r189 ?_
      rw [zfd_0 (by omega)] at k2
      rw [k2]
      exact hK J h1
    · refine ev_aloadn_0 i189_20 ?_
      refine ev_iloadn_2 i189_21 ?_
      refine ev_virt1 i189_22 g189_22 rfl (by decide +kernel) (Nat.le_of_ble_eq_true rfl) (m_areEnough (hM.fcm h1) h2 (by omega) ?_)
      first
      | refine ew_ifeqB i189_25 (fun c25 => ?_) (fun c25 => ?_)
      | refine ew_ifeq i189_25 (by omega) (fun c25 => ?_) (fun c25 => ?_)
      · refine ew_iinc_2 i189_30 rfl ?_
        refine ev_goto i189_33 ?_
        rw [zfd_1 (by omega), if_neg c25] at k2
        exact ih (by omega) (by omega) (by omega) k2
      · refine ev_iloadn_2 i189_28 ?_
        refine ev_ireturn i189_29 r189 ?_
        rw [zfd_1 (by omega), if_pos c25] at k2
        rw [k2]
        exact hK J h1
  exact loop 0 (by decide) (by omega) rfl
end TM
