theorem i45_0 : ts_ins 45 0 = some (.iload_n 1, 1, 0) := by decide +kernel
theorem i45_1 : ts_ins 45 1 = some (.iconst 5, 2, 0) := by decide +kernel
theorem i45_2 : ts_ins 45 2 = some (.if_icmp .lt 9, 5, 11) := by decide +kernel
theorem i45_5 : ts_ins 45 5 = some (.aload_n 0, 6, 0) := by decide +kernel
theorem i45_6 : ts_ins 45 6 = some (.iload_n 2, 7, 0) := by decide +kernel
theorem i45_7 : ts_ins 45 7 = some (.invokevirtual 55, 10, 0) := by decide +kernel
theorem g45_7 : ts_cal (ts_mc 45) 55 = some (0, 47, 1) := by decide +kernel
theorem i45_10 : ts_ins 45 10 = some (.ireturn, 11, 0) := by decide +kernel
theorem i45_11 : ts_ins 45 11 = some (.aload_n 0, 12, 0) := by decide +kernel
theorem i45_12 : ts_ins 45 12 = some (.iload_n 1, 13, 0) := by decide +kernel
theorem i45_13 : ts_ins 45 13 = some (.iconst 1, 14, 0) := by decide +kernel
theorem i45_14 : ts_ins 45 14 = some (.iadd, 15, 0) := by decide +kernel
theorem i45_15 : ts_ins 45 15 = some (.iload_n 2, 16, 0) := by decide +kernel
theorem i45_16 : ts_ins 45 16 = some (.invokevirtual 44, 19, 0) := by decide +kernel
theorem g45_16 : ts_cal (ts_mc 45) 44 = some (0, 45, 2) := by decide +kernel
theorem i45_19 : ts_ins 45 19 = some (.ifCond .ne 5, 22, 24) := by decide +kernel
theorem i45_22 : ts_ins 45 22 = some (.iconst 0, 23, 0) := by decide +kernel
theorem i45_23 : ts_ins 45 23 = some (.ireturn, 24, 0) := by decide +kernel
theorem i45_24 : ts_ins 45 24 = some (.iload_n 1, 25, 0) := by decide +kernel
theorem i45_25 : ts_ins 45 25 = some (.iconst 2, 26, 0) := by decide +kernel
theorem i45_26 : ts_ins 45 26 = some (.if_icmp .ne 7, 29, 33) := by decide +kernel
theorem i45_29 : ts_ins 45 29 = some (.iconst 1, 30, 0) := by decide +kernel
theorem i45_30 : ts_ins 45 30 = some (.goto 5, 33, 35) := by decide +kernel
theorem i45_33 : ts_ins 45 33 = some (.bipush 120, 35, 0) := by decide +kernel
theorem i45_35 : ts_ins 45 35 = some (.istore_n 3, 36, 0) := by decide +kernel
theorem i45_36 : ts_ins 45 36 = some (.iconst 0, 37, 0) := by decide +kernel
theorem i45_37 : ts_ins 45 37 = some (.istore 4, 39, 0) := by decide +kernel
theorem i45_39 : ts_ins 45 39 = some (.iload 4, 41, 0) := by decide +kernel
theorem i45_41 : ts_ins 45 41 = some (.iload_n 3, 42, 0) := by decide +kernel
theorem i45_42 : ts_ins 45 42 = some (.if_icmp .ge 60, 45, 102) := by decide +kernel
theorem i45_45 : ts_ins 45 45 = some (.aload_n 0, 46, 0) := by decide +kernel
theorem i45_46 : ts_ins 45 46 = some (.invokevirtual 36, 49, 0) := by decide +kernel
theorem g45_46 : ts_cal (ts_mc 45) 36 = some (0, 42, 0) := by decide +kernel
theorem i45_49 : ts_ins 45 49 = some (.invokestatic 58, 52, 0) := by decide +kernel
theorem g45_49 : ts_cal (ts_mc 45) 58 = some (1, 46, 1) := by decide +kernel
theorem i45_52 : ts_ins 45 52 = some (.iload_n 1, 53, 0) := by decide +kernel
theorem i45_53 : ts_ins 45 53 = some (.if_icmp .ne 49, 56, 102) := by decide +kernel
theorem i45_56 : ts_ins 45 56 = some (.aload_n 0, 57, 0) := by decide +kernel
theorem i45_57 : ts_ins 45 57 = some (.invokevirtual 36, 60, 0) := by decide +kernel
theorem g45_57 : ts_cal (ts_mc 45) 36 = some (0, 42, 0) := by decide +kernel
theorem i45_60 : ts_ins 45 60 = some (.istore 5, 62, 0) := by decide +kernel
theorem i45_62 : ts_ins 45 62 = some (.aload_n 0, 63, 0) := by decide +kernel
theorem i45_63 : ts_ins 45 63 = some (.dup, 64, 0) := by decide +kernel
theorem i45_64 : ts_ins 45 64 = some (.getfield 19, 67, 0) := by decide +kernel
theorem g45_64 : ts_fm 45 19 = some (5, 2, 0) := by decide +kernel
theorem i45_67 : ts_ins 45 67 = some (.iconst 1, 68, 0) := by decide +kernel
theorem i45_68 : ts_ins 45 68 = some (.iadd, 69, 0) := by decide +kernel
theorem i45_69 : ts_ins 45 69 = some (.putfield 19, 72, 0) := by decide +kernel
theorem g45_69 : ts_fmm 45 19 = some (5, 2, 0, false) := by decide +kernel
theorem i45_72 : ts_ins 45 72 = some (.aload_n 0, 73, 0) := by decide +kernel
theorem i45_73 : ts_ins 45 73 = some (.iload_n 1, 74, 0) := by decide +kernel
theorem i45_74 : ts_ins 45 74 = some (.iconst 1, 75, 0) := by decide +kernel
theorem i45_75 : ts_ins 45 75 = some (.iadd, 76, 0) := by decide +kernel
theorem i45_76 : ts_ins 45 76 = some (.iload_n 2, 77, 0) := by decide +kernel
theorem i45_77 : ts_ins 45 77 = some (.invokevirtual 44, 80, 0) := by decide +kernel
theorem g45_77 : ts_cal (ts_mc 45) 44 = some (0, 45, 2) := by decide +kernel
theorem i45_80 : ts_ins 45 80 = some (.ifCond .ne 5, 83, 85) := by decide +kernel
theorem i45_83 : ts_ins 45 83 = some (.iconst 0, 84, 0) := by decide +kernel
theorem i45_84 : ts_ins 45 84 = some (.ireturn, 85, 0) := by decide +kernel
theorem i45_85 : ts_ins 45 85 = some (.aload_n 0, 86, 0) := by decide +kernel
theorem i45_86 : ts_ins 45 86 = some (.getfield 25, 89, 0) := by decide +kernel
theorem g45_86 : ts_fm 45 25 = some (5, 3, 2) := by decide +kernel
theorem i45_89 : ts_ins 45 89 = some (.iload 5, 91, 0) := by decide +kernel
theorem i45_91 : ts_ins 45 91 = some (.iconst 0, 92, 0) := by decide +kernel
theorem i45_92 : ts_ins 45 92 = some (.invokevirtual 48, 95, 0) := by decide +kernel
theorem g45_92 : ts_cal (ts_mc 45) 48 = some (0, 35, 2) := by decide +kernel
theorem i45_95 : ts_ins 45 95 = some (.pop, 96, 0) := by decide +kernel
theorem i45_96 : ts_ins 45 96 = some (.iinc 4 1, 99, 0) := by decide +kernel
theorem i45_99 : ts_ins 45 99 = some (.goto (-60), 102, 39) := by decide +kernel
theorem i45_102 : ts_ins 45 102 = some (.iconst 1, 103, 0) := by decide +kernel
theorem i45_103 : ts_ins 45 103 = some (.ireturn, 104, 0) := by decide +kernel
theorem r45 : ts_rt 45 = ((some .boolean), 0, 0) := by decide +kernel
theorem l45 : ts_ml 45 = 6 := by decide +kernel
theorem i47_0 : ts_ins 47 0 = some (.aload_n 0, 1, 0) := by decide +kernel
theorem i47_1 : ts_ins 47 1 = some (.invokevirtual 36, 4, 0) := by decide +kernel
theorem g47_1 : ts_cal (ts_mc 47) 36 = some (0, 42, 0) := by decide +kernel
theorem i47_4 : ts_ins 47 4 = some (.istore_n 2, 5, 0) := by decide +kernel
theorem i47_5 : ts_ins 47 5 = some (.iload_n 2, 6, 0) := by decide +kernel
theorem i47_6 : ts_ins 47 6 = some (.iconst (-1), 7, 0) := by decide +kernel
theorem i47_7 : ts_ins 47 7 = some (.if_icmp .ne 5, 10, 12) := by decide +kernel
theorem i47_10 : ts_ins 47 10 = some (.iconst 0, 11, 0) := by decide +kernel
theorem i47_11 : ts_ins 47 11 = some (.ireturn, 12, 0) := by decide +kernel
theorem i47_12 : ts_ins 47 12 = some (.iload_n 2, 13, 0) := by decide +kernel
theorem i47_13 : ts_ins 47 13 = some (.invokestatic 62, 16, 0) := by decide +kernel
theorem g47_13 : ts_cal (ts_mc 47) 62 = some (1, 49, 1) := by decide +kernel
theorem i47_16 : ts_ins 47 16 = some (.ifCond .eq 9, 19, 25) := by decide +kernel
theorem i47_19 : ts_ins 47 19 = some (.aload_n 0, 20, 0) := by decide +kernel
theorem i47_20 : ts_ins 47 20 = some (.invokevirtual 65, 23, 0) := by decide +kernel
theorem g47_20 : ts_cal (ts_mc 47) 65 = some (0, 48, 0) := by decide +kernel
theorem i47_23 : ts_ins 47 23 = some (.iconst 1, 24, 0) := by decide +kernel
theorem i47_24 : ts_ins 47 24 = some (.ireturn, 25, 0) := by decide +kernel
theorem i47_25 : ts_ins 47 25 = some (.ldc 68, 27, 0) := by decide +kernel
theorem g47_25 : ts_lc (ts_mc 47) 68 = some (.ref 1004) := by decide +kernel
theorem i47_27 : ts_ins 47 27 = some (.iload_n 2, 28, 0) := by decide +kernel
theorem i47_28 : ts_ins 47 28 = some (.i2c, 29, 0) := by decide +kernel
theorem i47_29 : ts_ins 47 29 = some (.invokevirtual 70, 32, 0) := by decide +kernel
theorem g47_29 : ts_cal (ts_mc 47) 70 = some (0, 241, 1) := by decide +kernel
theorem i47_32 : ts_ins 47 32 = some (.istore_n 3, 33, 0) := by decide +kernel
theorem i47_33 : ts_ins 47 33 = some (.iload_n 3, 34, 0) := by decide +kernel
theorem i47_34 : ts_ins 47 34 = some (.ifCond .lt 25, 37, 59) := by decide +kernel
theorem i47_37 : ts_ins 47 37 = some (.aload_n 0, 38, 0) := by decide +kernel
theorem i47_38 : ts_ins 47 38 = some (.dup, 39, 0) := by decide +kernel
theorem i47_39 : ts_ins 47 39 = some (.getfield 19, 42, 0) := by decide +kernel
theorem g47_39 : ts_fm 47 19 = some (5, 2, 0) := by decide +kernel
theorem i47_42 : ts_ins 47 42 = some (.iconst 1, 43, 0) := by decide +kernel
theorem i47_43 : ts_ins 47 43 = some (.iadd, 44, 0) := by decide +kernel
theorem i47_44 : ts_ins 47 44 = some (.putfield 19, 47, 0) := by decide +kernel
theorem g47_44 : ts_fmm 47 19 = some (5, 2, 0, false) := by decide +kernel
theorem i47_47 : ts_ins 47 47 = some (.aload_n 0, 48, 0) := by decide +kernel
theorem i47_48 : ts_ins 47 48 = some (.getfield 25, 51, 0) := by decide +kernel
theorem g47_48 : ts_fm 47 25 = some (5, 3, 2) := by decide +kernel
theorem i47_51 : ts_ins 47 51 = some (.iconst 1, 52, 0) := by decide +kernel
theorem i47_52 : ts_ins 47 52 = some (.iload_n 3, 53, 0) := by decide +kernel
theorem i47_53 : ts_ins 47 53 = some (.invokevirtual 48, 56, 0) := by decide +kernel
theorem g47_53 : ts_cal (ts_mc 47) 48 = some (0, 35, 2) := by decide +kernel
theorem i47_56 : ts_ins 47 56 = some (.pop, 57, 0) := by decide +kernel
theorem i47_57 : ts_ins 47 57 = some (.iconst 1, 58, 0) := by decide +kernel
theorem i47_58 : ts_ins 47 58 = some (.ireturn, 59, 0) := by decide +kernel
theorem i47_59 : ts_ins 47 59 = some (.iload_n 2, 60, 0) := by decide +kernel
theorem i47_60 : ts_ins 47 60 = some (.bipush 40, 62, 0) := by decide +kernel
theorem i47_62 : ts_ins 47 62 = some (.if_icmp .eq 15, 65, 77) := by decide +kernel
theorem i47_65 : ts_ins 47 65 = some (.iload_n 2, 66, 0) := by decide +kernel
theorem i47_66 : ts_ins 47 66 = some (.bipush 33, 68, 0) := by decide +kernel
theorem i47_68 : ts_ins 47 68 = some (.if_icmp .eq 9, 71, 77) := by decide +kernel
theorem i47_71 : ts_ins 47 71 = some (.iload_n 2, 72, 0) := by decide +kernel
theorem i47_72 : ts_ins 47 72 = some (.bipush 45, 74, 0) := by decide +kernel
theorem i47_74 : ts_ins 47 74 = some (.if_icmp .ne 7, 77, 81) := by decide +kernel
theorem i47_77 : ts_ins 47 77 = some (.iconst 1, 78, 0) := by decide +kernel
theorem i47_78 : ts_ins 47 78 = some (.goto 4, 81, 82) := by decide +kernel
theorem i47_81 : ts_ins 47 81 = some (.iconst 0, 82, 0) := by decide +kernel
theorem i47_82 : ts_ins 47 82 = some (.istore 4, 84, 0) := by decide +kernel
theorem i47_84 : ts_ins 47 84 = some (.iload 4, 86, 0) := by decide +kernel
theorem i47_86 : ts_ins 47 86 = some (.ifCond .eq 9, 89, 95) := by decide +kernel
theorem i47_89 : ts_ins 47 89 = some (.iload_n 1, 90, 0) := by decide +kernel
theorem i47_90 : ts_ins 47 90 = some (.bipush 6, 92, 0) := by decide +kernel
theorem i47_92 : ts_ins 47 92 = some (.if_icmp .lt 5, 95, 97) := by decide +kernel
theorem i47_95 : ts_ins 47 95 = some (.iconst 0, 96, 0) := by decide +kernel
theorem i47_96 : ts_ins 47 96 = some (.ireturn, 97, 0) := by decide +kernel
theorem i47_97 : ts_ins 47 97 = some (.aload_n 0, 98, 0) := by decide +kernel
theorem i47_98 : ts_ins 47 98 = some (.dup, 99, 0) := by decide +kernel
theorem i47_99 : ts_ins 47 99 = some (.getfield 19, 102, 0) := by decide +kernel
theorem g47_99 : ts_fm 47 19 = some (5, 2, 0) := by decide +kernel
theorem i47_102 : ts_ins 47 102 = some (.iconst 1, 103, 0) := by decide +kernel
theorem i47_103 : ts_ins 47 103 = some (.iadd, 104, 0) := by decide +kernel
theorem i47_104 : ts_ins 47 104 = some (.putfield 19, 107, 0) := by decide +kernel
theorem g47_104 : ts_fmm 47 19 = some (5, 2, 0, false) := by decide +kernel
theorem i47_107 : ts_ins 47 107 = some (.iload_n 2, 108, 0) := by decide +kernel
theorem i47_108 : ts_ins 47 108 = some (.bipush 40, 110, 0) := by decide +kernel
theorem i47_110 : ts_ins 47 110 = some (.if_icmp .ne 29, 113, 139) := by decide +kernel
theorem i47_113 : ts_ins 47 113 = some (.aload_n 0, 114, 0) := by decide +kernel
theorem i47_114 : ts_ins 47 114 = some (.iconst 0, 115, 0) := by decide +kernel
theorem i47_115 : ts_ins 47 115 = some (.iload_n 1, 116, 0) := by decide +kernel
theorem i47_116 : ts_ins 47 116 = some (.iconst 1, 117, 0) := by decide +kernel
theorem i47_117 : ts_ins 47 117 = some (.iadd, 118, 0) := by decide +kernel
theorem i47_118 : ts_ins 47 118 = some (.invokevirtual 44, 121, 0) := by decide +kernel
theorem g47_118 : ts_cal (ts_mc 47) 44 = some (0, 45, 2) := by decide +kernel
theorem i47_121 : ts_ins 47 121 = some (.ifCond .eq 16, 124, 137) := by decide +kernel
theorem i47_124 : ts_ins 47 124 = some (.aload_n 0, 125, 0) := by decide +kernel
theorem i47_125 : ts_ins 47 125 = some (.bipush 41, 127, 0) := by decide +kernel
theorem i47_127 : ts_ins 47 127 = some (.invokevirtual 40, 130, 0) := by decide +kernel
theorem g47_127 : ts_cal (ts_mc 47) 40 = some (0, 43, 1) := by decide +kernel
theorem i47_130 : ts_ins 47 130 = some (.ifCond .eq 7, 133, 137) := by decide +kernel
theorem i47_133 : ts_ins 47 133 = some (.iconst 1, 134, 0) := by decide +kernel
theorem i47_134 : ts_ins 47 134 = some (.goto 4, 137, 138) := by decide +kernel
theorem i47_137 : ts_ins 47 137 = some (.iconst 0, 138, 0) := by decide +kernel
theorem i47_138 : ts_ins 47 138 = some (.ireturn, 139, 0) := by decide +kernel
theorem i47_139 : ts_ins 47 139 = some (.aload_n 0, 140, 0) := by decide +kernel
theorem i47_140 : ts_ins 47 140 = some (.iload_n 1, 141, 0) := by decide +kernel
theorem i47_141 : ts_ins 47 141 = some (.iconst 1, 142, 0) := by decide +kernel
theorem i47_142 : ts_ins 47 142 = some (.iadd, 143, 0) := by decide +kernel
theorem i47_143 : ts_ins 47 143 = some (.invokevirtual 55, 146, 0) := by decide +kernel
theorem g47_143 : ts_cal (ts_mc 47) 55 = some (0, 47, 1) := by decide +kernel
theorem i47_146 : ts_ins 47 146 = some (.ifCond .ne 5, 149, 151) := by decide +kernel
theorem i47_149 : ts_ins 47 149 = some (.iconst 0, 150, 0) := by decide +kernel
theorem i47_150 : ts_ins 47 150 = some (.ireturn, 151, 0) := by decide +kernel
theorem i47_151 : ts_ins 47 151 = some (.aload_n 0, 152, 0) := by decide +kernel
theorem i47_152 : ts_ins 47 152 = some (.getfield 25, 155, 0) := by decide +kernel
theorem g47_152 : ts_fm 47 25 = some (5, 3, 2) := by decide +kernel
theorem i47_155 : ts_ins 47 155 = some (.iload_n 2, 156, 0) := by decide +kernel
theorem i47_156 : ts_ins 47 156 = some (.bipush 33, 158, 0) := by decide +kernel
theorem i47_158 : ts_ins 47 158 = some (.if_icmp .ne 7, 161, 165) := by decide +kernel
theorem i47_161 : ts_ins 47 161 = some (.iconst 4, 162, 0) := by decide +kernel
theorem i47_162 : ts_ins 47 162 = some (.goto 4, 165, 166) := by decide +kernel
theorem i47_165 : ts_ins 47 165 = some (.iconst 5, 166, 0) := by decide +kernel
theorem i47_166 : ts_ins 47 166 = some (.iconst 0, 167, 0) := by decide +kernel
theorem i47_167 : ts_ins 47 167 = some (.invokevirtual 48, 170, 0) := by decide +kernel
theorem g47_167 : ts_cal (ts_mc 47) 48 = some (0, 35, 2) := by decide +kernel
theorem i47_170 : ts_ins 47 170 = some (.pop, 171, 0) := by decide +kernel
theorem i47_171 : ts_ins 47 171 = some (.iconst 1, 172, 0) := by decide +kernel
theorem i47_172 : ts_ins 47 172 = some (.ireturn, 173, 0) := by decide +kernel
theorem r47 : ts_rt 47 = ((some .boolean), 0, 0) := by decide +kernel
theorem l47 : ts_ml 47 = 5 := by decide +kernel
/-! the class's reader: a level, one -/
def CXs (E : Nat) (cx : CP) (n : Int) (tx : Int → Int) (p s : Int) (st op : Int → Int) (q s' : Int) (st' op' : Int → Int) : Prop := ∀ (X : ts_X) (d : Nat) (I : Nat → Nat → Int32) (L : Nat → Nat → Int64) (sw : Bool) (K : Option Value → ts_H → Prop), E ≤ d → SX I sw n tx p s st op → (∀ J, fr (fzr sw) I J → SX J sw n tx q s' st' op' → K (some (.int (zI (1)))) (J, L, ts_P0 sw, ts_S0)) → cx X d I L sw K
def CXf (E : Nat) (cx : CP) (n : Int) (tx : Int → Int) (p s : Int) (st op : Int → Int) (q : Int) : Prop := ∀ (X : ts_X) (d : Nat) (I : Nat → Nat → Int32) (L : Nat → Nat → Int64) (sw : Bool) (K : Option Value → ts_H → Prop), E ≤ d → SX I sw n tx p s st op → (∀ J, fr (fzr sw) I J → rd (J 24 2) 0 120 q → K (some (.int (zI (0)))) (J, L, ts_P0 sw, ts_S0)) → cx X d I L sw K
abbrev cxl (lv o : Int) : CP := fun X d I L sw K => ts_Cal X (d + 1) 45 [.ref 24, .int (zI (lv)), .int (zI (o))] (I, L, ts_P0 sw, ts_S0) K
abbrev cxo (o : Int) : CP := fun X d I L sw K => ts_Cal X (d + 1) 47 [.ref 24, .int (zI (o))] (I, L, ts_P0 sw, ts_S0) K
section CL
variable {X : ts_X} {I J : Nat → Nat → Int32} {L : Nat → Nat → Int64} {sw : Bool} {K : Option Value → ts_H → Prop} {d E : Nat} {n p s q s' lv o i most : Int} {tx st op st' op' : Int → Int}
theorem XL_end (hS : SX I sw n tx p s st op) (p0 : 0 ≤ p) (hl : 0 ≤ lv ∧ lv < 5) (hi : 0 ≤ i ∧ i ≤ 120) (hm : 0 ≤ most ∧ most ≤ 120) (he : most ≤ i ∨ ¬ lof (t_nx n tx p) = lv) (hK : K (some (.int (zI (1)))) (I, L, ts_P0 sw, ts_S0)) (o5 : Value) : ts_Ev X (ts_Cal X (d + 1)) 45 ts_S0 K 39 [.ref 24, .int (zI (lv)), .int (zI (o)), .int (zI (most)), .int (zI (i)), o5] [] (I, L, ts_P0 sw, ts_S0) := by
  have r := hS.nx_r p0
  have r2 : 0 ≤ lof (t_nx n tx p) ∧ lof (t_nx n tx p) ≤ 5 := by unfold lof; omega
  refine ev_iload_4 i45_39 ?_
  refine ev_iloadn_3 i45_41 ?_
  refine ew_icmpge i45_42 (by omega) (fun c42 => ?_) (fun c42 => ?_)
  · refine ew_iconst i45_102 ?_
    exact ev_zreturn i45_103 r45 (by decide) hK
  · refine ev_aloadn_0 i45_45 ?_
    refine ev_virt0 i45_46 g45_46 rfl (by decide +kernel) (Nat.le_of_ble_eq_true rfl) (x_next hS p0 ?_)
    refine ev_stat1 i45_49 g45_49 (by decide +kernel) (Nat.le_of_ble_eq_true rfl) (x_levelOf (by omega) ?_)
    refine ev_iloadn_1 i45_52 ?_
    refine ew_icmpne i45_53 (by omega) (fun c53 => ?_) (fun c53 => ?_)
    · refine ew_iconst i45_102 ?_
      exact ev_zreturn i45_103 r45 (by decide) hK
    · exfalso; omega
theorem XL_step (hE : E ≤ d) (hS : SX I sw n tx p s st op) (p0 : 0 ≤ p) (hl : 0 ≤ lv ∧ lv < 5) (hi : 0 ≤ i ∧ i < most) (hm : 0 ≤ most ∧ most ≤ 120) (he : lof (t_nx n tx p) = lv) (hc : CXs E (cxl (lv + 1) o) n tx (p + 1) s st op q s' st' op') (hs : 0 ≤ s' ∧ s' < 127) (hK : ∀ J, fr (fzr sw) I J → SX J sw n tx q (s' + 1) (zu st' s' (t_nx n tx p)) (zu op' s' 0) → ∀ o5, ts_Ev X (ts_Cal X (d + 1)) 45 ts_S0 K 39 [.ref 24, .int (zI (lv)), .int (zI (o)), .int (zI (most)), .int (zI (i + 1)), o5] [] (J, L, ts_P0 sw, ts_S0)) (o5 : Value) : ts_Ev X (ts_Cal X (d + 1)) 45 ts_S0 K 39 [.ref 24, .int (zI (lv)), .int (zI (o)), .int (zI (most)), .int (zI (i)), o5] [] (I, L, ts_P0 sw, ts_S0) := by
  have r := hS.nx_r p0
  have b := hS.n0
  have ne : ¬ t_nx n tx p = -1 := fun e => by rw [e] at he; have q : lof (-1) = 5 := rfl; omega
  have lt := t_nx_lt ne
  refine ev_iload_4 i45_39 ?_
  refine ev_iloadn_3 i45_41 ?_
  refine ew_icmpge i45_42 (by omega) (fun c42 => ?_) (fun c42 => ?_)
  · exfalso; omega
  · refine ev_aloadn_0 i45_45 ?_
    refine ev_virt0 i45_46 g45_46 rfl (by decide +kernel) (Nat.le_of_ble_eq_true rfl) (x_next hS p0 ?_)
    refine ev_stat1 i45_49 g45_49 (by decide +kernel) (Nat.le_of_ble_eq_true rfl) (x_levelOf (by omega) ?_)
    refine ev_iloadn_1 i45_52 ?_
    refine ew_icmpne i45_53 (by omega) (fun c53 => ?_) (fun c53 => ?_)
    · exfalso; omega
    · refine ev_aloadn_0 i45_56 ?_
      refine ev_virt0 i45_57 g45_57 rfl (by decide +kernel) (Nat.le_of_ble_eq_true rfl) (x_next hS p0 ?_)
      refine ev_istore_5 i45_60 rfl ?_
      refine ev_aloadn_0 i45_62 ?_
      refine ev_dup i45_63 rfl ?_
      refine ew_getI i45_64 g45_64 rfl (by first | exact hS.at | exact hX.men | exact hX.told | exact hX.road | exact hX.tone _ (by omega) (by omega) | exact hX.corn _ (by omega) (by omega) | exact hX.stand _ (by omega) (by omega) | exact hX.reach _ (by omega) (by omega) | exact hX.arm _ (by omega) (by omega) | exact hX.late _ (by omega) (by omega) | exact hX.len _ (by omega) (by omega) | exact hX.say (by omega) (by omega) _ (by omega) (by omega)) (fun b64 => ?_)
      refine ew_iconst i45_67 ?_
      refine ew_iadd i45_68 ?_
      refine ev_putI i45_69 g45_69 rfl ?_
      refine ev_aloadn_0 i45_72 ?_
      refine ev_iloadn_1 i45_73 ?_
      refine ew_iconst i45_74 ?_
      refine ew_iadd i45_75 ?_
      refine ev_iloadn_2 i45_76 ?_
      refine ev_virt2 i45_77 g45_77 rfl (by decide +kernel) (Nat.le_of_ble_eq_true rfl) (hc X d _ L sw _ hE (hS.sAt (by omega)) (fun M h1 h2 => ?_))
      first
      | refine ew_ifneB i45_80 (fun c80 => ?_) (fun c80 => ?_)
      | refine ew_ifne i45_80 (by omega) (fun c80 => ?_) (fun c80 => ?_)
      · refine ev_aloadn_0 i45_85 ?_
        refine ev_getA i45_86 g45_86 rfl (into_Q sw) (ts_into_ne _) ?_
        refine ev_iload_5 i45_89 ?_
        refine ew_iconst i45_91 ?_
        refine ev_virt2 i45_92 g45_92 (into_R sw) (by decide +kernel) (Nat.le_of_ble_eq_true rfl) (x_addStep h2 (by omega) (by omega) (by omega) (fun M2 h3 h4 => ?_))
        refine ev_pop i45_95 rfl ?_
        refine ew_iinc_4 i45_96 rfl ?_
        refine ev_goto i45_99 ?_
        exact hK M2 (fr_tr (fr_tr (fr_up (fr_rfl _ _) (Or.inl ⟨rfl, rfl⟩)) h1) h3) h4 _
      · exfalso; omega
theorem XL_fail (hE : E ≤ d) (hS : SX I sw n tx p s st op) (p0 : 0 ≤ p) (hl : 0 ≤ lv ∧ lv < 5) (hi : 0 ≤ i ∧ i < most) (hm : 0 ≤ most ∧ most ≤ 120) (he : lof (t_nx n tx p) = lv) (hc : CXf E (cxl (lv + 1) o) n tx (p + 1) s st op q) (hK : ∀ J, fr (fzr sw) I J → rd (J 24 2) 0 120 q → K (some (.int (zI (0)))) (J, L, ts_P0 sw, ts_S0)) (o5 : Value) : ts_Ev X (ts_Cal X (d + 1)) 45 ts_S0 K 39 [.ref 24, .int (zI (lv)), .int (zI (o)), .int (zI (most)), .int (zI (i)), o5] [] (I, L, ts_P0 sw, ts_S0) := by
  have r := hS.nx_r p0
  have b := hS.n0
  have ne : ¬ t_nx n tx p = -1 := fun e => by rw [e] at he; have q : lof (-1) = 5 := rfl; omega
  have lt := t_nx_lt ne
  refine ev_iload_4 i45_39 ?_
  refine ev_iloadn_3 i45_41 ?_
  refine ew_icmpge i45_42 (by omega) (fun c42 => ?_) (fun c42 => ?_)
  · exfalso; omega
  · refine ev_aloadn_0 i45_45 ?_
    refine ev_virt0 i45_46 g45_46 rfl (by decide +kernel) (Nat.le_of_ble_eq_true rfl) (x_next hS p0 ?_)
    refine ev_stat1 i45_49 g45_49 (by decide +kernel) (Nat.le_of_ble_eq_true rfl) (x_levelOf (by omega) ?_)
    refine ev_iloadn_1 i45_52 ?_
    refine ew_icmpne i45_53 (by omega) (fun c53 => ?_) (fun c53 => ?_)
    · exfalso; omega
    · refine ev_aloadn_0 i45_56 ?_
      refine ev_virt0 i45_57 g45_57 rfl (by decide +kernel) (Nat.le_of_ble_eq_true rfl) (x_next hS p0 ?_)
      refine ev_istore_5 i45_60 rfl ?_
      refine ev_aloadn_0 i45_62 ?_
      refine ev_dup i45_63 rfl ?_
      refine ew_getI i45_64 g45_64 rfl (by first | exact hS.at | exact hX.men | exact hX.told | exact hX.road | exact hX.tone _ (by omega) (by omega) | exact hX.corn _ (by omega) (by omega) | exact hX.stand _ (by omega) (by omega) | exact hX.reach _ (by omega) (by omega) | exact hX.arm _ (by omega) (by omega) | exact hX.late _ (by omega) (by omega) | exact hX.len _ (by omega) (by omega) | exact hX.say (by omega) (by omega) _ (by omega) (by omega)) (fun b64 => ?_)
      refine ew_iconst i45_67 ?_
      refine ew_iadd i45_68 ?_
      refine ev_putI i45_69 g45_69 rfl ?_
      refine ev_aloadn_0 i45_72 ?_
      refine ev_iloadn_1 i45_73 ?_
      refine ew_iconst i45_74 ?_
      refine ew_iadd i45_75 ?_
      refine ev_iloadn_2 i45_76 ?_
      refine ev_virt2 i45_77 g45_77 rfl (by decide +kernel) (Nat.le_of_ble_eq_true rfl) (hc X d _ L sw _ hE (hS.sAt (by omega)) (fun M h1 h2 => ?_))
      first
      | refine ew_ifneB i45_80 (fun c80 => ?_) (fun c80 => ?_)
      | refine ew_ifne i45_80 (by omega) (fun c80 => ?_) (fun c80 => ?_)
      · exfalso; omega
      · refine ew_iconst i45_83 ?_
        exact ev_zreturn i45_84 r45 (by decide) (hK M (fr_tr (fr_up (fr_rfl _ _) (Or.inl ⟨rfl, rfl⟩)) h1) h2)
theorem XL_enter (hE : E ≤ d) (hS : SX I sw n tx p s st op) (hl : 0 ≤ lv ∧ lv < 5) (hc : CXs E (cxl (lv + 1) o) n tx p s st op q s' st' op') (hK : ∀ J, fr (fzr sw) I J → SX J sw n tx q s' st' op' → ∀ o5, ts_Ev X (ts_Cal X (d + 1)) 45 ts_S0 K 39 [.ref 24, .int (zI (lv)), .int (zI (o)), .int (zI (if lv = 2 then 1 else 120)), .int (zI (0)), o5] [] (J, L, ts_P0 sw, ts_S0)) : cxl lv o X (d + 1) I L sw K := by
  refine ev_enter (lv := [.ref 24, .int (zI (lv)), .int (zI (o)), .null, .null, .null]) l45 rfl (Nat.le_of_ble_eq_true rfl) ?_
  refine ev_iloadn_1 i45_0 ?_
  refine ew_iconst i45_1 ?_
  refine ew_icmplt i45_2 (by omega) (fun c2 => ?_) (fun c2 => ?_)
  · refine ev_aloadn_0 i45_11 ?_
    refine ev_iloadn_1 i45_12 ?_
    refine ew_iconst i45_13 ?_
    refine ew_iadd i45_14 ?_
    refine ev_iloadn_2 i45_15 ?_
    refine ev_virt2 i45_16 g45_16 rfl (by decide +kernel) (Nat.le_of_ble_eq_true rfl) (hc X d _ L sw _ hE hS (fun M h1 h2 => ?_))
    first
    | refine ew_ifneB i45_19 (fun c19 => ?_) (fun c19 => ?_)
    | refine ew_ifne i45_19 (by omega) (fun c19 => ?_) (fun c19 => ?_)
    · refine ev_iloadn_1 i45_24 ?_
      refine ew_iconst i45_25 ?_
      refine ew_icmpne i45_26 (by omega) (fun c26 => ?_) (fun c26 => ?_)
      · refine ew_bipush i45_33 (by decide) ?_
        refine ev_istoren_3 i45_35 rfl ?_
        refine ew_iconst i45_36 ?_
        refine ev_istore_4 i45_37 rfl ?_
        have e := hK M h1 h2
        first
        | (rw [if_pos (by omega)] at e; exact e _)
        | (rw [if_neg (by omega)] at e; exact e _)
      · refine ew_iconst i45_29 ?_
        refine ev_goto i45_30 ?_
        refine ev_istoren_3 i45_35 rfl ?_
        refine ew_iconst i45_36 ?_
        refine ev_istore_4 i45_37 rfl ?_
        have e := hK M h1 h2
        first
        | (rw [if_pos (by omega)] at e; exact e _)
        | (rw [if_neg (by omega)] at e; exact e _)
    · exfalso; omega
  · exfalso; omega
theorem XL_enterF (hE : E ≤ d) (hS : SX I sw n tx p s st op) (hl : 0 ≤ lv ∧ lv < 5) (hc : CXf E (cxl (lv + 1) o) n tx p s st op q) (hK : ∀ J, fr (fzr sw) I J → rd (J 24 2) 0 120 q → K (some (.int (zI (0)))) (J, L, ts_P0 sw, ts_S0)) : cxl lv o X (d + 1) I L sw K := by
  refine ev_enter (lv := [.ref 24, .int (zI (lv)), .int (zI (o)), .null, .null, .null]) l45 rfl (Nat.le_of_ble_eq_true rfl) ?_
  refine ev_iloadn_1 i45_0 ?_
  refine ew_iconst i45_1 ?_
  refine ew_icmplt i45_2 (by omega) (fun c2 => ?_) (fun c2 => ?_)
  · refine ev_aloadn_0 i45_11 ?_
    refine ev_iloadn_1 i45_12 ?_
    refine ew_iconst i45_13 ?_
    refine ew_iadd i45_14 ?_
    refine ev_iloadn_2 i45_15 ?_
    refine ev_virt2 i45_16 g45_16 rfl (by decide +kernel) (Nat.le_of_ble_eq_true rfl) (hc X d _ L sw _ hE hS (fun M h1 h2 => ?_))
    first
    | refine ew_ifneB i45_19 (fun c19 => ?_) (fun c19 => ?_)
    | refine ew_ifne i45_19 (by omega) (fun c19 => ?_) (fun c19 => ?_)
    · exfalso; omega
    · refine ew_iconst i45_22 ?_
      exact ev_zreturn i45_23 r45 (by decide) (hK M h1 h2)
  · exfalso; omega
theorem XL_five (hc : CXs E (cxo o) n tx p s st op q s' st' op') : CXs (E + 1) (cxl 5 o) n tx p s st op q s' st' op' := by
  intro X d I L sw K hE hS hK
  obtain ⟨d, rfl⟩ : ∃ d', d = d' + 1 := ⟨d - 1, by omega⟩
  refine ev_enter (lv := [.ref 24, .int (zI (5)), .int (zI (o)), .null, .null, .null]) l45 rfl (Nat.le_of_ble_eq_true rfl) ?_
  refine ev_iloadn_1 i45_0 ?_
  refine ew_iconst i45_1 ?_
  refine ew_icmplt i45_2 (by omega) (fun c2 => ?_) (fun c2 => ?_)
  · exfalso; omega
  · refine ev_aloadn_0 i45_5 ?_
    refine ev_iloadn_2 i45_6 ?_
    refine ev_virt1 i45_7 g45_7 rfl (by decide +kernel) (Nat.le_of_ble_eq_true rfl) (hc X d _ L sw _ (by omega) hS (fun M h1 h2 => ?_))
    exact ev_zreturn i45_10 r45 (by decide) (hK M h1 h2)
theorem XL_fiveF (hc : CXf E (cxo o) n tx p s st op q) : CXf (E + 1) (cxl 5 o) n tx p s st op q := by
  intro X d I L sw K hE hS hK
  obtain ⟨d, rfl⟩ : ∃ d', d = d' + 1 := ⟨d - 1, by omega⟩
  refine ev_enter (lv := [.ref 24, .int (zI (5)), .int (zI (o)), .null, .null, .null]) l45 rfl (Nat.le_of_ble_eq_true rfl) ?_
  refine ev_iloadn_1 i45_0 ?_
  refine ew_iconst i45_1 ?_
  refine ew_icmplt i45_2 (by omega) (fun c2 => ?_) (fun c2 => ?_)
  · exfalso; omega
  · refine ev_aloadn_0 i45_5 ?_
    refine ev_iloadn_2 i45_6 ?_
    refine ev_virt1 i45_7 g45_7 rfl (by decide +kernel) (Nat.le_of_ble_eq_true rfl) (hc X d _ L sw _ (by omega) hS (fun M h1 h2 => ?_))
    exact ev_zreturn i45_10 r45 (by decide) (hK M h1 h2)
theorem XO_num (hd : 8 ≤ d) (hS : SX I sw n tx p s st op) (p0 : 0 ≤ p) (hs : 0 ≤ s ∧ s < 128) (hc : 48 ≤ t_nx n tx p ∧ t_nx n tx p ≤ 57) (hK : ∀ J, fr (fzr sw) I J → SX J sw n tx (rdn n tx 4 p 0).1 (s + 1) (zu st s 0) (zu op s (rdn n tx 4 p 0).2) → K (some (.int (zI (1)))) (J, L, ts_P0 sw, ts_S0)) : cxo o X (d + 1) I L sw K := by
  obtain ⟨d, rfl⟩ : ∃ d', d = d' + 8 := ⟨d - 8, by omega⟩
  refine ev_enter (lv := [.ref 24, .int (zI (o)), .null, .null, .null]) l47 rfl (Nat.le_of_ble_eq_true rfl) ?_
  refine ev_aloadn_0 i47_0 ?_
  refine ev_virt0 i47_1 g47_1 rfl (by decide +kernel) (Nat.le_of_ble_eq_true rfl) (x_next hS p0 ?_)
  refine ev_istoren_2 i47_4 rfl ?_
  refine ev_iloadn_2 i47_5 ?_
  refine ew_iconst i47_6 ?_
  refine ew_icmpne i47_7 (by omega) (fun c7 => ?_) (fun c7 => ?_)
  · refine ev_iloadn_2 i47_12 ?_
    refine ev_stat1 i47_13 g47_13 (by decide +kernel) (Nat.le_of_ble_eq_true rfl) (x_isDigit (by omega) ?_)
    first
    | refine ew_ifeqB i47_16 (fun c16 => ?_) (fun c16 => ?_)
    | refine ew_ifeq i47_16 (by omega) (fun c16 => ?_) (fun c16 => ?_)
    · exact absurd hc c16
    · refine ev_aloadn_0 i47_19 ?_
      refine ev_virt0 i47_20 g47_20 rfl (by decide +kernel) (Nat.le_of_ble_eq_true rfl) (x_readNumber hS p0 hs (fun M h1 h2 => ?_))
      refine ew_iconst i47_23 ?_
      exact ev_zreturn i47_24 r47 (by decide) (hK M h1 h2)
  · exfalso; omega
theorem XO_name (hd : 8 ≤ d) (hS : SX I sw n tx p s st op) (p0 : 0 ≤ p) (hs : 0 ≤ s ∧ s < 128) (hc : 0 ≤ nmi (t_nx n tx p)) (hK : ∀ J, fr (fzr sw) I J → SX J sw n tx (p + 1) (s + 1) (zu st s 1) (zu op s (nmi (t_nx n tx p))) → K (some (.int (zI (1)))) (J, L, ts_P0 sw, ts_S0)) : cxo o X (d + 1) I L sw K := by
  obtain ⟨d, rfl⟩ : ∃ d', d = d' + 8 := ⟨d - 8, by omega⟩
  have b := hS.n0
  have r := hS.nx_r p0
  have hn : 97 ≤ t_nx n tx p := by unfold nmi at hc; omega
  have hn2 : nmi (t_nx n tx p) ≤ 5 := by unfold nmi; omega
  have lt := t_nx_lt (n := n) (tx := tx) (p := p) (by omega)
  refine ev_enter (lv := [.ref 24, .int (zI (o)), .null, .null, .null]) l47 rfl (Nat.le_of_ble_eq_true rfl) ?_
  refine ev_aloadn_0 i47_0 ?_
  refine ev_virt0 i47_1 g47_1 rfl (by decide +kernel) (Nat.le_of_ble_eq_true rfl) (x_next hS p0 ?_)
  refine ev_istoren_2 i47_4 rfl ?_
  refine ev_iloadn_2 i47_5 ?_
  refine ew_iconst i47_6 ?_
  refine ew_icmpne i47_7 (by omega) (fun c7 => ?_) (fun c7 => ?_)
  · refine ev_iloadn_2 i47_12 ?_
    refine ev_stat1 i47_13 g47_13 (by decide +kernel) (Nat.le_of_ble_eq_true rfl) (x_isDigit (by omega) ?_)
    first
    | refine ew_ifeqB i47_16 (fun c16 => ?_) (fun c16 => ?_)
    | refine ew_ifeq i47_16 (by omega) (fun c16 => ?_) (fun c16 => ?_)
    · refine ev_ldcs i47_25 g47_25 ?_
      refine ev_iloadn_2 i47_27 ?_
      refine ew_i2c i47_28 ?_
      rw [zi2c_v (by omega)]
      refine ev_virtS1 i47_29 g47_29 (by decide +kernel) (by decide +kernel) (Nat.le_of_ble_eq_true rfl) (x_indexOf (by omega) ?_)
      refine ev_istoren_3 i47_32 rfl ?_
      refine ev_iloadn_3 i47_33 ?_
      refine ew_iflt i47_34 (by omega) (fun c34 => ?_) (fun c34 => ?_)
      · exfalso; omega
      · refine ev_aloadn_0 i47_37 ?_
        refine ev_dup i47_38 rfl ?_
        refine ew_getI i47_39 g47_39 rfl (by first | exact hS.at | exact hX.men | exact hX.told | exact hX.road | exact hX.tone _ (by omega) (by omega) | exact hX.corn _ (by omega) (by omega) | exact hX.stand _ (by omega) (by omega) | exact hX.reach _ (by omega) (by omega) | exact hX.arm _ (by omega) (by omega) | exact hX.late _ (by omega) (by omega) | exact hX.len _ (by omega) (by omega) | exact hX.say (by omega) (by omega) _ (by omega) (by omega)) (fun b39 => ?_)
        refine ew_iconst i47_42 ?_
        refine ew_iadd i47_43 ?_
        refine ev_putI i47_44 g47_44 rfl ?_
        refine ev_aloadn_0 i47_47 ?_
        refine ev_getA i47_48 g47_48 rfl (into_Q sw) (ts_into_ne _) ?_
        refine ew_iconst i47_51 ?_
        refine ev_iloadn_3 i47_52 ?_
        refine ev_virt2 i47_53 g47_53 (into_R sw) (by decide +kernel) (Nat.le_of_ble_eq_true rfl) (x_addStep (hS.sAt (q := p + 1) (by omega)) hs (by omega) (by omega) (fun M h1 h2 => ?_))
        refine ev_pop i47_56 rfl ?_
        refine ew_iconst i47_57 ?_
        exact ev_zreturn i47_58 r47 (by decide) (hK M (fr_tr (fr_up (fr_rfl _ _) (Or.inl ⟨rfl, rfl⟩)) h1) h2)
    · exfalso; omega
  · exfalso; omega
theorem XO_pre (hS : SX I sw n tx p s st op) (p0 : 0 ≤ p) (h1 : ¬ t_nx n tx p = -1) (h2 : ¬ (48 ≤ t_nx n tx p ∧ t_nx n tx p ≤ 57)) (h3 : nmi (t_nx n tx p) = -1) (hK : ts_Ev X (ts_Cal X (d + 9)) 47 ts_S0 K 59 [.ref 24, .int (zI (o)), .int (zI (t_nx n tx p)), .int (zI (-1)), .null] [] (I, L, ts_P0 sw, ts_S0)) : cxo o X (d + 9) I L sw K := by
  have r := hS.nx_r p0
  refine ev_enter (lv := [.ref 24, .int (zI (o)), .null, .null, .null]) l47 rfl (Nat.le_of_ble_eq_true rfl) ?_
  refine ev_aloadn_0 i47_0 ?_
  refine ev_virt0 i47_1 g47_1 rfl (by decide +kernel) (Nat.le_of_ble_eq_true rfl) (x_next hS p0 ?_)
  refine ev_istoren_2 i47_4 rfl ?_
  refine ev_iloadn_2 i47_5 ?_
  refine ew_iconst i47_6 ?_
  refine ew_icmpne i47_7 (by omega) (fun c7 => ?_) (fun c7 => ?_)
  · refine ev_iloadn_2 i47_12 ?_
    refine ev_stat1 i47_13 g47_13 (by decide +kernel) (Nat.le_of_ble_eq_true rfl) (x_isDigit (by omega) ?_)
    first
    | refine ew_ifeqB i47_16 (fun c16 => ?_) (fun c16 => ?_)
    | refine ew_ifeq i47_16 (by omega) (fun c16 => ?_) (fun c16 => ?_)
    · refine ev_ldcs i47_25 g47_25 ?_
      refine ev_iloadn_2 i47_27 ?_
      refine ew_i2c i47_28 ?_
      rw [zi2c_v (by omega)]
      refine ev_virtS1 i47_29 g47_29 (by decide +kernel) (by decide +kernel) (Nat.le_of_ble_eq_true rfl) (x_indexOf (by omega) ?_)
      rw [h3]
      refine ev_istoren_3 i47_32 rfl ?_
      refine ev_iloadn_3 i47_33 ?_
      refine ew_iflt i47_34 (by omega) (fun c34 => ?_) (fun c34 => ?_)
      · exact hK
      · exfalso; omega
    · exact absurd c16 h2
  · exfalso; omega
theorem XO_end (hd : 8 ≤ d) (hS : SX I sw n tx p s st op) (p0 : 0 ≤ p) (h1 : t_nx n tx p = -1) (hK : K (some (.int (zI (0)))) (I, L, ts_P0 sw, ts_S0)) : cxo o X (d + 1) I L sw K := by
  obtain ⟨d, rfl⟩ : ∃ d', d = d' + 8 := ⟨d - 8, by omega⟩
  refine ev_enter (lv := [.ref 24, .int (zI (o)), .null, .null, .null]) l47 rfl (Nat.le_of_ble_eq_true rfl) ?_
  refine ev_aloadn_0 i47_0 ?_
  refine ev_virt0 i47_1 g47_1 rfl (by decide +kernel) (Nat.le_of_ble_eq_true rfl) (x_next hS p0 ?_)
  refine ev_istoren_2 i47_4 rfl ?_
  refine ev_iloadn_2 i47_5 ?_
  refine ew_iconst i47_6 ?_
  refine ew_icmpne i47_7 (by omega) (fun c7 => ?_) (fun c7 => ?_)
  · exfalso; omega
  · refine ew_iconst i47_10 ?_
    exact ev_zreturn i47_11 r47 (by decide) hK
theorem XO_bad (hd : 8 ≤ d) (hS : SX I sw n tx p s st op) (p0 : 0 ≤ p) (ho : 0 ≤ o ∧ o ≤ 6) (h1 : ¬ t_nx n tx p = -1) (h2 : ¬ (48 ≤ t_nx n tx p ∧ t_nx n tx p ≤ 57)) (h3 : nmi (t_nx n tx p) = -1) (h4 : (¬ t_nx n tx p = 40 ∧ ¬ t_nx n tx p = 33 ∧ ¬ t_nx n tx p = 45) ∨ o = 6) (hK : K (some (.int (zI (0)))) (I, L, ts_P0 sw, ts_S0)) : cxo o X (d + 1) I L sw K := by
  obtain ⟨d, rfl⟩ : ∃ d', d = d' + 8 := ⟨d - 8, by omega⟩
  have r := hS.nx_r p0
  refine XO_pre hS p0 h1 h2 h3 ?_
  refine ev_iloadn_2 i47_59 ?_
  refine ew_bipush i47_60 (by decide) ?_
  refine ew_icmpeq i47_62 (by omega) (fun c62 => ?_) (fun c62 => ?_)
  · refine ew_iconst i47_77 ?_
    refine ev_goto i47_78 ?_
    refine ev_istore_4 i47_82 rfl ?_
    refine ev_iload_4 i47_84 ?_
    first
    | refine ew_ifeqB i47_86 (fun c86 => ?_) (fun c86 => ?_)
    | refine ew_ifeq i47_86 (by omega) (fun c86 => ?_) (fun c86 => ?_)
    · refine ew_iconst i47_95 ?_
      exact ev_zreturn i47_96 r47 (by decide) hK
    · refine ev_iloadn_1 i47_89 ?_
      refine ew_bipush i47_90 (by decide) ?_
      refine ew_icmplt i47_92 (by omega) (fun c92 => ?_) (fun c92 => ?_)
      · exfalso; omega
      · refine ew_iconst i47_95 ?_
        exact ev_zreturn i47_96 r47 (by decide) hK
  · refine ev_iloadn_2 i47_65 ?_
    refine ew_bipush i47_66 (by decide) ?_
    refine ew_icmpeq i47_68 (by omega) (fun c68 => ?_) (fun c68 => ?_)
    · refine ew_iconst i47_77 ?_
      refine ev_goto i47_78 ?_
      refine ev_istore_4 i47_82 rfl ?_
      refine ev_iload_4 i47_84 ?_
      first
      | refine ew_ifeqB i47_86 (fun c86 => ?_) (fun c86 => ?_)
      | refine ew_ifeq i47_86 (by omega) (fun c86 => ?_) (fun c86 => ?_)
      · refine ew_iconst i47_95 ?_
        exact ev_zreturn i47_96 r47 (by decide) hK
      · refine ev_iloadn_1 i47_89 ?_
        refine ew_bipush i47_90 (by decide) ?_
        refine ew_icmplt i47_92 (by omega) (fun c92 => ?_) (fun c92 => ?_)
        · exfalso; omega
        · refine ew_iconst i47_95 ?_
          exact ev_zreturn i47_96 r47 (by decide) hK
    · refine ev_iloadn_2 i47_71 ?_
      refine ew_bipush i47_72 (by decide) ?_
      refine ew_icmpne i47_74 (by omega) (fun c74 => ?_) (fun c74 => ?_)
      · refine ew_iconst i47_81 ?_
        refine ev_istore_4 i47_82 rfl ?_
        refine ev_iload_4 i47_84 ?_
        first
        | refine ew_ifeqB i47_86 (fun c86 => ?_) (fun c86 => ?_)
        | refine ew_ifeq i47_86 (by omega) (fun c86 => ?_) (fun c86 => ?_)
        · refine ew_iconst i47_95 ?_
          exact ev_zreturn i47_96 r47 (by decide) hK
        · refine ev_iloadn_1 i47_89 ?_
          refine ew_bipush i47_90 (by decide) ?_
          refine ew_icmplt i47_92 (by omega) (fun c92 => ?_) (fun c92 => ?_)
          · exfalso; omega
          · refine ew_iconst i47_95 ?_
            exact ev_zreturn i47_96 r47 (by decide) hK
      · refine ew_iconst i47_77 ?_
        refine ev_goto i47_78 ?_
        refine ev_istore_4 i47_82 rfl ?_
        refine ev_iload_4 i47_84 ?_
        first
        | refine ew_ifeqB i47_86 (fun c86 => ?_) (fun c86 => ?_)
        | refine ew_ifeq i47_86 (by omega) (fun c86 => ?_) (fun c86 => ?_)
        · refine ew_iconst i47_95 ?_
          exact ev_zreturn i47_96 r47 (by decide) hK
        · refine ev_iloadn_1 i47_89 ?_
          refine ew_bipush i47_90 (by decide) ?_
          refine ew_icmplt i47_92 (by omega) (fun c92 => ?_) (fun c92 => ?_)
          · exfalso; omega
          · refine ew_iconst i47_95 ?_
            exact ev_zreturn i47_96 r47 (by decide) hK
theorem XO_par (hd : 8 ≤ d) (hE : E ≤ d) (hS : SX I sw n tx p s st op) (p0 : 0 ≤ p) (q0 : 0 ≤ q) (ho : 0 ≤ o ∧ o < 6) (h1 : t_nx n tx p = 40) (hc : CXs E (cxl 0 (o + 1)) n tx (p + 1) s st op q s' st' op') (hK1 : t_nx n tx q = 41 → ∀ J, fr (fzr sw) I J → SX J sw n tx (q + 1) s' st' op' → K (some (.int (zI (1)))) (J, L, ts_P0 sw, ts_S0)) (hK0 : ¬ t_nx n tx q = 41 → ∀ J, fr (fzr sw) I J → rd (J 24 2) 0 120 q → K (some (.int (zI (0)))) (J, L, ts_P0 sw, ts_S0)) : cxo o X (d + 1) I L sw K := by
  obtain ⟨d, rfl⟩ : ∃ d', d = d' + 8 := ⟨d - 8, by omega⟩
  have b := hS.n0
  have lt := t_nx_lt (n := n) (tx := tx) (p := p) (by omega)
  refine XO_pre hS p0 (by omega) (by omega) (by rw [h1]; rfl) ?_
  refine ev_iloadn_2 i47_59 ?_
  refine ew_bipush i47_60 (by decide) ?_
  refine ew_icmpeq i47_62 (by omega) (fun c62 => ?_) (fun c62 => ?_)
  · refine ew_iconst i47_77 ?_
    refine ev_goto i47_78 ?_
    refine ev_istore_4 i47_82 rfl ?_
    refine ev_iload_4 i47_84 ?_
    first
    | refine ew_ifeqB i47_86 (fun c86 => ?_) (fun c86 => ?_)
    | refine ew_ifeq i47_86 (by omega) (fun c86 => ?_) (fun c86 => ?_)
    · exfalso; omega
    · refine ev_iloadn_1 i47_89 ?_
      refine ew_bipush i47_90 (by decide) ?_
      refine ew_icmplt i47_92 (by omega) (fun c92 => ?_) (fun c92 => ?_)
      · refine ev_aloadn_0 i47_97 ?_
        refine ev_dup i47_98 rfl ?_
        refine ew_getI i47_99 g47_99 rfl (by first | exact hS.at | exact hX.men | exact hX.told | exact hX.road | exact hX.tone _ (by omega) (by omega) | exact hX.corn _ (by omega) (by omega) | exact hX.stand _ (by omega) (by omega) | exact hX.reach _ (by omega) (by omega) | exact hX.arm _ (by omega) (by omega) | exact hX.late _ (by omega) (by omega) | exact hX.len _ (by omega) (by omega) | exact hX.say (by omega) (by omega) _ (by omega) (by omega)) (fun b99 => ?_)
        refine ew_iconst i47_102 ?_
        refine ew_iadd i47_103 ?_
        refine ev_putI i47_104 g47_104 rfl ?_
        refine ev_iloadn_2 i47_107 ?_
        refine ew_bipush i47_108 (by decide) ?_
        refine ew_icmpne i47_110 (by omega) (fun c110 => ?_) (fun c110 => ?_)
        · exfalso; omega
        · refine ev_aloadn_0 i47_113 ?_
          refine ew_iconst i47_114 ?_
          refine ev_iloadn_1 i47_115 ?_
          refine ew_iconst i47_116 ?_
          refine ew_iadd i47_117 ?_
          refine ev_virt2 i47_118 g47_118 rfl (by decide +kernel) (Nat.le_of_ble_eq_true rfl) (hc X (d + 8) _ L sw _ hE (hS.sAt (by omega)) (fun M h1 h2 => ?_))
          refine ew_ifeq i47_121 (by omega) (fun c121 => ?_) (fun c121 => ?_)
          · exfalso; omega
          · refine ev_aloadn_0 i47_124 ?_
            refine ew_bipush i47_125 (by decide) ?_
            refine ev_virt1 i47_127 g47_127 rfl (by decide +kernel) (Nat.le_of_ble_eq_true rfl) (x_pass h2 q0 (by omega) (fun M2 h3 h4 h5 => ?_))
            first
            | refine ew_ifeqB i47_130 (fun c130 => ?_) (fun c130 => ?_)
            | refine ew_ifeq i47_130 (by omega) (fun c130 => ?_) (fun c130 => ?_)
            · refine ew_iconst i47_137 ?_
              exact ev_zreturn i47_138 r47 (by decide) (hK0 c130 M2 (fr_tr (fr_tr (fr_up (fr_rfl _ _) (Or.inl ⟨rfl, rfl⟩)) h1) (fr_mo h3 (fun a k q => Or.inl q))) (h5 c130).at)
            · refine ew_iconst i47_133 ?_
              refine ev_goto i47_134 ?_
              exact ev_zreturn i47_138 r47 (by decide) (hK1 c130 M2 (fr_tr (fr_tr (fr_up (fr_rfl _ _) (Or.inl ⟨rfl, rfl⟩)) h1) (fr_mo h3 (fun a k q => Or.inl q))) (h4 c130))
      · exfalso; omega
  · refine ev_iloadn_2 i47_65 ?_
    refine ew_bipush i47_66 (by decide) ?_
    refine ew_icmpeq i47_68 (by omega) (fun c68 => ?_) (fun c68 => ?_)
    · refine ew_iconst i47_77 ?_
      refine ev_goto i47_78 ?_
      refine ev_istore_4 i47_82 rfl ?_
      refine ev_iload_4 i47_84 ?_
      first
      | refine ew_ifeqB i47_86 (fun c86 => ?_) (fun c86 => ?_)
      | refine ew_ifeq i47_86 (by omega) (fun c86 => ?_) (fun c86 => ?_)
      · exfalso; omega
      · refine ev_iloadn_1 i47_89 ?_
        refine ew_bipush i47_90 (by decide) ?_
        refine ew_icmplt i47_92 (by omega) (fun c92 => ?_) (fun c92 => ?_)
        · refine ev_aloadn_0 i47_97 ?_
          refine ev_dup i47_98 rfl ?_
          refine ew_getI i47_99 g47_99 rfl (by first | exact hS.at | exact hX.men | exact hX.told | exact hX.road | exact hX.tone _ (by omega) (by omega) | exact hX.corn _ (by omega) (by omega) | exact hX.stand _ (by omega) (by omega) | exact hX.reach _ (by omega) (by omega) | exact hX.arm _ (by omega) (by omega) | exact hX.late _ (by omega) (by omega) | exact hX.len _ (by omega) (by omega) | exact hX.say (by omega) (by omega) _ (by omega) (by omega)) (fun b99 => ?_)
          refine ew_iconst i47_102 ?_
          refine ew_iadd i47_103 ?_
          refine ev_putI i47_104 g47_104 rfl ?_
          refine ev_iloadn_2 i47_107 ?_
          refine ew_bipush i47_108 (by decide) ?_
          refine ew_icmpne i47_110 (by omega) (fun c110 => ?_) (fun c110 => ?_)
          · exfalso; omega
          · refine ev_aloadn_0 i47_113 ?_
            refine ew_iconst i47_114 ?_
            refine ev_iloadn_1 i47_115 ?_
            refine ew_iconst i47_116 ?_
            refine ew_iadd i47_117 ?_
            refine ev_virt2 i47_118 g47_118 rfl (by decide +kernel) (Nat.le_of_ble_eq_true rfl) (hc X (d + 8) _ L sw _ hE (hS.sAt (by omega)) (fun M h1 h2 => ?_))
            refine ew_ifeq i47_121 (by omega) (fun c121 => ?_) (fun c121 => ?_)
            · exfalso; omega
            · refine ev_aloadn_0 i47_124 ?_
              refine ew_bipush i47_125 (by decide) ?_
              refine ev_virt1 i47_127 g47_127 rfl (by decide +kernel) (Nat.le_of_ble_eq_true rfl) (x_pass h2 q0 (by omega) (fun M2 h3 h4 h5 => ?_))
              first
              | refine ew_ifeqB i47_130 (fun c130 => ?_) (fun c130 => ?_)
              | refine ew_ifeq i47_130 (by omega) (fun c130 => ?_) (fun c130 => ?_)
              · refine ew_iconst i47_137 ?_
                exact ev_zreturn i47_138 r47 (by decide) (hK0 c130 M2 (fr_tr (fr_tr (fr_up (fr_rfl _ _) (Or.inl ⟨rfl, rfl⟩)) h1) (fr_mo h3 (fun a k q => Or.inl q))) (h5 c130).at)
              · refine ew_iconst i47_133 ?_
                refine ev_goto i47_134 ?_
                exact ev_zreturn i47_138 r47 (by decide) (hK1 c130 M2 (fr_tr (fr_tr (fr_up (fr_rfl _ _) (Or.inl ⟨rfl, rfl⟩)) h1) (fr_mo h3 (fun a k q => Or.inl q))) (h4 c130))
        · exfalso; omega
    · refine ev_iloadn_2 i47_71 ?_
      refine ew_bipush i47_72 (by decide) ?_
      refine ew_icmpne i47_74 (by omega) (fun c74 => ?_) (fun c74 => ?_)
      · exfalso; omega
      · refine ew_iconst i47_77 ?_
        refine ev_goto i47_78 ?_
        refine ev_istore_4 i47_82 rfl ?_
        refine ev_iload_4 i47_84 ?_
        first
        | refine ew_ifeqB i47_86 (fun c86 => ?_) (fun c86 => ?_)
        | refine ew_ifeq i47_86 (by omega) (fun c86 => ?_) (fun c86 => ?_)
        · exfalso; omega
        · refine ev_iloadn_1 i47_89 ?_
          refine ew_bipush i47_90 (by decide) ?_
          refine ew_icmplt i47_92 (by omega) (fun c92 => ?_) (fun c92 => ?_)
          · refine ev_aloadn_0 i47_97 ?_
            refine ev_dup i47_98 rfl ?_
            refine ew_getI i47_99 g47_99 rfl (by first | exact hS.at | exact hX.men | exact hX.told | exact hX.road | exact hX.tone _ (by omega) (by omega) | exact hX.corn _ (by omega) (by omega) | exact hX.stand _ (by omega) (by omega) | exact hX.reach _ (by omega) (by omega) | exact hX.arm _ (by omega) (by omega) | exact hX.late _ (by omega) (by omega) | exact hX.len _ (by omega) (by omega) | exact hX.say (by omega) (by omega) _ (by omega) (by omega)) (fun b99 => ?_)
            refine ew_iconst i47_102 ?_
            refine ew_iadd i47_103 ?_
            refine ev_putI i47_104 g47_104 rfl ?_
            refine ev_iloadn_2 i47_107 ?_
            refine ew_bipush i47_108 (by decide) ?_
            refine ew_icmpne i47_110 (by omega) (fun c110 => ?_) (fun c110 => ?_)
            · exfalso; omega
            · refine ev_aloadn_0 i47_113 ?_
              refine ew_iconst i47_114 ?_
              refine ev_iloadn_1 i47_115 ?_
              refine ew_iconst i47_116 ?_
              refine ew_iadd i47_117 ?_
              refine ev_virt2 i47_118 g47_118 rfl (by decide +kernel) (Nat.le_of_ble_eq_true rfl) (hc X (d + 8) _ L sw _ hE (hS.sAt (by omega)) (fun M h1 h2 => ?_))
              refine ew_ifeq i47_121 (by omega) (fun c121 => ?_) (fun c121 => ?_)
              · exfalso; omega
              · refine ev_aloadn_0 i47_124 ?_
                refine ew_bipush i47_125 (by decide) ?_
                refine ev_virt1 i47_127 g47_127 rfl (by decide +kernel) (Nat.le_of_ble_eq_true rfl) (x_pass h2 q0 (by omega) (fun M2 h3 h4 h5 => ?_))
                first
                | refine ew_ifeqB i47_130 (fun c130 => ?_) (fun c130 => ?_)
                | refine ew_ifeq i47_130 (by omega) (fun c130 => ?_) (fun c130 => ?_)
                · refine ew_iconst i47_137 ?_
                  exact ev_zreturn i47_138 r47 (by decide) (hK0 c130 M2 (fr_tr (fr_tr (fr_up (fr_rfl _ _) (Or.inl ⟨rfl, rfl⟩)) h1) (fr_mo h3 (fun a k q => Or.inl q))) (h5 c130).at)
                · refine ew_iconst i47_133 ?_
                  refine ev_goto i47_134 ?_
                  exact ev_zreturn i47_138 r47 (by decide) (hK1 c130 M2 (fr_tr (fr_tr (fr_up (fr_rfl _ _) (Or.inl ⟨rfl, rfl⟩)) h1) (fr_mo h3 (fun a k q => Or.inl q))) (h4 c130))
          · exfalso; omega
theorem XO_parF (hd : 8 ≤ d) (hE : E ≤ d) (hS : SX I sw n tx p s st op) (p0 : 0 ≤ p) (ho : 0 ≤ o ∧ o < 6) (h1 : t_nx n tx p = 40) (hc : CXf E (cxl 0 (o + 1)) n tx (p + 1) s st op q) (hK0 : ∀ J, fr (fzr sw) I J → rd (J 24 2) 0 120 q → K (some (.int (zI (0)))) (J, L, ts_P0 sw, ts_S0)) : cxo o X (d + 1) I L sw K := by
  obtain ⟨d, rfl⟩ : ∃ d', d = d' + 8 := ⟨d - 8, by omega⟩
  have b := hS.n0
  have lt := t_nx_lt (n := n) (tx := tx) (p := p) (by omega)
  refine XO_pre hS p0 (by omega) (by omega) (by rw [h1]; rfl) ?_
  refine ev_iloadn_2 i47_59 ?_
  refine ew_bipush i47_60 (by decide) ?_
  refine ew_icmpeq i47_62 (by omega) (fun c62 => ?_) (fun c62 => ?_)
  · refine ew_iconst i47_77 ?_
    refine ev_goto i47_78 ?_
    refine ev_istore_4 i47_82 rfl ?_
    refine ev_iload_4 i47_84 ?_
    first
    | refine ew_ifeqB i47_86 (fun c86 => ?_) (fun c86 => ?_)
    | refine ew_ifeq i47_86 (by omega) (fun c86 => ?_) (fun c86 => ?_)
    · exfalso; omega
    · refine ev_iloadn_1 i47_89 ?_
      refine ew_bipush i47_90 (by decide) ?_
      refine ew_icmplt i47_92 (by omega) (fun c92 => ?_) (fun c92 => ?_)
      · refine ev_aloadn_0 i47_97 ?_
        refine ev_dup i47_98 rfl ?_
        refine ew_getI i47_99 g47_99 rfl (by first | exact hS.at | exact hX.men | exact hX.told | exact hX.road | exact hX.tone _ (by omega) (by omega) | exact hX.corn _ (by omega) (by omega) | exact hX.stand _ (by omega) (by omega) | exact hX.reach _ (by omega) (by omega) | exact hX.arm _ (by omega) (by omega) | exact hX.late _ (by omega) (by omega) | exact hX.len _ (by omega) (by omega) | exact hX.say (by omega) (by omega) _ (by omega) (by omega)) (fun b99 => ?_)
        refine ew_iconst i47_102 ?_
        refine ew_iadd i47_103 ?_
        refine ev_putI i47_104 g47_104 rfl ?_
        refine ev_iloadn_2 i47_107 ?_
        refine ew_bipush i47_108 (by decide) ?_
        refine ew_icmpne i47_110 (by omega) (fun c110 => ?_) (fun c110 => ?_)
        · exfalso; omega
        · refine ev_aloadn_0 i47_113 ?_
          refine ew_iconst i47_114 ?_
          refine ev_iloadn_1 i47_115 ?_
          refine ew_iconst i47_116 ?_
          refine ew_iadd i47_117 ?_
          refine ev_virt2 i47_118 g47_118 rfl (by decide +kernel) (Nat.le_of_ble_eq_true rfl) (hc X (d + 8) _ L sw _ hE (hS.sAt (by omega)) (fun M h1 h2 => ?_))
          first
          | refine ew_ifeqB i47_121 (fun c121 => ?_) (fun c121 => ?_)
          | refine ew_ifeq i47_121 (by omega) (fun c121 => ?_) (fun c121 => ?_)
          · refine ew_iconst i47_137 ?_
            exact ev_zreturn i47_138 r47 (by decide) (hK0 M (fr_tr (fr_up (fr_rfl _ _) (Or.inl ⟨rfl, rfl⟩)) h1) h2)
          · exfalso; omega
      · exfalso; omega
  · refine ev_iloadn_2 i47_65 ?_
    refine ew_bipush i47_66 (by decide) ?_
    refine ew_icmpeq i47_68 (by omega) (fun c68 => ?_) (fun c68 => ?_)
    · refine ew_iconst i47_77 ?_
      refine ev_goto i47_78 ?_
      refine ev_istore_4 i47_82 rfl ?_
      refine ev_iload_4 i47_84 ?_
      first
      | refine ew_ifeqB i47_86 (fun c86 => ?_) (fun c86 => ?_)
      | refine ew_ifeq i47_86 (by omega) (fun c86 => ?_) (fun c86 => ?_)
      · exfalso; omega
      · refine ev_iloadn_1 i47_89 ?_
        refine ew_bipush i47_90 (by decide) ?_
        refine ew_icmplt i47_92 (by omega) (fun c92 => ?_) (fun c92 => ?_)
        · refine ev_aloadn_0 i47_97 ?_
          refine ev_dup i47_98 rfl ?_
          refine ew_getI i47_99 g47_99 rfl (by first | exact hS.at | exact hX.men | exact hX.told | exact hX.road | exact hX.tone _ (by omega) (by omega) | exact hX.corn _ (by omega) (by omega) | exact hX.stand _ (by omega) (by omega) | exact hX.reach _ (by omega) (by omega) | exact hX.arm _ (by omega) (by omega) | exact hX.late _ (by omega) (by omega) | exact hX.len _ (by omega) (by omega) | exact hX.say (by omega) (by omega) _ (by omega) (by omega)) (fun b99 => ?_)
          refine ew_iconst i47_102 ?_
          refine ew_iadd i47_103 ?_
          refine ev_putI i47_104 g47_104 rfl ?_
          refine ev_iloadn_2 i47_107 ?_
          refine ew_bipush i47_108 (by decide) ?_
          refine ew_icmpne i47_110 (by omega) (fun c110 => ?_) (fun c110 => ?_)
          · exfalso; omega
          · refine ev_aloadn_0 i47_113 ?_
            refine ew_iconst i47_114 ?_
            refine ev_iloadn_1 i47_115 ?_
            refine ew_iconst i47_116 ?_
            refine ew_iadd i47_117 ?_
            refine ev_virt2 i47_118 g47_118 rfl (by decide +kernel) (Nat.le_of_ble_eq_true rfl) (hc X (d + 8) _ L sw _ hE (hS.sAt (by omega)) (fun M h1 h2 => ?_))
            first
            | refine ew_ifeqB i47_121 (fun c121 => ?_) (fun c121 => ?_)
            | refine ew_ifeq i47_121 (by omega) (fun c121 => ?_) (fun c121 => ?_)
            · refine ew_iconst i47_137 ?_
              exact ev_zreturn i47_138 r47 (by decide) (hK0 M (fr_tr (fr_up (fr_rfl _ _) (Or.inl ⟨rfl, rfl⟩)) h1) h2)
            · exfalso; omega
        · exfalso; omega
    · refine ev_iloadn_2 i47_71 ?_
      refine ew_bipush i47_72 (by decide) ?_
      refine ew_icmpne i47_74 (by omega) (fun c74 => ?_) (fun c74 => ?_)
      · exfalso; omega
      · refine ew_iconst i47_77 ?_
        refine ev_goto i47_78 ?_
        refine ev_istore_4 i47_82 rfl ?_
        refine ev_iload_4 i47_84 ?_
        first
        | refine ew_ifeqB i47_86 (fun c86 => ?_) (fun c86 => ?_)
        | refine ew_ifeq i47_86 (by omega) (fun c86 => ?_) (fun c86 => ?_)
        · exfalso; omega
        · refine ev_iloadn_1 i47_89 ?_
          refine ew_bipush i47_90 (by decide) ?_
          refine ew_icmplt i47_92 (by omega) (fun c92 => ?_) (fun c92 => ?_)
          · refine ev_aloadn_0 i47_97 ?_
            refine ev_dup i47_98 rfl ?_
            refine ew_getI i47_99 g47_99 rfl (by first | exact hS.at | exact hX.men | exact hX.told | exact hX.road | exact hX.tone _ (by omega) (by omega) | exact hX.corn _ (by omega) (by omega) | exact hX.stand _ (by omega) (by omega) | exact hX.reach _ (by omega) (by omega) | exact hX.arm _ (by omega) (by omega) | exact hX.late _ (by omega) (by omega) | exact hX.len _ (by omega) (by omega) | exact hX.say (by omega) (by omega) _ (by omega) (by omega)) (fun b99 => ?_)
            refine ew_iconst i47_102 ?_
            refine ew_iadd i47_103 ?_
            refine ev_putI i47_104 g47_104 rfl ?_
            refine ev_iloadn_2 i47_107 ?_
            refine ew_bipush i47_108 (by decide) ?_
            refine ew_icmpne i47_110 (by omega) (fun c110 => ?_) (fun c110 => ?_)
            · exfalso; omega
            · refine ev_aloadn_0 i47_113 ?_
              refine ew_iconst i47_114 ?_
              refine ev_iloadn_1 i47_115 ?_
              refine ew_iconst i47_116 ?_
              refine ew_iadd i47_117 ?_
              refine ev_virt2 i47_118 g47_118 rfl (by decide +kernel) (Nat.le_of_ble_eq_true rfl) (hc X (d + 8) _ L sw _ hE (hS.sAt (by omega)) (fun M h1 h2 => ?_))
              first
              | refine ew_ifeqB i47_121 (fun c121 => ?_) (fun c121 => ?_)
              | refine ew_ifeq i47_121 (by omega) (fun c121 => ?_) (fun c121 => ?_)
              · refine ew_iconst i47_137 ?_
                exact ev_zreturn i47_138 r47 (by decide) (hK0 M (fr_tr (fr_up (fr_rfl _ _) (Or.inl ⟨rfl, rfl⟩)) h1) h2)
              · exfalso; omega
          · exfalso; omega
theorem XO_un (hd : 8 ≤ d) (hE : E ≤ d) (hS : SX I sw n tx p s st op) (p0 : 0 ≤ p) (ho : 0 ≤ o ∧ o < 6) (h1 : t_nx n tx p = 33 ∨ t_nx n tx p = 45) (hc : CXs E (cxo (o + 1)) n tx (p + 1) s st op q s' st' op') (hs : 0 ≤ s' ∧ s' < 127) (hK1 : ∀ J, fr (fzr sw) I J → SX J sw n tx q (s' + 1) (zu st' s' (if t_nx n tx p = 33 then 4 else 5)) (zu op' s' 0) → K (some (.int (zI (1)))) (J, L, ts_P0 sw, ts_S0)) : cxo o X (d + 1) I L sw K := by
  obtain ⟨d, rfl⟩ : ∃ d', d = d' + 8 := ⟨d - 8, by omega⟩
  have b := hS.n0
  have lt := t_nx_lt (n := n) (tx := tx) (p := p) (by omega)
  refine XO_pre hS p0 (by omega) (by omega) (by unfold nmi; omega) ?_
  refine ev_iloadn_2 i47_59 ?_
  refine ew_bipush i47_60 (by decide) ?_
  refine ew_icmpeq i47_62 (by omega) (fun c62 => ?_) (fun c62 => ?_)
  · refine ew_iconst i47_77 ?_
    refine ev_goto i47_78 ?_
    refine ev_istore_4 i47_82 rfl ?_
    refine ev_iload_4 i47_84 ?_
    first
    | refine ew_ifeqB i47_86 (fun c86 => ?_) (fun c86 => ?_)
    | refine ew_ifeq i47_86 (by omega) (fun c86 => ?_) (fun c86 => ?_)
    · exfalso; omega
    · refine ev_iloadn_1 i47_89 ?_
      refine ew_bipush i47_90 (by decide) ?_
      refine ew_icmplt i47_92 (by omega) (fun c92 => ?_) (fun c92 => ?_)
      · refine ev_aloadn_0 i47_97 ?_
        refine ev_dup i47_98 rfl ?_
        refine ew_getI i47_99 g47_99 rfl (by first | exact hS.at | exact hX.men | exact hX.told | exact hX.road | exact hX.tone _ (by omega) (by omega) | exact hX.corn _ (by omega) (by omega) | exact hX.stand _ (by omega) (by omega) | exact hX.reach _ (by omega) (by omega) | exact hX.arm _ (by omega) (by omega) | exact hX.late _ (by omega) (by omega) | exact hX.len _ (by omega) (by omega) | exact hX.say (by omega) (by omega) _ (by omega) (by omega)) (fun b99 => ?_)
        refine ew_iconst i47_102 ?_
        refine ew_iadd i47_103 ?_
        refine ev_putI i47_104 g47_104 rfl ?_
        refine ev_iloadn_2 i47_107 ?_
        refine ew_bipush i47_108 (by decide) ?_
        refine ew_icmpne i47_110 (by omega) (fun c110 => ?_) (fun c110 => ?_)
        · refine ev_aloadn_0 i47_139 ?_
          refine ev_iloadn_1 i47_140 ?_
          refine ew_iconst i47_141 ?_
          refine ew_iadd i47_142 ?_
          refine ev_virt1 i47_143 g47_143 rfl (by decide +kernel) (Nat.le_of_ble_eq_true rfl) (hc X (d + 8) _ L sw _ hE (hS.sAt (by omega)) (fun M h1 h2 => ?_))
          first
          | refine ew_ifneB i47_146 (fun c146 => ?_) (fun c146 => ?_)
          | refine ew_ifne i47_146 (by omega) (fun c146 => ?_) (fun c146 => ?_)
          · refine ev_aloadn_0 i47_151 ?_
            refine ev_getA i47_152 g47_152 rfl (into_Q sw) (ts_into_ne _) ?_
            refine ev_iloadn_2 i47_155 ?_
            refine ew_bipush i47_156 (by decide) ?_
            refine ew_icmpne i47_158 (by omega) (fun c158 => ?_) (fun c158 => ?_)
            · refine ew_iconst i47_165 ?_
              first
              | rw [if_pos (by omega)] at hK1
              | rw [if_neg (by omega)] at hK1
              refine ew_iconst i47_166 ?_
              refine ev_virt2 i47_167 g47_167 (into_R sw) (by decide +kernel) (Nat.le_of_ble_eq_true rfl) (x_addStep h2 (by omega) (by omega) (by omega) (fun M2 h3 h4 => ?_))
              refine ev_pop i47_170 rfl ?_
              refine ew_iconst i47_171 ?_
              first
              | exact ev_zreturn i47_172 r47 (by decide) (hK1 M2 (fr_tr (fr_tr (fr_up (fr_rfl _ _) (Or.inl ⟨rfl, rfl⟩)) h1) h3) h4)
              | (exfalso; omega)
            · refine ew_iconst i47_161 ?_
              refine ev_goto i47_162 ?_
              first
              | rw [if_pos (by omega)] at hK1
              | rw [if_neg (by omega)] at hK1
              refine ew_iconst i47_166 ?_
              refine ev_virt2 i47_167 g47_167 (into_R sw) (by decide +kernel) (Nat.le_of_ble_eq_true rfl) (x_addStep h2 (by omega) (by omega) (by omega) (fun M2 h3 h4 => ?_))
              refine ev_pop i47_170 rfl ?_
              refine ew_iconst i47_171 ?_
              first
              | exact ev_zreturn i47_172 r47 (by decide) (hK1 M2 (fr_tr (fr_tr (fr_up (fr_rfl _ _) (Or.inl ⟨rfl, rfl⟩)) h1) h3) h4)
              | (exfalso; omega)
          · exfalso; omega
        · exfalso; omega
      · exfalso; omega
  · refine ev_iloadn_2 i47_65 ?_
    refine ew_bipush i47_66 (by decide) ?_
    refine ew_icmpeq i47_68 (by omega) (fun c68 => ?_) (fun c68 => ?_)
    · refine ew_iconst i47_77 ?_
      refine ev_goto i47_78 ?_
      refine ev_istore_4 i47_82 rfl ?_
      refine ev_iload_4 i47_84 ?_
      first
      | refine ew_ifeqB i47_86 (fun c86 => ?_) (fun c86 => ?_)
      | refine ew_ifeq i47_86 (by omega) (fun c86 => ?_) (fun c86 => ?_)
      · exfalso; omega
      · refine ev_iloadn_1 i47_89 ?_
        refine ew_bipush i47_90 (by decide) ?_
        refine ew_icmplt i47_92 (by omega) (fun c92 => ?_) (fun c92 => ?_)
        · refine ev_aloadn_0 i47_97 ?_
          refine ev_dup i47_98 rfl ?_
          refine ew_getI i47_99 g47_99 rfl (by first | exact hS.at | exact hX.men | exact hX.told | exact hX.road | exact hX.tone _ (by omega) (by omega) | exact hX.corn _ (by omega) (by omega) | exact hX.stand _ (by omega) (by omega) | exact hX.reach _ (by omega) (by omega) | exact hX.arm _ (by omega) (by omega) | exact hX.late _ (by omega) (by omega) | exact hX.len _ (by omega) (by omega) | exact hX.say (by omega) (by omega) _ (by omega) (by omega)) (fun b99 => ?_)
          refine ew_iconst i47_102 ?_
          refine ew_iadd i47_103 ?_
          refine ev_putI i47_104 g47_104 rfl ?_
          refine ev_iloadn_2 i47_107 ?_
          refine ew_bipush i47_108 (by decide) ?_
          refine ew_icmpne i47_110 (by omega) (fun c110 => ?_) (fun c110 => ?_)
          · refine ev_aloadn_0 i47_139 ?_
            refine ev_iloadn_1 i47_140 ?_
            refine ew_iconst i47_141 ?_
            refine ew_iadd i47_142 ?_
            refine ev_virt1 i47_143 g47_143 rfl (by decide +kernel) (Nat.le_of_ble_eq_true rfl) (hc X (d + 8) _ L sw _ hE (hS.sAt (by omega)) (fun M h1 h2 => ?_))
            first
            | refine ew_ifneB i47_146 (fun c146 => ?_) (fun c146 => ?_)
            | refine ew_ifne i47_146 (by omega) (fun c146 => ?_) (fun c146 => ?_)
            · refine ev_aloadn_0 i47_151 ?_
              refine ev_getA i47_152 g47_152 rfl (into_Q sw) (ts_into_ne _) ?_
              refine ev_iloadn_2 i47_155 ?_
              refine ew_bipush i47_156 (by decide) ?_
              refine ew_icmpne i47_158 (by omega) (fun c158 => ?_) (fun c158 => ?_)
              · refine ew_iconst i47_165 ?_
                first
                | rw [if_pos (by omega)] at hK1
                | rw [if_neg (by omega)] at hK1
                refine ew_iconst i47_166 ?_
                refine ev_virt2 i47_167 g47_167 (into_R sw) (by decide +kernel) (Nat.le_of_ble_eq_true rfl) (x_addStep h2 (by omega) (by omega) (by omega) (fun M2 h3 h4 => ?_))
                refine ev_pop i47_170 rfl ?_
                refine ew_iconst i47_171 ?_
                first
                | exact ev_zreturn i47_172 r47 (by decide) (hK1 M2 (fr_tr (fr_tr (fr_up (fr_rfl _ _) (Or.inl ⟨rfl, rfl⟩)) h1) h3) h4)
                | (exfalso; omega)
              · refine ew_iconst i47_161 ?_
                refine ev_goto i47_162 ?_
                first
                | rw [if_pos (by omega)] at hK1
                | rw [if_neg (by omega)] at hK1
                refine ew_iconst i47_166 ?_
                refine ev_virt2 i47_167 g47_167 (into_R sw) (by decide +kernel) (Nat.le_of_ble_eq_true rfl) (x_addStep h2 (by omega) (by omega) (by omega) (fun M2 h3 h4 => ?_))
                refine ev_pop i47_170 rfl ?_
                refine ew_iconst i47_171 ?_
                first
                | exact ev_zreturn i47_172 r47 (by decide) (hK1 M2 (fr_tr (fr_tr (fr_up (fr_rfl _ _) (Or.inl ⟨rfl, rfl⟩)) h1) h3) h4)
                | (exfalso; omega)
            · exfalso; omega
          · exfalso; omega
        · exfalso; omega
    · refine ev_iloadn_2 i47_71 ?_
      refine ew_bipush i47_72 (by decide) ?_
      refine ew_icmpne i47_74 (by omega) (fun c74 => ?_) (fun c74 => ?_)
      · exfalso; omega
      · refine ew_iconst i47_77 ?_
        refine ev_goto i47_78 ?_
        refine ev_istore_4 i47_82 rfl ?_
        refine ev_iload_4 i47_84 ?_
        first
        | refine ew_ifeqB i47_86 (fun c86 => ?_) (fun c86 => ?_)
        | refine ew_ifeq i47_86 (by omega) (fun c86 => ?_) (fun c86 => ?_)
        · exfalso; omega
        · refine ev_iloadn_1 i47_89 ?_
          refine ew_bipush i47_90 (by decide) ?_
          refine ew_icmplt i47_92 (by omega) (fun c92 => ?_) (fun c92 => ?_)
          · refine ev_aloadn_0 i47_97 ?_
            refine ev_dup i47_98 rfl ?_
            refine ew_getI i47_99 g47_99 rfl (by first | exact hS.at | exact hX.men | exact hX.told | exact hX.road | exact hX.tone _ (by omega) (by omega) | exact hX.corn _ (by omega) (by omega) | exact hX.stand _ (by omega) (by omega) | exact hX.reach _ (by omega) (by omega) | exact hX.arm _ (by omega) (by omega) | exact hX.late _ (by omega) (by omega) | exact hX.len _ (by omega) (by omega) | exact hX.say (by omega) (by omega) _ (by omega) (by omega)) (fun b99 => ?_)
            refine ew_iconst i47_102 ?_
            refine ew_iadd i47_103 ?_
            refine ev_putI i47_104 g47_104 rfl ?_
            refine ev_iloadn_2 i47_107 ?_
            refine ew_bipush i47_108 (by decide) ?_
            refine ew_icmpne i47_110 (by omega) (fun c110 => ?_) (fun c110 => ?_)
            · refine ev_aloadn_0 i47_139 ?_
              refine ev_iloadn_1 i47_140 ?_
              refine ew_iconst i47_141 ?_
              refine ew_iadd i47_142 ?_
              refine ev_virt1 i47_143 g47_143 rfl (by decide +kernel) (Nat.le_of_ble_eq_true rfl) (hc X (d + 8) _ L sw _ hE (hS.sAt (by omega)) (fun M h1 h2 => ?_))
              first
              | refine ew_ifneB i47_146 (fun c146 => ?_) (fun c146 => ?_)
              | refine ew_ifne i47_146 (by omega) (fun c146 => ?_) (fun c146 => ?_)
              · refine ev_aloadn_0 i47_151 ?_
                refine ev_getA i47_152 g47_152 rfl (into_Q sw) (ts_into_ne _) ?_
                refine ev_iloadn_2 i47_155 ?_
                refine ew_bipush i47_156 (by decide) ?_
                refine ew_icmpne i47_158 (by omega) (fun c158 => ?_) (fun c158 => ?_)
                · refine ew_iconst i47_165 ?_
                  first
                  | rw [if_pos (by omega)] at hK1
                  | rw [if_neg (by omega)] at hK1
                  refine ew_iconst i47_166 ?_
                  refine ev_virt2 i47_167 g47_167 (into_R sw) (by decide +kernel) (Nat.le_of_ble_eq_true rfl) (x_addStep h2 (by omega) (by omega) (by omega) (fun M2 h3 h4 => ?_))
                  refine ev_pop i47_170 rfl ?_
                  refine ew_iconst i47_171 ?_
                  first
                  | exact ev_zreturn i47_172 r47 (by decide) (hK1 M2 (fr_tr (fr_tr (fr_up (fr_rfl _ _) (Or.inl ⟨rfl, rfl⟩)) h1) h3) h4)
                  | (exfalso; omega)
                · refine ew_iconst i47_161 ?_
                  refine ev_goto i47_162 ?_
                  first
                  | rw [if_pos (by omega)] at hK1
                  | rw [if_neg (by omega)] at hK1
                  refine ew_iconst i47_166 ?_
                  refine ev_virt2 i47_167 g47_167 (into_R sw) (by decide +kernel) (Nat.le_of_ble_eq_true rfl) (x_addStep h2 (by omega) (by omega) (by omega) (fun M2 h3 h4 => ?_))
                  refine ev_pop i47_170 rfl ?_
                  refine ew_iconst i47_171 ?_
                  first
                  | exact ev_zreturn i47_172 r47 (by decide) (hK1 M2 (fr_tr (fr_tr (fr_up (fr_rfl _ _) (Or.inl ⟨rfl, rfl⟩)) h1) h3) h4)
                  | (exfalso; omega)
              · exfalso; omega
            · exfalso; omega
          · exfalso; omega
theorem XO_unF (hd : 8 ≤ d) (hE : E ≤ d) (hS : SX I sw n tx p s st op) (p0 : 0 ≤ p) (ho : 0 ≤ o ∧ o < 6) (h1 : t_nx n tx p = 33 ∨ t_nx n tx p = 45) (hc : CXf E (cxo (o + 1)) n tx (p + 1) s st op q) (hK0 : ∀ J, fr (fzr sw) I J → rd (J 24 2) 0 120 q → K (some (.int (zI (0)))) (J, L, ts_P0 sw, ts_S0)) : cxo o X (d + 1) I L sw K := by
  obtain ⟨d, rfl⟩ : ∃ d', d = d' + 8 := ⟨d - 8, by omega⟩
  have b := hS.n0
  have lt := t_nx_lt (n := n) (tx := tx) (p := p) (by omega)
  refine XO_pre hS p0 (by omega) (by omega) (by unfold nmi; omega) ?_
  refine ev_iloadn_2 i47_59 ?_
  refine ew_bipush i47_60 (by decide) ?_
  refine ew_icmpeq i47_62 (by omega) (fun c62 => ?_) (fun c62 => ?_)
  · refine ew_iconst i47_77 ?_
    refine ev_goto i47_78 ?_
    refine ev_istore_4 i47_82 rfl ?_
    refine ev_iload_4 i47_84 ?_
    first
    | refine ew_ifeqB i47_86 (fun c86 => ?_) (fun c86 => ?_)
    | refine ew_ifeq i47_86 (by omega) (fun c86 => ?_) (fun c86 => ?_)
    · exfalso; omega
    · refine ev_iloadn_1 i47_89 ?_
      refine ew_bipush i47_90 (by decide) ?_
      refine ew_icmplt i47_92 (by omega) (fun c92 => ?_) (fun c92 => ?_)
      · refine ev_aloadn_0 i47_97 ?_
        refine ev_dup i47_98 rfl ?_
        refine ew_getI i47_99 g47_99 rfl (by first | exact hS.at | exact hX.men | exact hX.told | exact hX.road | exact hX.tone _ (by omega) (by omega) | exact hX.corn _ (by omega) (by omega) | exact hX.stand _ (by omega) (by omega) | exact hX.reach _ (by omega) (by omega) | exact hX.arm _ (by omega) (by omega) | exact hX.late _ (by omega) (by omega) | exact hX.len _ (by omega) (by omega) | exact hX.say (by omega) (by omega) _ (by omega) (by omega)) (fun b99 => ?_)
        refine ew_iconst i47_102 ?_
        refine ew_iadd i47_103 ?_
        refine ev_putI i47_104 g47_104 rfl ?_
        refine ev_iloadn_2 i47_107 ?_
        refine ew_bipush i47_108 (by decide) ?_
        refine ew_icmpne i47_110 (by omega) (fun c110 => ?_) (fun c110 => ?_)
        · refine ev_aloadn_0 i47_139 ?_
          refine ev_iloadn_1 i47_140 ?_
          refine ew_iconst i47_141 ?_
          refine ew_iadd i47_142 ?_
          refine ev_virt1 i47_143 g47_143 rfl (by decide +kernel) (Nat.le_of_ble_eq_true rfl) (hc X (d + 8) _ L sw _ hE (hS.sAt (by omega)) (fun M h1 h2 => ?_))
          first
          | refine ew_ifneB i47_146 (fun c146 => ?_) (fun c146 => ?_)
          | refine ew_ifne i47_146 (by omega) (fun c146 => ?_) (fun c146 => ?_)
          · exfalso; omega
          · refine ew_iconst i47_149 ?_
            exact ev_zreturn i47_150 r47 (by decide) (hK0 M (fr_tr (fr_up (fr_rfl _ _) (Or.inl ⟨rfl, rfl⟩)) h1) h2)
        · exfalso; omega
      · exfalso; omega
  · refine ev_iloadn_2 i47_65 ?_
    refine ew_bipush i47_66 (by decide) ?_
    refine ew_icmpeq i47_68 (by omega) (fun c68 => ?_) (fun c68 => ?_)
    · refine ew_iconst i47_77 ?_
      refine ev_goto i47_78 ?_
      refine ev_istore_4 i47_82 rfl ?_
      refine ev_iload_4 i47_84 ?_
      first
      | refine ew_ifeqB i47_86 (fun c86 => ?_) (fun c86 => ?_)
      | refine ew_ifeq i47_86 (by omega) (fun c86 => ?_) (fun c86 => ?_)
      · exfalso; omega
      · refine ev_iloadn_1 i47_89 ?_
        refine ew_bipush i47_90 (by decide) ?_
        refine ew_icmplt i47_92 (by omega) (fun c92 => ?_) (fun c92 => ?_)
        · refine ev_aloadn_0 i47_97 ?_
          refine ev_dup i47_98 rfl ?_
          refine ew_getI i47_99 g47_99 rfl (by first | exact hS.at | exact hX.men | exact hX.told | exact hX.road | exact hX.tone _ (by omega) (by omega) | exact hX.corn _ (by omega) (by omega) | exact hX.stand _ (by omega) (by omega) | exact hX.reach _ (by omega) (by omega) | exact hX.arm _ (by omega) (by omega) | exact hX.late _ (by omega) (by omega) | exact hX.len _ (by omega) (by omega) | exact hX.say (by omega) (by omega) _ (by omega) (by omega)) (fun b99 => ?_)
          refine ew_iconst i47_102 ?_
          refine ew_iadd i47_103 ?_
          refine ev_putI i47_104 g47_104 rfl ?_
          refine ev_iloadn_2 i47_107 ?_
          refine ew_bipush i47_108 (by decide) ?_
          refine ew_icmpne i47_110 (by omega) (fun c110 => ?_) (fun c110 => ?_)
          · refine ev_aloadn_0 i47_139 ?_
            refine ev_iloadn_1 i47_140 ?_
            refine ew_iconst i47_141 ?_
            refine ew_iadd i47_142 ?_
            refine ev_virt1 i47_143 g47_143 rfl (by decide +kernel) (Nat.le_of_ble_eq_true rfl) (hc X (d + 8) _ L sw _ hE (hS.sAt (by omega)) (fun M h1 h2 => ?_))
            first
            | refine ew_ifneB i47_146 (fun c146 => ?_) (fun c146 => ?_)
            | refine ew_ifne i47_146 (by omega) (fun c146 => ?_) (fun c146 => ?_)
            · exfalso; omega
            · refine ew_iconst i47_149 ?_
              exact ev_zreturn i47_150 r47 (by decide) (hK0 M (fr_tr (fr_up (fr_rfl _ _) (Or.inl ⟨rfl, rfl⟩)) h1) h2)
          · exfalso; omega
        · exfalso; omega
    · refine ev_iloadn_2 i47_71 ?_
      refine ew_bipush i47_72 (by decide) ?_
      refine ew_icmpne i47_74 (by omega) (fun c74 => ?_) (fun c74 => ?_)
      · exfalso; omega
      · refine ew_iconst i47_77 ?_
        refine ev_goto i47_78 ?_
        refine ev_istore_4 i47_82 rfl ?_
        refine ev_iload_4 i47_84 ?_
        first
        | refine ew_ifeqB i47_86 (fun c86 => ?_) (fun c86 => ?_)
        | refine ew_ifeq i47_86 (by omega) (fun c86 => ?_) (fun c86 => ?_)
        · exfalso; omega
        · refine ev_iloadn_1 i47_89 ?_
          refine ew_bipush i47_90 (by decide) ?_
          refine ew_icmplt i47_92 (by omega) (fun c92 => ?_) (fun c92 => ?_)
          · refine ev_aloadn_0 i47_97 ?_
            refine ev_dup i47_98 rfl ?_
            refine ew_getI i47_99 g47_99 rfl (by first | exact hS.at | exact hX.men | exact hX.told | exact hX.road | exact hX.tone _ (by omega) (by omega) | exact hX.corn _ (by omega) (by omega) | exact hX.stand _ (by omega) (by omega) | exact hX.reach _ (by omega) (by omega) | exact hX.arm _ (by omega) (by omega) | exact hX.late _ (by omega) (by omega) | exact hX.len _ (by omega) (by omega) | exact hX.say (by omega) (by omega) _ (by omega) (by omega)) (fun b99 => ?_)
            refine ew_iconst i47_102 ?_
            refine ew_iadd i47_103 ?_
            refine ev_putI i47_104 g47_104 rfl ?_
            refine ev_iloadn_2 i47_107 ?_
            refine ew_bipush i47_108 (by decide) ?_
            refine ew_icmpne i47_110 (by omega) (fun c110 => ?_) (fun c110 => ?_)
            · refine ev_aloadn_0 i47_139 ?_
              refine ev_iloadn_1 i47_140 ?_
              refine ew_iconst i47_141 ?_
              refine ew_iadd i47_142 ?_
              refine ev_virt1 i47_143 g47_143 rfl (by decide +kernel) (Nat.le_of_ble_eq_true rfl) (hc X (d + 8) _ L sw _ hE (hS.sAt (by omega)) (fun M h1 h2 => ?_))
              first
              | refine ew_ifneB i47_146 (fun c146 => ?_) (fun c146 => ?_)
              | refine ew_ifne i47_146 (by omega) (fun c146 => ?_) (fun c146 => ?_)
              · exfalso; omega
              · refine ew_iconst i47_149 ?_
                exact ev_zreturn i47_150 r47 (by decide) (hK0 M (fr_tr (fr_up (fr_rfl _ _) (Or.inl ⟨rfl, rfl⟩)) h1) h2)
            · exfalso; omega
          · exfalso; omega
end CL
