theorem i44_0 : ts_ins 44 0 = some (.aload_n 0, 1, 0) := by decide +kernel
theorem i44_1 : ts_ins 44 1 = some (.iconst 0, 2, 0) := by decide +kernel
theorem i44_2 : ts_ins 44 2 = some (.iconst 0, 3, 0) := by decide +kernel
theorem i44_3 : ts_ins 44 3 = some (.invokevirtual 44, 6, 0) := by decide +kernel
theorem g44_3 : ts_cal (ts_mc 44) 44 = some (0, 45, 2) := by decide +kernel
theorem i44_6 : ts_ins 44 6 = some (.ifCond .ne 5, 9, 11) := by decide +kernel
theorem i44_9 : ts_ins 44 9 = some (.iconst 0, 10, 0) := by decide +kernel
theorem i44_10 : ts_ins 44 10 = some (.ireturn, 11, 0) := by decide +kernel
theorem i44_11 : ts_ins 44 11 = some (.aload_n 0, 12, 0) := by decide +kernel
theorem i44_12 : ts_ins 44 12 = some (.bipush 63, 14, 0) := by decide +kernel
theorem i44_14 : ts_ins 44 14 = some (.invokevirtual 40, 17, 0) := by decide +kernel
theorem g44_14 : ts_cal (ts_mc 44) 40 = some (0, 43, 1) := by decide +kernel
theorem i44_17 : ts_ins 44 17 = some (.ifCond .ne 15, 20, 32) := by decide +kernel
theorem i44_20 : ts_ins 44 20 = some (.aload_n 0, 21, 0) := by decide +kernel
theorem i44_21 : ts_ins 44 21 = some (.getfield 25, 24, 0) := by decide +kernel
theorem g44_21 : ts_fm 44 25 = some (5, 3, 2) := by decide +kernel
theorem i44_24 : ts_ins 44 24 = some (.iconst 3, 25, 0) := by decide +kernel
theorem i44_25 : ts_ins 44 25 = some (.iconst 0, 26, 0) := by decide +kernel
theorem i44_26 : ts_ins 44 26 = some (.invokevirtual 48, 29, 0) := by decide +kernel
theorem g44_26 : ts_cal (ts_mc 44) 48 = some (0, 35, 2) := by decide +kernel
theorem i44_29 : ts_ins 44 29 = some (.pop, 30, 0) := by decide +kernel
theorem i44_30 : ts_ins 44 30 = some (.iconst 1, 31, 0) := by decide +kernel
theorem i44_31 : ts_ins 44 31 = some (.ireturn, 32, 0) := by decide +kernel
theorem i44_32 : ts_ins 44 32 = some (.aload_n 0, 33, 0) := by decide +kernel
theorem i44_33 : ts_ins 44 33 = some (.getfield 25, 36, 0) := by decide +kernel
theorem g44_33 : ts_fm 44 25 = some (5, 3, 2) := by decide +kernel
theorem i44_36 : ts_ins 44 36 = some (.iconst 2, 37, 0) := by decide +kernel
theorem i44_37 : ts_ins 44 37 = some (.iconst 0, 38, 0) := by decide +kernel
theorem i44_38 : ts_ins 44 38 = some (.invokevirtual 48, 41, 0) := by decide +kernel
theorem g44_38 : ts_cal (ts_mc 44) 48 = some (0, 35, 2) := by decide +kernel
theorem i44_41 : ts_ins 44 41 = some (.istore_n 1, 42, 0) := by decide +kernel
theorem i44_42 : ts_ins 44 42 = some (.aload_n 0, 43, 0) := by decide +kernel
theorem i44_43 : ts_ins 44 43 = some (.iconst 0, 44, 0) := by decide +kernel
theorem i44_44 : ts_ins 44 44 = some (.iconst 0, 45, 0) := by decide +kernel
theorem i44_45 : ts_ins 44 45 = some (.invokevirtual 44, 48, 0) := by decide +kernel
theorem g44_45 : ts_cal (ts_mc 44) 44 = some (0, 45, 2) := by decide +kernel
theorem i44_48 : ts_ins 44 48 = some (.ifCond .ne 5, 51, 53) := by decide +kernel
theorem i44_51 : ts_ins 44 51 = some (.iconst 0, 52, 0) := by decide +kernel
theorem i44_52 : ts_ins 44 52 = some (.ireturn, 53, 0) := by decide +kernel
theorem i44_53 : ts_ins 44 53 = some (.aload_n 0, 54, 0) := by decide +kernel
theorem i44_54 : ts_ins 44 54 = some (.getfield 25, 57, 0) := by decide +kernel
theorem g44_54 : ts_fm 44 25 = some (5, 3, 2) := by decide +kernel
theorem i44_57 : ts_ins 44 57 = some (.iconst 3, 58, 0) := by decide +kernel
theorem i44_58 : ts_ins 44 58 = some (.iconst 0, 59, 0) := by decide +kernel
theorem i44_59 : ts_ins 44 59 = some (.invokevirtual 48, 62, 0) := by decide +kernel
theorem g44_59 : ts_cal (ts_mc 44) 48 = some (0, 35, 2) := by decide +kernel
theorem i44_62 : ts_ins 44 62 = some (.pop, 63, 0) := by decide +kernel
theorem i44_63 : ts_ins 44 63 = some (.aload_n 0, 64, 0) := by decide +kernel
theorem i44_64 : ts_ins 44 64 = some (.getfield 25, 67, 0) := by decide +kernel
theorem g44_64 : ts_fm 44 25 = some (5, 3, 2) := by decide +kernel
theorem i44_67 : ts_ins 44 67 = some (.getfield 52, 70, 0) := by decide +kernel
theorem g44_67 : ts_fm 44 52 = some (4, 1, 2) := by decide +kernel
theorem i44_70 : ts_ins 44 70 = some (.iload_n 1, 71, 0) := by decide +kernel
theorem i44_71 : ts_ins 44 71 = some (.aload_n 0, 72, 0) := by decide +kernel
theorem i44_72 : ts_ins 44 72 = some (.getfield 25, 75, 0) := by decide +kernel
theorem g44_72 : ts_fm 44 25 = some (5, 3, 2) := by decide +kernel
theorem i44_75 : ts_ins 44 75 = some (.getfield 29, 78, 0) := by decide +kernel
theorem g44_75 : ts_fm 44 29 = some (4, 4, 0) := by decide +kernel
theorem i44_78 : ts_ins 44 78 = some (.iastore, 79, 0) := by decide +kernel
theorem i44_79 : ts_ins 44 79 = some (.iconst 1, 80, 0) := by decide +kernel
theorem i44_80 : ts_ins 44 80 = some (.ireturn, 81, 0) := by decide +kernel
theorem r44 : ts_rt 44 = ((some .boolean), 0, 0) := by decide +kernel
theorem l44 : ts_ml 44 = 2 := by decide +kernel
theorem i170_0 : ts_ins 170 0 = some (.aload_n 0, 1, 0) := by decide +kernel
theorem i170_1 : ts_ins 170 1 = some (.iload_n 1, 2, 0) := by decide +kernel
theorem i170_2 : ts_ins 170 2 = some (.putfield 155, 5, 0) := by decide +kernel
theorem g170_2 : ts_fmm 170 155 = some (12, 13, 0, false) := by decide +kernel
theorem i170_5 : ts_ins 170 5 = some (.aload_n 0, 6, 0) := by decide +kernel
theorem i170_6 : ts_ins 170 6 = some (.iconst 0, 7, 0) := by decide +kernel
theorem i170_7 : ts_ins 170 7 = some (.putfield 149, 10, 0) := by decide +kernel
theorem g170_7 : ts_fmm 170 149 = some (12, 14, 0, false) := by decide +kernel
theorem i170_10 : ts_ins 170 10 = some (.aload_n 0, 11, 0) := by decide +kernel
theorem i170_11 : ts_ins 170 11 = some (.iload_n 2, 12, 0) := by decide +kernel
theorem i170_12 : ts_ins 170 12 = some (.putfield 152, 15, 0) := by decide +kernel
theorem g170_12 : ts_fmm 170 152 = some (12, 15, 0, false) := by decide +kernel
theorem i170_15 : ts_ins 170 15 = some (.aload_n 0, 16, 0) := by decide +kernel
theorem i170_16 : ts_ins 170 16 = some (.iconst (-1), 17, 0) := by decide +kernel
theorem i170_17 : ts_ins 170 17 = some (.putfield 158, 20, 0) := by decide +kernel
theorem g170_17 : ts_fmm 170 158 = some (12, 16, 0, false) := by decide +kernel
theorem i170_20 : ts_ins 170 20 = some (.aload_n 0, 21, 0) := by decide +kernel
theorem i170_21 : ts_ins 170 21 = some (.iconst 0, 22, 0) := by decide +kernel
theorem i170_22 : ts_ins 170 22 = some (.putfield 183, 25, 0) := by decide +kernel
theorem g170_22 : ts_fmm 170 183 = some (12, 17, 0, false) := by decide +kernel
theorem i170_25 : ts_ins 170 25 = some (.iconst 0, 26, 0) := by decide +kernel
theorem i170_26 : ts_ins 170 26 = some (.istore_n 3, 27, 0) := by decide +kernel
theorem i170_27 : ts_ins 170 27 = some (.iconst 0, 28, 0) := by decide +kernel
theorem i170_28 : ts_ins 170 28 = some (.istore 4, 30, 0) := by decide +kernel
theorem i170_30 : ts_ins 170 30 = some (.iconst 1, 31, 0) := by decide +kernel
theorem i170_31 : ts_ins 170 31 = some (.istore 5, 33, 0) := by decide +kernel
theorem i170_33 : ts_ins 170 33 = some (.iload 5, 35, 0) := by decide +kernel
theorem i170_35 : ts_ins 170 35 = some (.ifCond .eq 72, 38, 107) := by decide +kernel
theorem i170_38 : ts_ins 170 38 = some (.aload_n 0, 39, 0) := by decide +kernel
theorem i170_39 : ts_ins 170 39 = some (.invokevirtual 189, 42, 0) := by decide +kernel
theorem g170_39 : ts_cal (ts_mc 170) 189 = some (0, 163, 0) := by decide +kernel
theorem i170_42 : ts_ins 170 42 = some (.istore 6, 44, 0) := by decide +kernel
theorem i170_44 : ts_ins 170 44 = some (.iconst 1, 45, 0) := by decide +kernel
theorem i170_45 : ts_ins 170 45 = some (.istore 7, 47, 0) := by decide +kernel
theorem i170_47 : ts_ins 170 47 = some (.aload_n 0, 48, 0) := by decide +kernel
theorem i170_48 : ts_ins 170 48 = some (.bipush 63, 50, 0) := by decide +kernel
theorem i170_50 : ts_ins 170 50 = some (.invokevirtual 168, 53, 0) := by decide +kernel
theorem g170_50 : ts_cal (ts_mc 170) 168 = some (0, 162, 1) := by decide +kernel
theorem i170_53 : ts_ins 170 53 = some (.ifCond .eq 21, 56, 74) := by decide +kernel
theorem i170_56 : ts_ins 170 56 = some (.iload 6, 58, 0) := by decide +kernel
theorem i170_58 : ts_ins 170 58 = some (.ifCond .eq 7, 61, 65) := by decide +kernel
theorem i170_61 : ts_ins 170 61 = some (.iconst 1, 62, 0) := by decide +kernel
theorem i170_62 : ts_ins 170 62 = some (.goto 4, 65, 66) := by decide +kernel
theorem i170_65 : ts_ins 170 65 = some (.iconst 0, 66, 0) := by decide +kernel
theorem i170_66 : ts_ins 170 66 = some (.istore 7, 68, 0) := by decide +kernel
theorem i170_68 : ts_ins 170 68 = some (.aload_n 0, 69, 0) := by decide +kernel
theorem i170_69 : ts_ins 170 69 = some (.invokevirtual 189, 72, 0) := by decide +kernel
theorem g170_69 : ts_cal (ts_mc 170) 189 = some (0, 163, 0) := by decide +kernel
theorem i170_72 : ts_ins 170 72 = some (.istore 6, 74, 0) := by decide +kernel
theorem i170_74 : ts_ins 170 74 = some (.aload_n 0, 75, 0) := by decide +kernel
theorem i170_75 : ts_ins 170 75 = some (.getfield 158, 78, 0) := by decide +kernel
theorem g170_75 : ts_fm 170 158 = some (12, 16, 0) := by decide +kernel
theorem i170_78 : ts_ins 170 78 = some (.ifCond .ge 18, 81, 96) := by decide +kernel
theorem i170_81 : ts_ins 170 81 = some (.iload 7, 83, 0) := by decide +kernel
theorem i170_83 : ts_ins 170 83 = some (.ifCond .eq 13, 86, 96) := by decide +kernel
theorem i170_86 : ts_ins 170 86 = some (.iload_n 3, 87, 0) := by decide +kernel
theorem i170_87 : ts_ins 170 87 = some (.ifCond .ne 9, 90, 96) := by decide +kernel
theorem i170_90 : ts_ins 170 90 = some (.iconst 1, 91, 0) := by decide +kernel
theorem i170_91 : ts_ins 170 91 = some (.istore_n 3, 92, 0) := by decide +kernel
theorem i170_92 : ts_ins 170 92 = some (.iload 6, 94, 0) := by decide +kernel
theorem i170_94 : ts_ins 170 94 = some (.istore 4, 96, 0) := by decide +kernel
theorem i170_96 : ts_ins 170 96 = some (.aload_n 0, 97, 0) := by decide +kernel
theorem i170_97 : ts_ins 170 97 = some (.bipush 59, 99, 0) := by decide +kernel
theorem i170_99 : ts_ins 170 99 = some (.invokevirtual 168, 102, 0) := by decide +kernel
theorem g170_99 : ts_cal (ts_mc 170) 168 = some (0, 162, 1) := by decide +kernel
theorem i170_102 : ts_ins 170 102 = some (.istore 5, 104, 0) := by decide +kernel
theorem i170_104 : ts_ins 170 104 = some (.goto (-71), 107, 33) := by decide +kernel
theorem i170_107 : ts_ins 170 107 = some (.aload_n 0, 108, 0) := by decide +kernel
theorem i170_108 : ts_ins 170 108 = some (.getfield 158, 111, 0) := by decide +kernel
theorem g170_108 : ts_fm 170 158 = some (12, 16, 0) := by decide +kernel
theorem i170_111 : ts_ins 170 111 = some (.ifCond .ge 19, 114, 130) := by decide +kernel
theorem i170_114 : ts_ins 170 114 = some (.aload_n 0, 115, 0) := by decide +kernel
theorem i170_115 : ts_ins 170 115 = some (.getfield 149, 118, 0) := by decide +kernel
theorem g170_115 : ts_fm 170 149 = some (12, 14, 0) := by decide +kernel
theorem i170_118 : ts_ins 170 118 = some (.aload_n 0, 119, 0) := by decide +kernel
theorem i170_119 : ts_ins 170 119 = some (.getfield 152, 122, 0) := by decide +kernel
theorem g170_119 : ts_fm 170 152 = some (12, 15, 0) := by decide +kernel
theorem i170_122 : ts_ins 170 122 = some (.if_icmp .ge 8, 125, 130) := by decide +kernel
theorem i170_125 : ts_ins 170 125 = some (.aload_n 0, 126, 0) := by decide +kernel
theorem i170_126 : ts_ins 170 126 = some (.invokevirtual 186, 129, 0) := by decide +kernel
theorem g170_126 : ts_cal (ts_mc 170) 186 = some (0, 161, 0) := by decide +kernel
theorem i170_129 : ts_ins 170 129 = some (.ireturn, 130, 0) := by decide +kernel
theorem i170_130 : ts_ins 170 130 = some (.iload 4, 132, 0) := by decide +kernel
theorem i170_132 : ts_ins 170 132 = some (.ireturn, 133, 0) := by decide +kernel
theorem r170 : ts_rt 170 = ((some .int), 0, 0) := by decide +kernel
theorem l170 : ts_ml 170 = 8 := by decide +kernel
/-! LINES, a whole text -/
abbrev cxn : CP := fun X d I L sw K => ts_Cal X (d + 1) 44 [.ref 24] (I, L, ts_P0 sw, ts_S0) K
def RNL (s s' : Int) (st op : Int → Int) (c w : (Int → Int) → Int) : Prop := ∀ (X : ts_X) (I : Nat → Nat → Int32) (L : Nat → Nat → Int64) (sw : Bool) (K : Option Value → ts_H → Prop) (d cc : Nat) (m : Int) (ST OP N : Int → Int) (a1 a2 a3 a4 a5 a6 : Int), (cc = 19 ∨ cc = 26) → WX I cc m ST OP N → (∀ k, s ≤ k → k < s' → ST k = st k ∧ OP k = op k) → s' ≤ m → (¬ c N = 0 → ∀ J, fr (fz3 cc) I J → K (some (.int (zI (w N)))) (J, L, ts_P0 sw, ts_S0)) → (c N = 0 → ∀ J o, fr (fz3 cc) I J → ts_Ev X (ts_Cal X (d + 1)) 36 ts_S0 K 51 [.ref cc, .int (zI (a1)), .int (zI (a2)), .int (zI (a3)), .int (zI (a4)), .int (zI (a5)), .int (zI (a6)), .int (zI (0)), .int (zI (s')), o] [] (J, L, ts_P0 sw, ts_S0)) → ∀ o, ts_Ev X (ts_Cal X (d + 1)) 36 ts_S0 K 51 [.ref cc, .int (zI (a1)), .int (zI (a2)), .int (zI (a3)), .int (zI (a4)), .int (zI (a5)), .int (zI (a6)), .int (zI (0)), .int (zI (s)), o] [] (I, L, ts_P0 sw, ts_S0)
theorem RNL_plain {s s1 : Int} {st op : Int → Int} {w : (Int → Int) → Int} (h : RN s s1 st op w) (h0 : 0 ≤ s) (h1 : s < s1) (h2 : s1 < 127) : RNL s (s1 + 1) (zu st s1 3) (zu op s1 0) (fun _ => 1) w := by
  intro X I L sw K d cc m ST OP N a1 a2 a3 a4 a5 a6 hc hW he hm hK1 hK0 o
  refine h X I L sw K d cc (fun _ => 0) 0 m ST OP N a1 a2 a3 a4 a5 a6 hc hW (fun k k0 k1 => ?_) (fun q q0 q1 => by omega) (Int.le_refl _) h0 (by omega) (fun J o2 hJ hg => ?_) o
  · have e := he k k0 (by omega)
    rw [zu_n (by omega), zu_n (by omega)] at e
    exact e
  · have e := he s1 (by omega) (by omega)
    rw [zu_e, zu_e] at e
    have k1 := hK1 (show ¬ (1 : Int) = 0 by decide) J hJ
    refine W_answer hc (hW.co hJ) (t := 0) hg (by decide) (by omega) e.1 ?_ o2
    rw [zu_e]
    exact k1
theorem RNL_cond {s s1 s2 : Int} {st op st1 op1 : Int → Int} {u w : (Int → Int) → Int} (h : RN s s1 st op u) (h' : RN (s1 + 1) s2 st1 op1 w) (h0 : 0 ≤ s) (h1 : s < s1) (h2 : s1 + 1 < s2) (h3 : s2 < 127) (he1 : ∀ k, k < s1 + 1 → st1 k = zu st s1 2 k ∧ op1 k = zu op s1 0 k) : RNL s (s2 + 1) (zu st1 s2 3) (zu (zu op1 s2 0) s1 (s2 + 1)) u w := by
  intro X I L sw K d cc m ST OP N a1 a2 a3 a4 a5 a6 hc hW he hm hK1 hK0 o
  refine h X I L sw K d cc (fun _ => 0) 0 m ST OP N a1 a2 a3 a4 a5 a6 hc hW (fun k k0 k1 => ?_) (fun q q0 q1 => by omega) (Int.le_refl _) h0 (by omega) (fun J o2 hJ hg => ?_) o
  · have e := he k k0 (by omega)
    have e1 := he1 k (by omega)
    rw [zu_n (by omega), zu_n (by omega), zu_n (by omega)] at e
    rw [zu_n (by omega), zu_n (by omega)] at e1
    exact ⟨e.1.trans e1.1, e.2.trans e1.2⟩
  · have e := he s1 (by omega) (by omega)
    have e1 := he1 s1 (by omega)
    rw [zu_n (show ¬ s1 = s2 by omega), zu_e] at e
    rw [zu_e, zu_e] at e1
    have eo : OP s1 = s2 + 1 := e.2
    refine W_skip hc (hW.co hJ) (t := 0) hg (by decide) (by omega) (e.1.trans e1.1) (by omega) (fun z o3 => ?_) (fun z o3 => ?_) o2
    · rw [zu_e] at z
      rw [eo]
      exact hK0 z J o3 hJ
    · rw [zu_e] at z
      refine h' X J L sw K d cc (fun _ => 0) 0 m ST OP N a1 a2 a3 a4 a5 a6 hc (hW.co hJ) (fun k k0 k1 => ?_) (fun q q0 q1 => by omega) (Int.le_refl _) (by omega) (by omega) (fun M o4 hM hg2 => ?_) o3
      · have e := he k (by omega) (by omega)
        rw [zu_n (by omega), zu_n (by omega), zu_n (by omega)] at e
        exact e
      · have e := he s2 (by omega) (by omega)
        rw [zu_e] at e
        have k1 := hK1 z M (fr_tr hJ hM)
        refine W_answer hc ((hW.co hJ).co hM) (t := 0) hg2 (by decide) (by omega) e.1 ?_ o4
        rw [zu_e]
        exact k1
section LI
variable {X : ts_X} {I J : Nat → Nat → Int32} {L : Nat → Nat → Int64} {sw : Bool} {K : Option Value → ts_H → Prop} {d E : Nat} {b n p q s s1 s2 q2 : Int} {tc : Nat} {tx N st op st1 op1 st2 op2 : Int → Int} {w u : (Int → Int) → Int}
theorem SX.sOper {i v : Int} (h : SX I sw n tx p s st op) (hi : 0 ≤ i) (hv : 0 ≤ v ∧ v ≤ 9999) : SX (ts_up I (ts_into sw + 2) i.toNat (zI v)) sw n tx p s st (zu op i v) := by
  have c := into_c sw
  refine ⟨h.n0, ?_, ar_co h.txt (ts_up_na (by omega)), ?_, ?_, ar_co h.sts (ts_up_na (by omega)), ar_up h.ops hi hv⟩
  · rw [ts_up_na (by omega)]; exact h.len
  · rw [ts_up_na (by omega)]; exact h.at
  · rw [ts_up_na (by omega)]; exact h.size
theorem CN_plain (hE : E + 8 ≤ d) (hS : SX I sw n tx p s st op) (q0 : 0 ≤ q) (hc : CXs E (cxl 0 0) n tx p s st op q s1 st1 op1) (hs : 0 ≤ s1 ∧ s1 < 127) (hq : ¬ t_nx n tx q = 63) (hK : ∀ J, fr (fzr sw) I J → SX J sw n tx q (s1 + 1) (zu st1 s1 3) (zu op1 s1 0) → K (some (.int (zI (1)))) (J, L, ts_P0 sw, ts_S0)) : cxn X (d + 1) I L sw K := by
  obtain ⟨d, rfl⟩ : ∃ d', d = d' + 8 := ⟨d - 8, by omega⟩
  refine ev_enter (lv := [.ref 24, .null]) l44 rfl (Nat.le_of_ble_eq_true rfl) ?_
  refine ev_aloadn_0 i44_0 ?_
  refine ew_iconst i44_1 ?_
  refine ew_iconst i44_2 ?_
  refine ev_virt2 i44_3 g44_3 rfl (by decide +kernel) (Nat.le_of_ble_eq_true rfl) (hc X (d + 8) _ L sw _ (by omega) hS (fun M h1 h2 => ?_))
  first
  | refine ew_ifneB i44_6 (fun c6 => ?_) (fun c6 => ?_)
  | refine ew_ifne i44_6 (by omega) (fun c6 => ?_) (fun c6 => ?_)
  · refine ev_aloadn_0 i44_11 ?_
    refine ew_bipush i44_12 (by decide) ?_
    refine ev_virt1 i44_14 g44_14 rfl (by decide +kernel) (Nat.le_of_ble_eq_true rfl) (x_pass h2 q0 (by omega) (fun M2 h3 h4 h5 => ?_))
    first
    | refine ew_ifneB i44_17 (fun c17 => ?_) (fun c17 => ?_)
    | refine ew_ifne i44_17 (by omega) (fun c17 => ?_) (fun c17 => ?_)
    · exact absurd c17 hq
    · refine ev_aloadn_0 i44_20 ?_
      refine ev_getA i44_21 g44_21 rfl (into_Q sw) (ts_into_ne _) ?_
      refine ew_iconst i44_24 ?_
      refine ew_iconst i44_25 ?_
      refine ev_virt2 i44_26 g44_26 (into_R sw) (by decide +kernel) (Nat.le_of_ble_eq_true rfl) (x_addStep (h5 hq) (by omega) (by omega) (by omega) (fun M3 h6 h7 => ?_))
      refine ev_pop i44_29 rfl ?_
      refine ew_iconst i44_30 ?_
      exact ev_zreturn i44_31 r44 (by decide) (hK M3 (fr_tr (fr_tr h1 (fr_mo h3 (fun a k q => Or.inl q))) h6) h7)
  · exfalso; omega
theorem CN_cond (hE : E + 8 ≤ d) (hS : SX I sw n tx p s st op) (q0 : 0 ≤ q) (hc : CXs E (cxl 0 0) n tx p s st op q s1 st1 op1) (hs : 0 ≤ s1 ∧ s1 < 126) (hq : t_nx n tx q = 63) (hc2 : CXs E (cxl 0 0) n tx (q + 1) (s1 + 1) (zu st1 s1 2) (zu op1 s1 0) q2 s2 st2 op2) (hs2 : s1 < s2 ∧ s2 < 127) (hK : ∀ J, fr (fzr sw) I J → SX J sw n tx q2 (s2 + 1) (zu st2 s2 3) (zu (zu op2 s2 0) s1 (s2 + 1)) → K (some (.int (zI (1)))) (J, L, ts_P0 sw, ts_S0)) : cxn X (d + 1) I L sw K := by
  obtain ⟨d, rfl⟩ : ∃ d', d = d' + 8 := ⟨d - 8, by omega⟩
  refine ev_enter (lv := [.ref 24, .null]) l44 rfl (Nat.le_of_ble_eq_true rfl) ?_
  refine ev_aloadn_0 i44_0 ?_
  refine ew_iconst i44_1 ?_
  refine ew_iconst i44_2 ?_
  refine ev_virt2 i44_3 g44_3 rfl (by decide +kernel) (Nat.le_of_ble_eq_true rfl) (hc X (d + 8) _ L sw _ (by omega) hS (fun M h1 h2 => ?_))
  first
  | refine ew_ifneB i44_6 (fun c6 => ?_) (fun c6 => ?_)
  | refine ew_ifne i44_6 (by omega) (fun c6 => ?_) (fun c6 => ?_)
  · refine ev_aloadn_0 i44_11 ?_
    refine ew_bipush i44_12 (by decide) ?_
    refine ev_virt1 i44_14 g44_14 rfl (by decide +kernel) (Nat.le_of_ble_eq_true rfl) (x_pass h2 q0 (by omega) (fun M2 h3 h4 h5 => ?_))
    first
    | refine ew_ifneB i44_17 (fun c17 => ?_) (fun c17 => ?_)
    | refine ew_ifne i44_17 (by omega) (fun c17 => ?_) (fun c17 => ?_)
    · refine ev_aloadn_0 i44_32 ?_
      refine ev_getA i44_33 g44_33 rfl (into_Q sw) (ts_into_ne _) ?_
      refine ew_iconst i44_36 ?_
      refine ew_iconst i44_37 ?_
      refine ev_virt2 i44_38 g44_38 (into_R sw) (by decide +kernel) (Nat.le_of_ble_eq_true rfl) (x_addStep (h4 hq) (by omega) (by omega) (by omega) (fun M3 h6 h7 => ?_))
      refine ev_istoren_1 i44_41 rfl ?_
      refine ev_aloadn_0 i44_42 ?_
      refine ew_iconst i44_43 ?_
      refine ew_iconst i44_44 ?_
      refine ev_virt2 i44_45 g44_45 rfl (by decide +kernel) (Nat.le_of_ble_eq_true rfl) (hc2 X (d + 8) _ L sw _ (by omega) h7 (fun M4 h8 h9 => ?_))
      first
      | refine ew_ifneB i44_48 (fun c48 => ?_) (fun c48 => ?_)
      | refine ew_ifne i44_48 (by omega) (fun c48 => ?_) (fun c48 => ?_)
      · refine ev_aloadn_0 i44_53 ?_
        refine ev_getA i44_54 g44_54 rfl (into_Q sw) (ts_into_ne _) ?_
        refine ew_iconst i44_57 ?_
        refine ew_iconst i44_58 ?_
        refine ev_virt2 i44_59 g44_59 (into_R sw) (by decide +kernel) (Nat.le_of_ble_eq_true rfl) (x_addStep h9 (by omega) (by omega) (by omega) (fun M5 g1 g2 => ?_))
        refine ev_pop i44_62 rfl ?_
        refine ev_aloadn_0 i44_63 ?_
        refine ev_getA i44_64 g44_64 rfl (into_Q sw) (ts_into_ne _) ?_
        refine ev_getA i44_67 g44_67 (into_I sw) (into_P1 sw) (Nat.succ_ne_zero _) ?_
        refine ev_iloadn_1 i44_70 ?_
        refine ev_aloadn_0 i44_71 ?_
        refine ev_getA i44_72 g44_72 rfl (into_Q sw) (ts_into_ne _) ?_
        refine ew_getI i44_75 g44_75 (into_I sw) (g2.size) (fun b75 => ?_)
        refine ew_iastore i44_78 (into_A2 sw) (by omega) (by omega) (by omega) ?_
        refine ew_iconst i44_79 ?_
        exact ev_zreturn i44_80 r44 (by decide) (hK _ (fr_up (fr_tr (fr_tr (fr_tr (fr_tr h1 (fr_mo h3 (fun a k q => Or.inl q))) h6) h8) g1) (Or.inr (Or.inr (Or.inr rfl)))) (g2.sOper (by omega) (by omega)))
      · exfalso; omega
    · exact absurd hq c17
  · exfalso; omega
theorem CN_F1 (hE : E + 8 ≤ d) (hS : SX I sw n tx p s st op) (hc : CXf E (cxl 0 0) n tx p s st op q) (hK : ∀ J, fr (fzr sw) I J → rd (J 24 2) 0 120 q → K (some (.int (zI (0)))) (J, L, ts_P0 sw, ts_S0)) : cxn X (d + 1) I L sw K := by
  obtain ⟨d, rfl⟩ : ∃ d', d = d' + 8 := ⟨d - 8, by omega⟩
  refine ev_enter (lv := [.ref 24, .null]) l44 rfl (Nat.le_of_ble_eq_true rfl) ?_
  refine ev_aloadn_0 i44_0 ?_
  refine ew_iconst i44_1 ?_
  refine ew_iconst i44_2 ?_
  refine ev_virt2 i44_3 g44_3 rfl (by decide +kernel) (Nat.le_of_ble_eq_true rfl) (hc X (d + 8) _ L sw _ (by omega) hS (fun M h1 h2 => ?_))
  first
  | refine ew_ifneB i44_6 (fun c6 => ?_) (fun c6 => ?_)
  | refine ew_ifne i44_6 (by omega) (fun c6 => ?_) (fun c6 => ?_)
  · exfalso; omega
  · refine ew_iconst i44_9 ?_
    exact ev_zreturn i44_10 r44 (by decide) (hK M h1 h2)
theorem CN_F2 (hE : E + 8 ≤ d) (hS : SX I sw n tx p s st op) (q0 : 0 ≤ q) (hc : CXs E (cxl 0 0) n tx p s st op q s1 st1 op1) (hs : 0 ≤ s1 ∧ s1 < 126) (hq : t_nx n tx q = 63) (hc2 : CXf E (cxl 0 0) n tx (q + 1) (s1 + 1) (zu st1 s1 2) (zu op1 s1 0) q2) (hK : ∀ J, fr (fzr sw) I J → rd (J 24 2) 0 120 q2 → K (some (.int (zI (0)))) (J, L, ts_P0 sw, ts_S0)) : cxn X (d + 1) I L sw K := by
  obtain ⟨d, rfl⟩ : ∃ d', d = d' + 8 := ⟨d - 8, by omega⟩
  refine ev_enter (lv := [.ref 24, .null]) l44 rfl (Nat.le_of_ble_eq_true rfl) ?_
  refine ev_aloadn_0 i44_0 ?_
  refine ew_iconst i44_1 ?_
  refine ew_iconst i44_2 ?_
  refine ev_virt2 i44_3 g44_3 rfl (by decide +kernel) (Nat.le_of_ble_eq_true rfl) (hc X (d + 8) _ L sw _ (by omega) hS (fun M h1 h2 => ?_))
  first
  | refine ew_ifneB i44_6 (fun c6 => ?_) (fun c6 => ?_)
  | refine ew_ifne i44_6 (by omega) (fun c6 => ?_) (fun c6 => ?_)
  · refine ev_aloadn_0 i44_11 ?_
    refine ew_bipush i44_12 (by decide) ?_
    refine ev_virt1 i44_14 g44_14 rfl (by decide +kernel) (Nat.le_of_ble_eq_true rfl) (x_pass h2 q0 (by omega) (fun M2 h3 h4 h5 => ?_))
    first
    | refine ew_ifneB i44_17 (fun c17 => ?_) (fun c17 => ?_)
    | refine ew_ifne i44_17 (by omega) (fun c17 => ?_) (fun c17 => ?_)
    · refine ev_aloadn_0 i44_32 ?_
      refine ev_getA i44_33 g44_33 rfl (into_Q sw) (ts_into_ne _) ?_
      refine ew_iconst i44_36 ?_
      refine ew_iconst i44_37 ?_
      refine ev_virt2 i44_38 g44_38 (into_R sw) (by decide +kernel) (Nat.le_of_ble_eq_true rfl) (x_addStep (h4 hq) (by omega) (by omega) (by omega) (fun M3 h6 h7 => ?_))
      refine ev_istoren_1 i44_41 rfl ?_
      refine ev_aloadn_0 i44_42 ?_
      refine ew_iconst i44_43 ?_
      refine ew_iconst i44_44 ?_
      refine ev_virt2 i44_45 g44_45 rfl (by decide +kernel) (Nat.le_of_ble_eq_true rfl) (hc2 X (d + 8) _ L sw _ (by omega) h7 (fun M4 h8 h9 => ?_))
      first
      | refine ew_ifneB i44_48 (fun c48 => ?_) (fun c48 => ?_)
      | refine ew_ifne i44_48 (by omega) (fun c48 => ?_) (fun c48 => ?_)
      · exfalso; omega
      · refine ew_iconst i44_51 ?_
        exact ev_zreturn i44_52 r44 (by decide) (hK M4 (fr_tr (fr_tr (fr_tr h1 (fr_mo h3 (fun a k q => Or.inl q))) h6) h8) h9)
    · exact absurd hq c17
  · exfalso; omega
/-- what is given behind a line -/
abbrev gn' (g c : Int) : Int := if g = 1 then 1 else if c = 0 then 0 else 1
abbrev gs' (g s c w : Int) : Int := if g = 1 then s else if c = 0 then s else w
theorem RL_plain (hE : E + 8 ≤ d) {fb fn g gs : Int} (hg : g = 0 ∨ g = 1) (hS : SM I b tc n tx p 0 N) (q0 : 0 ≤ q) (hc : CMs E cm0 n tx p 0 q w) (hw : -2147483648 ≤ w N ∧ w N ≤ 2147483647) (hq : ¬ t_nx n tx q = 63) (hK : ∀ J, fr frw I J → SM J b tc n tx q 0 N → ∀ o6 o7, ts_Ev X (ts_Cal X (d + 1)) 170 ts_S0 K 96 [.ref 72, .int (zI (fb)), .int (zI (fn)), .int (zI (gn' g 1)), .int (zI (gs' g gs 1 (w N))), .int (zI (1)), o6, o7] [] (J, L, ts_P0 sw, ts_S0)) (o6 o7 : Value) : ts_Ev X (ts_Cal X (d + 1)) 170 ts_S0 K 33 [.ref 72, .int (zI (fb)), .int (zI (fn)), .int (zI (g)), .int (zI (gs)), .int (zI (1)), o6, o7] [] (I, L, ts_P0 sw, ts_S0) := by
  obtain ⟨d, rfl⟩ : ∃ d', d = d' + 8 := ⟨d - 8, by omega⟩
  rcases hg with rfl | rfl
  · refine ev_iload_5 i170_33 ?_
    first
    | refine ew_ifeqB i170_35 (fun c35 => ?_) (fun c35 => ?_)
    | refine ew_ifeq i170_35 (by omega) (fun c35 => ?_) (fun c35 => ?_)
    · exfalso; omega
    · refine ev_aloadn_0 i170_38 ?_
      refine ev_virt0 i170_39 g170_39 rfl (by decide +kernel) (Nat.le_of_ble_eq_true rfl) (hc X (d + 8) _ L sw _ N b tc (by omega) hS (fun M h1 h2 => ?_))
      refine ev_istore_6 i170_42 rfl ?_
      refine ew_iconst i170_44 ?_
      refine ev_istore_7 i170_45 rfl ?_
      refine ev_aloadn_0 i170_47 ?_
      refine ew_bipush i170_48 (by decide) ?_
      refine ev_virt1 i170_50 g170_50 rfl (by decide +kernel) (Nat.le_of_ble_eq_true rfl) (m_takes h2 q0 (by omega) (fun M2 h3 h4 h5 => ?_))
      first
      | refine ew_ifeqB i170_53 (fun c53 => ?_) (fun c53 => ?_)
      | refine ew_ifeq i170_53 (by omega) (fun c53 => ?_) (fun c53 => ?_)
      · refine ev_aloadn_0 i170_74 ?_
        refine ew_getI i170_75 g170_75 rfl (((h5 hq).2.1)) (fun b75 => ?_)
        refine ew_ifge i170_78 (by omega) (fun c78 => ?_) (fun c78 => ?_)
        · have e := hK M2 (fr_tr h1 h3) (h5 hq)
          have e1 : gn' 0 1 = 1 := rfl
          have e2 : gs' 0 gs 1 (w N) = w N := (if_neg (by decide)).trans (if_neg (by decide))
          rw [e1, e2] at e
          first
          | exact e _ _
          | (exfalso; omega)
        · refine ev_iload_7 i170_81 ?_
          first
          | refine ew_ifeqB i170_83 (fun c83 => ?_) (fun c83 => ?_)
          | refine ew_ifeq i170_83 (by omega) (fun c83 => ?_) (fun c83 => ?_)
          · have e := hK M2 (fr_tr h1 h3) (h5 hq)
            have e1 : gn' 0 1 = 1 := rfl
            have e2 : gs' 0 gs 1 (w N) = w N := (if_neg (by decide)).trans (if_neg (by decide))
            rw [e1, e2] at e
            first
            | exact e _ _
            | (exfalso; omega)
          · refine ev_iloadn_3 i170_86 ?_
            first
            | refine ew_ifneB i170_87 (fun c87 => ?_) (fun c87 => ?_)
            | refine ew_ifne i170_87 (by omega) (fun c87 => ?_) (fun c87 => ?_)
            · have e := hK M2 (fr_tr h1 h3) (h5 hq)
              have e1 : gn' 0 1 = 1 := rfl
              have e2 : gs' 0 gs 1 (w N) = w N := (if_neg (by decide)).trans (if_neg (by decide))
              rw [e1, e2] at e
              first
              | exact e _ _
              | (exfalso; omega)
            · refine ew_iconst i170_90 ?_
              refine ev_istoren_3 i170_91 rfl ?_
              refine ev_iload_6 i170_92 ?_
              refine ev_istore_4 i170_94 rfl ?_
              have e := hK M2 (fr_tr h1 h3) (h5 hq)
              have e1 : gn' 0 1 = 1 := rfl
              have e2 : gs' 0 gs 1 (w N) = w N := (if_neg (by decide)).trans (if_neg (by decide))
              rw [e1, e2] at e
              first
              | exact e _ _
              | (exfalso; omega)
      · exact absurd c53 hq
  · refine ev_iload_5 i170_33 ?_
    first
    | refine ew_ifeqB i170_35 (fun c35 => ?_) (fun c35 => ?_)
    | refine ew_ifeq i170_35 (by omega) (fun c35 => ?_) (fun c35 => ?_)
    · exfalso; omega
    · refine ev_aloadn_0 i170_38 ?_
      refine ev_virt0 i170_39 g170_39 rfl (by decide +kernel) (Nat.le_of_ble_eq_true rfl) (hc X (d + 8) _ L sw _ N b tc (by omega) hS (fun M h1 h2 => ?_))
      refine ev_istore_6 i170_42 rfl ?_
      refine ew_iconst i170_44 ?_
      refine ev_istore_7 i170_45 rfl ?_
      refine ev_aloadn_0 i170_47 ?_
      refine ew_bipush i170_48 (by decide) ?_
      refine ev_virt1 i170_50 g170_50 rfl (by decide +kernel) (Nat.le_of_ble_eq_true rfl) (m_takes h2 q0 (by omega) (fun M2 h3 h4 h5 => ?_))
      first
      | refine ew_ifeqB i170_53 (fun c53 => ?_) (fun c53 => ?_)
      | refine ew_ifeq i170_53 (by omega) (fun c53 => ?_) (fun c53 => ?_)
      · refine ev_aloadn_0 i170_74 ?_
        refine ew_getI i170_75 g170_75 rfl (((h5 hq).2.1)) (fun b75 => ?_)
        refine ew_ifge i170_78 (by omega) (fun c78 => ?_) (fun c78 => ?_)
        · have e := hK M2 (fr_tr h1 h3) (h5 hq)
          have e1 : gn' 1 1 = 1 := rfl
          have e2 : gs' 1 gs 1 (w N) = gs := if_pos rfl
          rw [e1, e2] at e
          first
          | exact e _ _
          | (exfalso; omega)
        · refine ev_iload_7 i170_81 ?_
          first
          | refine ew_ifeqB i170_83 (fun c83 => ?_) (fun c83 => ?_)
          | refine ew_ifeq i170_83 (by omega) (fun c83 => ?_) (fun c83 => ?_)
          · have e := hK M2 (fr_tr h1 h3) (h5 hq)
            have e1 : gn' 1 1 = 1 := rfl
            have e2 : gs' 1 gs 1 (w N) = gs := if_pos rfl
            rw [e1, e2] at e
            first
            | exact e _ _
            | (exfalso; omega)
          · refine ev_iloadn_3 i170_86 ?_
            first
            | refine ew_ifneB i170_87 (fun c87 => ?_) (fun c87 => ?_)
            | refine ew_ifne i170_87 (by omega) (fun c87 => ?_) (fun c87 => ?_)
            · have e := hK M2 (fr_tr h1 h3) (h5 hq)
              have e1 : gn' 1 1 = 1 := rfl
              have e2 : gs' 1 gs 1 (w N) = gs := if_pos rfl
              rw [e1, e2] at e
              first
              | exact e _ _
              | (exfalso; omega)
            · refine ew_iconst i170_90 ?_
              refine ev_istoren_3 i170_91 rfl ?_
              refine ev_iload_6 i170_92 ?_
              refine ev_istore_4 i170_94 rfl ?_
              have e := hK M2 (fr_tr h1 h3) (h5 hq)
              have e1 : gn' 1 1 = 1 := rfl
              have e2 : gs' 1 gs 1 (w N) = gs := if_pos rfl
              rw [e1, e2] at e
              first
              | exact e _ _
              | (exfalso; omega)
      · exact absurd c53 hq
theorem RL_cond (hE : E + 8 ≤ d) {fb fn g gs : Int} (hg : g = 0 ∨ g = 1) (hS : SM I b tc n tx p 0 N) (q0 : 0 ≤ q) (r0 : 0 ≤ q2) (hc : CMs E cm0 n tx p 0 q u) (hu : -2147483648 ≤ u N ∧ u N ≤ 2147483647) (hq : t_nx n tx q = 63) (hc2 : CMs E cm0 n tx (q + 1) 0 q2 w) (hw : -2147483648 ≤ w N ∧ w N ≤ 2147483647) (hK : ∀ J, fr frw I J → SM J b tc n tx q2 0 N → ∀ o6 o7, ts_Ev X (ts_Cal X (d + 1)) 170 ts_S0 K 96 [.ref 72, .int (zI (fb)), .int (zI (fn)), .int (zI (gn' g (u N))), .int (zI (gs' g gs (u N) (w N))), .int (zI (1)), o6, o7] [] (J, L, ts_P0 sw, ts_S0)) (o6 o7 : Value) : ts_Ev X (ts_Cal X (d + 1)) 170 ts_S0 K 33 [.ref 72, .int (zI (fb)), .int (zI (fn)), .int (zI (g)), .int (zI (gs)), .int (zI (1)), o6, o7] [] (I, L, ts_P0 sw, ts_S0) := by
  obtain ⟨d, rfl⟩ : ∃ d', d = d' + 8 := ⟨d - 8, by omega⟩
  rcases hg with rfl | rfl
  · refine ev_iload_5 i170_33 ?_
    first
    | refine ew_ifeqB i170_35 (fun c35 => ?_) (fun c35 => ?_)
    | refine ew_ifeq i170_35 (by omega) (fun c35 => ?_) (fun c35 => ?_)
    · exfalso; omega
    · refine ev_aloadn_0 i170_38 ?_
      refine ev_virt0 i170_39 g170_39 rfl (by decide +kernel) (Nat.le_of_ble_eq_true rfl) (hc X (d + 8) _ L sw _ N b tc (by omega) hS (fun M h1 h2 => ?_))
      refine ev_istore_6 i170_42 rfl ?_
      refine ew_iconst i170_44 ?_
      refine ev_istore_7 i170_45 rfl ?_
      refine ev_aloadn_0 i170_47 ?_
      refine ew_bipush i170_48 (by decide) ?_
      refine ev_virt1 i170_50 g170_50 rfl (by decide +kernel) (Nat.le_of_ble_eq_true rfl) (m_takes h2 q0 (by omega) (fun M2 h3 h4 h5 => ?_))
      refine ew_ifeqB i170_53 (fun c53 => ?_) (fun c53 => ?_)
      · exact absurd hq c53
      · refine ev_iload_6 i170_56 ?_
        first
        | refine ew_ifeqB i170_58 (fun c58 => ?_) (fun c58 => ?_)
        | refine ew_ifeq i170_58 (by omega) (fun c58 => ?_) (fun c58 => ?_)
        · refine ew_iconst i170_65 ?_
          refine ev_istore_7 i170_66 rfl ?_
          refine ev_aloadn_0 i170_68 ?_
          refine ev_virt0 i170_69 g170_69 rfl (by decide +kernel) (Nat.le_of_ble_eq_true rfl) (hc2 X (d + 8) _ L sw _ N b tc (by omega) (h4 hq) (fun M3 h6 h7 => ?_))
          refine ev_istore_6 i170_72 rfl ?_
          refine ev_aloadn_0 i170_74 ?_
          refine ew_getI i170_75 g170_75 rfl (h7.2.1) (fun b75 => ?_)
          refine ew_ifge i170_78 (by omega) (fun c78 => ?_) (fun c78 => ?_)
          · have e := hK M3 (fr_tr (fr_tr h1 h3) h6) h7
            have e1 : gn' 0 (u N) = if u N = 0 then 0 else 1 := if_neg (by decide)
            have e2 : gs' 0 gs (u N) (w N) = if u N = 0 then gs else w N := if_neg (by decide)
            rw [e1, e2] at e
            first
            | (rw [if_pos (by omega), if_pos (by omega)] at e; exact e _ _)
            | (rw [if_neg (by omega), if_neg (by omega)] at e; exact e _ _)
            | (exfalso; omega)
          · refine ev_iload_7 i170_81 ?_
            first
            | refine ew_ifeqB i170_83 (fun c83 => ?_) (fun c83 => ?_)
            | refine ew_ifeq i170_83 (by omega) (fun c83 => ?_) (fun c83 => ?_)
            · have e := hK M3 (fr_tr (fr_tr h1 h3) h6) h7
              have e1 : gn' 0 (u N) = if u N = 0 then 0 else 1 := if_neg (by decide)
              have e2 : gs' 0 gs (u N) (w N) = if u N = 0 then gs else w N := if_neg (by decide)
              rw [e1, e2] at e
              first
              | (rw [if_pos (by omega), if_pos (by omega)] at e; exact e _ _)
              | (rw [if_neg (by omega), if_neg (by omega)] at e; exact e _ _)
              | (exfalso; omega)
            · refine ev_iloadn_3 i170_86 ?_
              first
              | refine ew_ifneB i170_87 (fun c87 => ?_) (fun c87 => ?_)
              | refine ew_ifne i170_87 (by omega) (fun c87 => ?_) (fun c87 => ?_)
              · have e := hK M3 (fr_tr (fr_tr h1 h3) h6) h7
                have e1 : gn' 0 (u N) = if u N = 0 then 0 else 1 := if_neg (by decide)
                have e2 : gs' 0 gs (u N) (w N) = if u N = 0 then gs else w N := if_neg (by decide)
                rw [e1, e2] at e
                first
                | (rw [if_pos (by omega), if_pos (by omega)] at e; exact e _ _)
                | (rw [if_neg (by omega), if_neg (by omega)] at e; exact e _ _)
                | (exfalso; omega)
              · refine ew_iconst i170_90 ?_
                refine ev_istoren_3 i170_91 rfl ?_
                refine ev_iload_6 i170_92 ?_
                refine ev_istore_4 i170_94 rfl ?_
                have e := hK M3 (fr_tr (fr_tr h1 h3) h6) h7
                have e1 : gn' 0 (u N) = if u N = 0 then 0 else 1 := if_neg (by decide)
                have e2 : gs' 0 gs (u N) (w N) = if u N = 0 then gs else w N := if_neg (by decide)
                rw [e1, e2] at e
                first
                | (rw [if_pos (by omega), if_pos (by omega)] at e; exact e _ _)
                | (rw [if_neg (by omega), if_neg (by omega)] at e; exact e _ _)
                | (exfalso; omega)
        · refine ew_iconst i170_61 ?_
          refine ev_goto i170_62 ?_
          refine ev_istore_7 i170_66 rfl ?_
          refine ev_aloadn_0 i170_68 ?_
          refine ev_virt0 i170_69 g170_69 rfl (by decide +kernel) (Nat.le_of_ble_eq_true rfl) (hc2 X (d + 8) _ L sw _ N b tc (by omega) (h4 hq) (fun M3 h6 h7 => ?_))
          refine ev_istore_6 i170_72 rfl ?_
          refine ev_aloadn_0 i170_74 ?_
          refine ew_getI i170_75 g170_75 rfl (h7.2.1) (fun b75 => ?_)
          refine ew_ifge i170_78 (by omega) (fun c78 => ?_) (fun c78 => ?_)
          · have e := hK M3 (fr_tr (fr_tr h1 h3) h6) h7
            have e1 : gn' 0 (u N) = if u N = 0 then 0 else 1 := if_neg (by decide)
            have e2 : gs' 0 gs (u N) (w N) = if u N = 0 then gs else w N := if_neg (by decide)
            rw [e1, e2] at e
            first
            | (rw [if_pos (by omega), if_pos (by omega)] at e; exact e _ _)
            | (rw [if_neg (by omega), if_neg (by omega)] at e; exact e _ _)
            | (exfalso; omega)
          · refine ev_iload_7 i170_81 ?_
            first
            | refine ew_ifeqB i170_83 (fun c83 => ?_) (fun c83 => ?_)
            | refine ew_ifeq i170_83 (by omega) (fun c83 => ?_) (fun c83 => ?_)
            · have e := hK M3 (fr_tr (fr_tr h1 h3) h6) h7
              have e1 : gn' 0 (u N) = if u N = 0 then 0 else 1 := if_neg (by decide)
              have e2 : gs' 0 gs (u N) (w N) = if u N = 0 then gs else w N := if_neg (by decide)
              rw [e1, e2] at e
              first
              | (rw [if_pos (by omega), if_pos (by omega)] at e; exact e _ _)
              | (rw [if_neg (by omega), if_neg (by omega)] at e; exact e _ _)
              | (exfalso; omega)
            · refine ev_iloadn_3 i170_86 ?_
              first
              | refine ew_ifneB i170_87 (fun c87 => ?_) (fun c87 => ?_)
              | refine ew_ifne i170_87 (by omega) (fun c87 => ?_) (fun c87 => ?_)
              · have e := hK M3 (fr_tr (fr_tr h1 h3) h6) h7
                have e1 : gn' 0 (u N) = if u N = 0 then 0 else 1 := if_neg (by decide)
                have e2 : gs' 0 gs (u N) (w N) = if u N = 0 then gs else w N := if_neg (by decide)
                rw [e1, e2] at e
                first
                | (rw [if_pos (by omega), if_pos (by omega)] at e; exact e _ _)
                | (rw [if_neg (by omega), if_neg (by omega)] at e; exact e _ _)
                | (exfalso; omega)
              · refine ew_iconst i170_90 ?_
                refine ev_istoren_3 i170_91 rfl ?_
                refine ev_iload_6 i170_92 ?_
                refine ev_istore_4 i170_94 rfl ?_
                have e := hK M3 (fr_tr (fr_tr h1 h3) h6) h7
                have e1 : gn' 0 (u N) = if u N = 0 then 0 else 1 := if_neg (by decide)
                have e2 : gs' 0 gs (u N) (w N) = if u N = 0 then gs else w N := if_neg (by decide)
                rw [e1, e2] at e
                first
                | (rw [if_pos (by omega), if_pos (by omega)] at e; exact e _ _)
                | (rw [if_neg (by omega), if_neg (by omega)] at e; exact e _ _)
                | (exfalso; omega)
  · refine ev_iload_5 i170_33 ?_
    first
    | refine ew_ifeqB i170_35 (fun c35 => ?_) (fun c35 => ?_)
    | refine ew_ifeq i170_35 (by omega) (fun c35 => ?_) (fun c35 => ?_)
    · exfalso; omega
    · refine ev_aloadn_0 i170_38 ?_
      refine ev_virt0 i170_39 g170_39 rfl (by decide +kernel) (Nat.le_of_ble_eq_true rfl) (hc X (d + 8) _ L sw _ N b tc (by omega) hS (fun M h1 h2 => ?_))
      refine ev_istore_6 i170_42 rfl ?_
      refine ew_iconst i170_44 ?_
      refine ev_istore_7 i170_45 rfl ?_
      refine ev_aloadn_0 i170_47 ?_
      refine ew_bipush i170_48 (by decide) ?_
      refine ev_virt1 i170_50 g170_50 rfl (by decide +kernel) (Nat.le_of_ble_eq_true rfl) (m_takes h2 q0 (by omega) (fun M2 h3 h4 h5 => ?_))
      refine ew_ifeqB i170_53 (fun c53 => ?_) (fun c53 => ?_)
      · exact absurd hq c53
      · refine ev_iload_6 i170_56 ?_
        first
        | refine ew_ifeqB i170_58 (fun c58 => ?_) (fun c58 => ?_)
        | refine ew_ifeq i170_58 (by omega) (fun c58 => ?_) (fun c58 => ?_)
        · refine ew_iconst i170_65 ?_
          refine ev_istore_7 i170_66 rfl ?_
          refine ev_aloadn_0 i170_68 ?_
          refine ev_virt0 i170_69 g170_69 rfl (by decide +kernel) (Nat.le_of_ble_eq_true rfl) (hc2 X (d + 8) _ L sw _ N b tc (by omega) (h4 hq) (fun M3 h6 h7 => ?_))
          refine ev_istore_6 i170_72 rfl ?_
          refine ev_aloadn_0 i170_74 ?_
          refine ew_getI i170_75 g170_75 rfl (h7.2.1) (fun b75 => ?_)
          refine ew_ifge i170_78 (by omega) (fun c78 => ?_) (fun c78 => ?_)
          · have e := hK M3 (fr_tr (fr_tr h1 h3) h6) h7
            have e1 : gn' 1 (u N) = 1 := if_pos rfl
            have e2 : gs' 1 gs (u N) (w N) = gs := if_pos rfl
            rw [e1, e2] at e
            first
            | exact e _ _
            | (exfalso; omega)
          · refine ev_iload_7 i170_81 ?_
            first
            | refine ew_ifeqB i170_83 (fun c83 => ?_) (fun c83 => ?_)
            | refine ew_ifeq i170_83 (by omega) (fun c83 => ?_) (fun c83 => ?_)
            · have e := hK M3 (fr_tr (fr_tr h1 h3) h6) h7
              have e1 : gn' 1 (u N) = 1 := if_pos rfl
              have e2 : gs' 1 gs (u N) (w N) = gs := if_pos rfl
              rw [e1, e2] at e
              first
              | exact e _ _
              | (exfalso; omega)
            · refine ev_iloadn_3 i170_86 ?_
              first
              | refine ew_ifneB i170_87 (fun c87 => ?_) (fun c87 => ?_)
              | refine ew_ifne i170_87 (by omega) (fun c87 => ?_) (fun c87 => ?_)
              · have e := hK M3 (fr_tr (fr_tr h1 h3) h6) h7
                have e1 : gn' 1 (u N) = 1 := if_pos rfl
                have e2 : gs' 1 gs (u N) (w N) = gs := if_pos rfl
                rw [e1, e2] at e
                first
                | exact e _ _
                | (exfalso; omega)
              · refine ew_iconst i170_90 ?_
                refine ev_istoren_3 i170_91 rfl ?_
                refine ev_iload_6 i170_92 ?_
                refine ev_istore_4 i170_94 rfl ?_
                have e := hK M3 (fr_tr (fr_tr h1 h3) h6) h7
                have e1 : gn' 1 (u N) = 1 := if_pos rfl
                have e2 : gs' 1 gs (u N) (w N) = gs := if_pos rfl
                rw [e1, e2] at e
                first
                | exact e _ _
                | (exfalso; omega)
        · refine ew_iconst i170_61 ?_
          refine ev_goto i170_62 ?_
          refine ev_istore_7 i170_66 rfl ?_
          refine ev_aloadn_0 i170_68 ?_
          refine ev_virt0 i170_69 g170_69 rfl (by decide +kernel) (Nat.le_of_ble_eq_true rfl) (hc2 X (d + 8) _ L sw _ N b tc (by omega) (h4 hq) (fun M3 h6 h7 => ?_))
          refine ev_istore_6 i170_72 rfl ?_
          refine ev_aloadn_0 i170_74 ?_
          refine ew_getI i170_75 g170_75 rfl (h7.2.1) (fun b75 => ?_)
          refine ew_ifge i170_78 (by omega) (fun c78 => ?_) (fun c78 => ?_)
          · have e := hK M3 (fr_tr (fr_tr h1 h3) h6) h7
            have e1 : gn' 1 (u N) = 1 := if_pos rfl
            have e2 : gs' 1 gs (u N) (w N) = gs := if_pos rfl
            rw [e1, e2] at e
            first
            | exact e _ _
            | (exfalso; omega)
          · refine ev_iload_7 i170_81 ?_
            first
            | refine ew_ifeqB i170_83 (fun c83 => ?_) (fun c83 => ?_)
            | refine ew_ifeq i170_83 (by omega) (fun c83 => ?_) (fun c83 => ?_)
            · have e := hK M3 (fr_tr (fr_tr h1 h3) h6) h7
              have e1 : gn' 1 (u N) = 1 := if_pos rfl
              have e2 : gs' 1 gs (u N) (w N) = gs := if_pos rfl
              rw [e1, e2] at e
              first
              | exact e _ _
              | (exfalso; omega)
            · refine ev_iloadn_3 i170_86 ?_
              first
              | refine ew_ifneB i170_87 (fun c87 => ?_) (fun c87 => ?_)
              | refine ew_ifne i170_87 (by omega) (fun c87 => ?_) (fun c87 => ?_)
              · have e := hK M3 (fr_tr (fr_tr h1 h3) h6) h7
                have e1 : gn' 1 (u N) = 1 := if_pos rfl
                have e2 : gs' 1 gs (u N) (w N) = gs := if_pos rfl
                rw [e1, e2] at e
                first
                | exact e _ _
                | (exfalso; omega)
              · refine ew_iconst i170_90 ?_
                refine ev_istoren_3 i170_91 rfl ?_
                refine ev_iload_6 i170_92 ?_
                refine ev_istore_4 i170_94 rfl ?_
                have e := hK M3 (fr_tr (fr_tr h1 h3) h6) h7
                have e1 : gn' 1 (u N) = 1 := if_pos rfl
                have e2 : gs' 1 gs (u N) (w N) = gs := if_pos rfl
                rw [e1, e2] at e
                first
                | exact e _ _
                | (exfalso; omega)
theorem RL_F (hS : FM I b tc n tx q) {fb fn g gs : Int} (hs : -2147483648 ≤ gs ∧ gs ≤ 2147483647) (hK : ∀ J r, fr frw I J → FM J b tc n tx q → -2147483648 ≤ r ∧ r ≤ 2147483647 → K (some (.int (zI (r)))) (J, L, ts_P0 sw, ts_S0)) (o5 o6 o7 : Value) : ts_Ev X (ts_Cal X (d + 9)) 170 ts_S0 K 96 [.ref 72, .int (zI (fb)), .int (zI (fn)), .int (zI (g)), .int (zI (gs)), o5, o6, o7] [] (I, L, ts_P0 sw, ts_S0) := by
  refine ev_aloadn_0 i170_96 ?_
  refine ew_bipush i170_97 (by decide) ?_
  refine ev_virt1 i170_99 g170_99 rfl (by decide +kernel) (Nat.le_of_ble_eq_true rfl) (m_takesF hS (by omega) ?_)
  refine ev_istore_5 i170_102 rfl ?_
  refine ev_goto i170_104 ?_
  refine ev_iload_5 i170_33 ?_
  first
  | refine ew_ifeqB i170_35 (fun c35 => ?_) (fun c35 => ?_)
  | refine ew_ifeq i170_35 (by omega) (fun c35 => ?_) (fun c35 => ?_)
  · refine ev_aloadn_0 i170_107 ?_
    refine ew_getI i170_108 g170_108 rfl (by first | exact hS.2 | exact hM.men | exact hM.told | exact hM.road | exact hM.stand _ (by omega) (by omega) | exact hM.reach _ (by omega) (by omega) | exact hM.arm _ (by omega) (by omega) | exact hM.late _ (by omega) (by omega) | exact hM.len _ (by omega) (by omega) | exact hM.corn _ (by omega) (by omega) | exact hM.say (by omega) (by omega) _ (by omega) (by omega) | exact hM.tone _ (by omega) (by omega)) (fun b108 => ?_)
    refine ew_ifge i170_111 (by omega) (fun c111 => ?_) (fun c111 => ?_)
    · refine ev_iload_4 i170_130 ?_
      refine ev_ireturn i170_132 r170 ?_
      exact hK I gs (fr_rfl _ _) hS hs
    · exfalso; omega
  · exfalso; omega
theorem RL_F1 (hE : E + 8 ≤ d) {fb fn g gs : Int} (hg : g = 0 ∨ g = 1) (hs : -2147483648 ≤ gs ∧ gs ≤ 2147483647) (hS : SM I b tc n tx p 0 N) (hc : CMf E cm0 n tx p 0 q) (hK : ∀ J r, fr frw I J → FM J b tc n tx q → -2147483648 ≤ r ∧ r ≤ 2147483647 → K (some (.int (zI (r)))) (J, L, ts_P0 sw, ts_S0)) (o6 o7 : Value) : ts_Ev X (ts_Cal X (d + 1)) 170 ts_S0 K 33 [.ref 72, .int (zI (fb)), .int (zI (fn)), .int (zI (g)), .int (zI (gs)), .int (zI (1)), o6, o7] [] (I, L, ts_P0 sw, ts_S0) := by
  obtain ⟨d, rfl⟩ : ∃ d', d = d' + 8 := ⟨d - 8, by omega⟩
  refine ev_iload_5 i170_33 ?_
  first
  | refine ew_ifeqB i170_35 (fun c35 => ?_) (fun c35 => ?_)
  | refine ew_ifeq i170_35 (by omega) (fun c35 => ?_) (fun c35 => ?_)
  · exfalso; omega
  · refine ev_aloadn_0 i170_38 ?_
    refine ev_virt0 i170_39 g170_39 rfl (by decide +kernel) (Nat.le_of_ble_eq_true rfl) (hc X (d + 8) _ L sw _ N b tc (by omega) hS (fun M r h1 h2 h3 => ?_))
    refine ev_istore_6 i170_42 rfl ?_
    refine ew_iconst i170_44 ?_
    refine ev_istore_7 i170_45 rfl ?_
    refine ev_aloadn_0 i170_47 ?_
    refine ew_bipush i170_48 (by decide) ?_
    refine ev_virt1 i170_50 g170_50 rfl (by decide +kernel) (Nat.le_of_ble_eq_true rfl) (m_takesF h2 (by omega) ?_)
    first
    | refine ew_ifeqB i170_53 (fun c53 => ?_) (fun c53 => ?_)
    | refine ew_ifeq i170_53 (by omega) (fun c53 => ?_) (fun c53 => ?_)
    · refine ev_aloadn_0 i170_74 ?_
      refine ew_getI i170_75 g170_75 rfl (h2.2) (fun b75 => ?_)
      refine ew_ifge i170_78 (by omega) (fun c78 => ?_) (fun c78 => ?_)
      · exact RL_F h2 hs (fun J r' g1 g2 g3 => hK J r' (fr_tr h1 g1) g2 g3) _ _ _
      · exfalso; omega
    · exfalso; omega
theorem RL_F2 (hE : E + 8 ≤ d) {fb fn g gs : Int} (hg : g = 0 ∨ g = 1) (hs : -2147483648 ≤ gs ∧ gs ≤ 2147483647) (hS : SM I b tc n tx p 0 N) (q0 : 0 ≤ q) (hc : CMs E cm0 n tx p 0 q u) (hu : -2147483648 ≤ u N ∧ u N ≤ 2147483647) (hq : t_nx n tx q = 63) (hc2 : CMf E cm0 n tx (q + 1) 0 q2) (hK : ∀ J r, fr frw I J → FM J b tc n tx q2 → -2147483648 ≤ r ∧ r ≤ 2147483647 → K (some (.int (zI (r)))) (J, L, ts_P0 sw, ts_S0)) (o6 o7 : Value) : ts_Ev X (ts_Cal X (d + 1)) 170 ts_S0 K 33 [.ref 72, .int (zI (fb)), .int (zI (fn)), .int (zI (g)), .int (zI (gs)), .int (zI (1)), o6, o7] [] (I, L, ts_P0 sw, ts_S0) := by
  obtain ⟨d, rfl⟩ : ∃ d', d = d' + 8 := ⟨d - 8, by omega⟩
  refine ev_iload_5 i170_33 ?_
  first
  | refine ew_ifeqB i170_35 (fun c35 => ?_) (fun c35 => ?_)
  | refine ew_ifeq i170_35 (by omega) (fun c35 => ?_) (fun c35 => ?_)
  · exfalso; omega
  · refine ev_aloadn_0 i170_38 ?_
    refine ev_virt0 i170_39 g170_39 rfl (by decide +kernel) (Nat.le_of_ble_eq_true rfl) (hc X (d + 8) _ L sw _ N b tc (by omega) hS (fun M h1 h2 => ?_))
    refine ev_istore_6 i170_42 rfl ?_
    refine ew_iconst i170_44 ?_
    refine ev_istore_7 i170_45 rfl ?_
    refine ev_aloadn_0 i170_47 ?_
    refine ew_bipush i170_48 (by decide) ?_
    refine ev_virt1 i170_50 g170_50 rfl (by decide +kernel) (Nat.le_of_ble_eq_true rfl) (m_takes h2 q0 (by omega) (fun M2 h3 h4 h5 => ?_))
    refine ew_ifeqB i170_53 (fun c53 => ?_) (fun c53 => ?_)
    · exact absurd hq c53
    · refine ev_iload_6 i170_56 ?_
      first
      | refine ew_ifeqB i170_58 (fun c58 => ?_) (fun c58 => ?_)
      | refine ew_ifeq i170_58 (by omega) (fun c58 => ?_) (fun c58 => ?_)
      · refine ew_iconst i170_65 ?_
        refine ev_istore_7 i170_66 rfl ?_
        refine ev_aloadn_0 i170_68 ?_
        refine ev_virt0 i170_69 g170_69 rfl (by decide +kernel) (Nat.le_of_ble_eq_true rfl) (hc2 X (d + 8) _ L sw _ N b tc (by omega) (h4 hq) (fun M3 r h6 h7 h8 => ?_))
        refine ev_istore_6 i170_72 rfl ?_
        refine ev_aloadn_0 i170_74 ?_
        refine ew_getI i170_75 g170_75 rfl (h7.2) (fun b75 => ?_)
        refine ew_ifge i170_78 (by omega) (fun c78 => ?_) (fun c78 => ?_)
        · exact RL_F h7 hs (fun J r' g1 g2 g3 => hK J r' (fr_tr (fr_tr (fr_tr h1 h3) h6) g1) g2 g3) _ _ _
        · exfalso; omega
      · refine ew_iconst i170_61 ?_
        refine ev_goto i170_62 ?_
        refine ev_istore_7 i170_66 rfl ?_
        refine ev_aloadn_0 i170_68 ?_
        refine ev_virt0 i170_69 g170_69 rfl (by decide +kernel) (Nat.le_of_ble_eq_true rfl) (hc2 X (d + 8) _ L sw _ N b tc (by omega) (h4 hq) (fun M3 r h6 h7 h8 => ?_))
        refine ev_istore_6 i170_72 rfl ?_
        refine ev_aloadn_0 i170_74 ?_
        refine ew_getI i170_75 g170_75 rfl (h7.2) (fun b75 => ?_)
        refine ew_ifge i170_78 (by omega) (fun c78 => ?_) (fun c78 => ?_)
        · exact RL_F h7 hs (fun J r' g1 g2 g3 => hK J r' (fr_tr (fr_tr (fr_tr h1 h3) h6) g1) g2 g3) _ _ _
        · exfalso; omega
theorem RT_more (hS : SM I b tc n tx q 0 N) (q0 : 0 ≤ q) (hq : t_nx n tx q = 59) {fb fn g gs : Int} (hK : ∀ J, fr frw I J → SM J b tc n tx (q + 1) 0 N → ∀ o6 o7, ts_Ev X (ts_Cal X (d + 9)) 170 ts_S0 K 33 [.ref 72, .int (zI (fb)), .int (zI (fn)), .int (zI (g)), .int (zI (gs)), .int (zI (1)), o6, o7] [] (J, L, ts_P0 sw, ts_S0)) (o5 o6 o7 : Value) : ts_Ev X (ts_Cal X (d + 9)) 170 ts_S0 K 96 [.ref 72, .int (zI (fb)), .int (zI (fn)), .int (zI (g)), .int (zI (gs)), o5, o6, o7] [] (I, L, ts_P0 sw, ts_S0) := by
  refine ev_aloadn_0 i170_96 ?_
  refine ew_bipush i170_97 (by decide) ?_
  refine ev_virt1 i170_99 g170_99 rfl (by decide +kernel) (Nat.le_of_ble_eq_true rfl) (m_takes hS q0 (by omega) (fun M h1 h2 h3 => ?_))
  refine ev_istore_5 i170_102 rfl ?_
  refine ev_goto i170_104 ?_
  have e := hK M h1 (h2 hq) o6 o7
  rw [if_pos hq]
  exact e
theorem RT_end (hS : SM I b tc n tx n 0 N) {fb fn g gs : Int} (hs : -2147483648 ≤ gs ∧ gs ≤ 2147483647) (hK : ∀ J, fr frw I J → SM J b tc n tx n 0 N → K (some (.int (zI (gs)))) (J, L, ts_P0 sw, ts_S0)) (o5 o6 o7 : Value) : ts_Ev X (ts_Cal X (d + 9)) 170 ts_S0 K 96 [.ref 72, .int (zI (fb)), .int (zI (fn)), .int (zI (g)), .int (zI (gs)), o5, o6, o7] [] (I, L, ts_P0 sw, ts_S0) := by
  have b1 := hS.1.1
  have e1 : t_nx n tx n = -1 := if_neg (by omega)
  refine ev_aloadn_0 i170_96 ?_
  refine ew_bipush i170_97 (by decide) ?_
  refine ev_virt1 i170_99 g170_99 rfl (by decide +kernel) (Nat.le_of_ble_eq_true rfl) (m_takes hS b1.1 (by omega) (fun M h1 h2 h3 => ?_))
  refine ev_istore_5 i170_102 rfl ?_
  refine ev_goto i170_104 ?_
  have h4 := h3 (by omega)
  refine ev_iload_5 i170_33 ?_
  first
  | refine ew_ifeqB i170_35 (fun c35 => ?_) (fun c35 => ?_)
  | refine ew_ifeq i170_35 (by omega) (fun c35 => ?_) (fun c35 => ?_)
  · refine ev_aloadn_0 i170_107 ?_
    refine ew_getI i170_108 g170_108 rfl (by first | exact h4.2.1 | exact h4.1.2.2.2.2.2 | exact h4.1.2.2.2.1 | exact hM.men | exact hM.told | exact hM.road | exact hM.stand _ (by omega) (by omega) | exact hM.reach _ (by omega) (by omega) | exact hM.arm _ (by omega) (by omega) | exact hM.late _ (by omega) (by omega) | exact hM.len _ (by omega) (by omega) | exact hM.corn _ (by omega) (by omega) | exact hM.say (by omega) (by omega) _ (by omega) (by omega) | exact hM.tone _ (by omega) (by omega)) (fun b108 => ?_)
    refine ew_ifge i170_111 (by omega) (fun c111 => ?_) (fun c111 => ?_)
    · first
      | (exfalso; omega)
      | exact ev_iload_4 i170_130 (ev_ireturn i170_132 r170 (hK M h1 h4))
    · refine ev_aloadn_0 i170_114 ?_
      refine ew_getI i170_115 g170_115 rfl (by first | exact h4.2.1 | exact h4.1.2.2.2.2.2 | exact h4.1.2.2.2.1 | exact hM.men | exact hM.told | exact hM.road | exact hM.stand _ (by omega) (by omega) | exact hM.reach _ (by omega) (by omega) | exact hM.arm _ (by omega) (by omega) | exact hM.late _ (by omega) (by omega) | exact hM.len _ (by omega) (by omega) | exact hM.corn _ (by omega) (by omega) | exact hM.say (by omega) (by omega) _ (by omega) (by omega) | exact hM.tone _ (by omega) (by omega)) (fun b115 => ?_)
      refine ev_aloadn_0 i170_118 ?_
      refine ew_getI i170_119 g170_119 rfl (by first | exact h4.2.1 | exact h4.1.2.2.2.2.2 | exact h4.1.2.2.2.1 | exact hM.men | exact hM.told | exact hM.road | exact hM.stand _ (by omega) (by omega) | exact hM.reach _ (by omega) (by omega) | exact hM.arm _ (by omega) (by omega) | exact hM.late _ (by omega) (by omega) | exact hM.len _ (by omega) (by omega) | exact hM.corn _ (by omega) (by omega) | exact hM.say (by omega) (by omega) _ (by omega) (by omega) | exact hM.tone _ (by omega) (by omega)) (fun b119 => ?_)
      refine ew_icmpge i170_122 (by omega) (fun c122 => ?_) (fun c122 => ?_)
      · first
        | (exfalso; omega)
        | exact ev_iload_4 i170_130 (ev_ireturn i170_132 r170 (hK M h1 h4))
      · exfalso; omega
  · exfalso; omega
theorem RT_bad (hS : SM I b tc n tx q 0 N) (q0 : 0 ≤ q) (qn : q < n) (hq : ¬ t_nx n tx q = 59) {fb fn g gs : Int} (hs : -2147483648 ≤ gs ∧ gs ≤ 2147483647) (hK : ∀ J r, fr frw I J → FM J b tc n tx q → -2147483648 ≤ r ∧ r ≤ 2147483647 → K (some (.int (zI (r)))) (J, L, ts_P0 sw, ts_S0)) (o5 o6 o7 : Value) : ts_Ev X (ts_Cal X (d + 9)) 170 ts_S0 K 96 [.ref 72, .int (zI (fb)), .int (zI (fn)), .int (zI (g)), .int (zI (gs)), o5, o6, o7] [] (I, L, ts_P0 sw, ts_S0) := by
  have b1 := hS.1.1
  refine ev_aloadn_0 i170_96 ?_
  refine ew_bipush i170_97 (by decide) ?_
  refine ev_virt1 i170_99 g170_99 rfl (by decide +kernel) (Nat.le_of_ble_eq_true rfl) (m_takes hS q0 (by omega) (fun M h1 h2 h3 => ?_))
  refine ev_istore_5 i170_102 rfl ?_
  refine ev_goto i170_104 ?_
  have h4 := h3 (by omega)
  refine ev_iload_5 i170_33 ?_
  first
  | refine ew_ifeqB i170_35 (fun c35 => ?_) (fun c35 => ?_)
  | refine ew_ifeq i170_35 (by omega) (fun c35 => ?_) (fun c35 => ?_)
  · refine ev_aloadn_0 i170_107 ?_
    refine ew_getI i170_108 g170_108 rfl (by first | exact h4.2.1 | exact h4.1.2.2.2.2.2 | exact h4.1.2.2.2.1 | exact hM.men | exact hM.told | exact hM.road | exact hM.stand _ (by omega) (by omega) | exact hM.reach _ (by omega) (by omega) | exact hM.arm _ (by omega) (by omega) | exact hM.late _ (by omega) (by omega) | exact hM.len _ (by omega) (by omega) | exact hM.corn _ (by omega) (by omega) | exact hM.say (by omega) (by omega) _ (by omega) (by omega) | exact hM.tone _ (by omega) (by omega)) (fun b108 => ?_)
    refine ew_ifge i170_111 (by omega) (fun c111 => ?_) (fun c111 => ?_)
    · exfalso; omega
    · refine ev_aloadn_0 i170_114 ?_
      refine ew_getI i170_115 g170_115 rfl (by first | exact h4.2.1 | exact h4.1.2.2.2.2.2 | exact h4.1.2.2.2.1 | exact hM.men | exact hM.told | exact hM.road | exact hM.stand _ (by omega) (by omega) | exact hM.reach _ (by omega) (by omega) | exact hM.arm _ (by omega) (by omega) | exact hM.late _ (by omega) (by omega) | exact hM.len _ (by omega) (by omega) | exact hM.corn _ (by omega) (by omega) | exact hM.say (by omega) (by omega) _ (by omega) (by omega) | exact hM.tone _ (by omega) (by omega)) (fun b115 => ?_)
      refine ev_aloadn_0 i170_118 ?_
      refine ew_getI i170_119 g170_119 rfl (by first | exact h4.2.1 | exact h4.1.2.2.2.2.2 | exact h4.1.2.2.2.1 | exact hM.men | exact hM.told | exact hM.road | exact hM.stand _ (by omega) (by omega) | exact hM.reach _ (by omega) (by omega) | exact hM.arm _ (by omega) (by omega) | exact hM.late _ (by omega) (by omega) | exact hM.len _ (by omega) (by omega) | exact hM.corn _ (by omega) (by omega) | exact hM.say (by omega) (by omega) _ (by omega) (by omega) | exact hM.tone _ (by omega) (by omega)) (fun b119 => ?_)
      refine ew_icmpge i170_122 (by omega) (fun c122 => ?_) (fun c122 => ?_)
      · exfalso; omega
      · refine ev_aloadn_0 i170_125 ?_
        refine ev_virt0 i170_126 g170_126 rfl (by decide +kernel) (Nat.le_of_ble_eq_true rfl) (m_wrong h4 (fun M2 g1 g2 => ?_))
        refine ev_ireturn i170_129 r170 ?_
        exact hK M2 0 (fr_tr h1 g1) g2 (by decide)
  · exact absurd c35 hq
end LI
