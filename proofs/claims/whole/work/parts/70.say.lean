theorem i183_0 : ts_ins 183 0 = some (.aload_n 0, 1, 0) := by decide +kernel
theorem i183_1 : ts_ins 183 1 = some (.invokevirtual 205, 4, 0) := by decide +kernel
theorem g183_1 : ts_cal (ts_mc 183) 205 = some (0, 175, 0) := by decide +kernel
theorem i183_4 : ts_ins 183 4 = some (.iconst 0, 5, 0) := by decide +kernel
theorem i183_5 : ts_ins 183 5 = some (.istore_n 2, 6, 0) := by decide +kernel
theorem i183_6 : ts_ins 183 6 = some (.iload_n 2, 7, 0) := by decide +kernel
theorem i183_7 : ts_ins 183 7 = some (.aload_n 0, 8, 0) := by decide +kernel
theorem i183_8 : ts_ins 183 8 = some (.getfield 22, 11, 0) := by decide +kernel
theorem g183_8 : ts_fm 183 22 = some (12, 8, 2) := by decide +kernel
theorem i183_11 : ts_ins 183 11 = some (.iload_n 1, 12, 0) := by decide +kernel
theorem i183_12 : ts_ins 183 12 = some (.iaload, 13, 0) := by decide +kernel
theorem i183_13 : ts_ins 183 13 = some (.if_icmp .ge 148, 16, 161) := by decide +kernel
theorem i183_16 : ts_ins 183 16 = some (.iconst (-1), 17, 0) := by decide +kernel
theorem i183_17 : ts_ins 183 17 = some (.istore_n 3, 18, 0) := by decide +kernel
theorem i183_18 : ts_ins 183 18 = some (.iconst 0, 19, 0) := by decide +kernel
theorem i183_19 : ts_ins 183 19 = some (.istore 4, 21, 0) := by decide +kernel
theorem i183_21 : ts_ins 183 21 = some (.iload 4, 23, 0) := by decide +kernel
theorem i183_23 : ts_ins 183 23 = some (.bipush 16, 25, 0) := by decide +kernel
theorem i183_25 : ts_ins 183 25 = some (.if_icmp .ge 94, 28, 119) := by decide +kernel
theorem i183_28 : ts_ins 183 28 = some (.iload_n 3, 29, 0) := by decide +kernel
theorem i183_29 : ts_ins 183 29 = some (.ifCond .ge 90, 32, 119) := by decide +kernel
theorem i183_32 : ts_ins 183 32 = some (.aload_n 0, 33, 0) := by decide +kernel
theorem i183_33 : ts_ins 183 33 = some (.getfield 99, 36, 0) := by decide +kernel
theorem g183_33 : ts_fm 183 99 = some (12, 6, 0) := by decide +kernel
theorem i183_36 : ts_ins 183 36 = some (.ifCond .le 83, 39, 119) := by decide +kernel
theorem i183_39 : ts_ins 183 39 = some (.aload_n 0, 40, 0) := by decide +kernel
theorem i183_40 : ts_ins 183 40 = some (.getfield 9, 43, 0) := by decide +kernel
theorem g183_40 : ts_fm 183 9 = some (12, 0, 2) := by decide +kernel
theorem i183_43 : ts_ins 183 43 = some (.iload 4, 45, 0) := by decide +kernel
theorem i183_45 : ts_ins 183 45 = some (.iaload, 46, 0) := by decide +kernel
theorem i183_46 : ts_ins 183 46 = some (.aload_n 0, 47, 0) := by decide +kernel
theorem i183_47 : ts_ins 183 47 = some (.getfield 9, 50, 0) := by decide +kernel
theorem g183_47 : ts_fm 183 9 = some (12, 0, 2) := by decide +kernel
theorem i183_50 : ts_ins 183 50 = some (.bipush 49, 52, 0) := by decide +kernel
theorem i183_52 : ts_ins 183 52 = some (.bipush 6, 54, 0) := by decide +kernel
theorem i183_54 : ts_ins 183 54 = some (.iload_n 1, 55, 0) := by decide +kernel
theorem i183_55 : ts_ins 183 55 = some (.imul, 56, 0) := by decide +kernel
theorem i183_56 : ts_ins 183 56 = some (.iadd, 57, 0) := by decide +kernel
theorem i183_57 : ts_ins 183 57 = some (.iload_n 2, 58, 0) := by decide +kernel
theorem i183_58 : ts_ins 183 58 = some (.iadd, 59, 0) := by decide +kernel
theorem i183_59 : ts_ins 183 59 = some (.iaload, 60, 0) := by decide +kernel
theorem i183_60 : ts_ins 183 60 = some (.if_icmp .ne 38, 63, 98) := by decide +kernel
theorem i183_63 : ts_ins 183 63 = some (.aload_n 0, 64, 0) := by decide +kernel
theorem i183_64 : ts_ins 183 64 = some (.iload_n 2, 65, 0) := by decide +kernel
theorem i183_65 : ts_ins 183 65 = some (.aload_n 0, 66, 0) := by decide +kernel
theorem i183_66 : ts_ins 183 66 = some (.getfield 99, 69, 0) := by decide +kernel
theorem g183_66 : ts_fm 183 99 = some (12, 6, 0) := by decide +kernel
theorem i183_69 : ts_ins 183 69 = some (.irem, 70, 0) := by decide +kernel
theorem i183_70 : ts_ins 183 70 = some (.iload 4, 72, 0) := by decide +kernel
theorem i183_72 : ts_ins 183 72 = some (.invokevirtual 201, 75, 0) := by decide +kernel
theorem g183_72 : ts_cal (ts_mc 183) 201 = some (0, 173, 2) := by decide +kernel
theorem i183_75 : ts_ins 183 75 = some (.ifCond .eq 23, 78, 98) := by decide +kernel
theorem i183_78 : ts_ins 183 78 = some (.aload_n 0, 79, 0) := by decide +kernel
theorem i183_79 : ts_ins 183 79 = some (.iload 4, 81, 0) := by decide +kernel
theorem i183_81 : ts_ins 183 81 = some (.iload_n 2, 82, 0) := by decide +kernel
theorem i183_82 : ts_ins 183 82 = some (.aload_n 0, 83, 0) := by decide +kernel
theorem i183_83 : ts_ins 183 83 = some (.getfield 99, 86, 0) := by decide +kernel
theorem g183_83 : ts_fm 183 99 = some (12, 6, 0) := by decide +kernel
theorem i183_86 : ts_ins 183 86 = some (.irem, 87, 0) := by decide +kernel
theorem i183_87 : ts_ins 183 87 = some (.iload_n 2, 88, 0) := by decide +kernel
theorem i183_88 : ts_ins 183 88 = some (.invokevirtual 216, 91, 0) := by decide +kernel
theorem g183_88 : ts_cal (ts_mc 183) 216 = some (0, 177, 3) := by decide +kernel
theorem i183_91 : ts_ins 183 91 = some (.ifCond .le 7, 94, 98) := by decide +kernel
theorem i183_94 : ts_ins 183 94 = some (.iconst 1, 95, 0) := by decide +kernel
theorem i183_95 : ts_ins 183 95 = some (.goto 4, 98, 99) := by decide +kernel
theorem i183_98 : ts_ins 183 98 = some (.iconst 0, 99, 0) := by decide +kernel
theorem i183_99 : ts_ins 183 99 = some (.istore 5, 101, 0) := by decide +kernel
theorem i183_101 : ts_ins 183 101 = some (.iload 5, 103, 0) := by decide +kernel
theorem i183_103 : ts_ins 183 103 = some (.ifCond .eq 8, 106, 111) := by decide +kernel
theorem i183_106 : ts_ins 183 106 = some (.iload 4, 108, 0) := by decide +kernel
theorem i183_108 : ts_ins 183 108 = some (.goto 4, 111, 112) := by decide +kernel
theorem i183_111 : ts_ins 183 111 = some (.iconst (-1), 112, 0) := by decide +kernel
theorem i183_112 : ts_ins 183 112 = some (.istore_n 3, 113, 0) := by decide +kernel
theorem i183_113 : ts_ins 183 113 = some (.iinc 4 1, 116, 0) := by decide +kernel
theorem i183_116 : ts_ins 183 116 = some (.goto (-95), 119, 21) := by decide +kernel
theorem i183_119 : ts_ins 183 119 = some (.iload_n 3, 120, 0) := by decide +kernel
theorem i183_120 : ts_ins 183 120 = some (.ifCond .ge 5, 123, 125) := by decide +kernel
theorem i183_123 : ts_ins 183 123 = some (.iconst 0, 124, 0) := by decide +kernel
theorem i183_124 : ts_ins 183 124 = some (.ireturn, 125, 0) := by decide +kernel
theorem i183_125 : ts_ins 183 125 = some (.aload_n 0, 126, 0) := by decide +kernel
theorem i183_126 : ts_ins 183 126 = some (.getfield 43, 129, 0) := by decide +kernel
theorem g183_126 : ts_fm 183 43 = some (12, 23, 2) := by decide +kernel
theorem i183_129 : ts_ins 183 129 = some (.iload_n 2, 130, 0) := by decide +kernel
theorem i183_130 : ts_ins 183 130 = some (.iload_n 3, 131, 0) := by decide +kernel
theorem i183_131 : ts_ins 183 131 = some (.iastore, 132, 0) := by decide +kernel
theorem i183_132 : ts_ins 183 132 = some (.aload_n 0, 133, 0) := by decide +kernel
theorem i183_133 : ts_ins 183 133 = some (.getfield 34, 136, 0) := by decide +kernel
theorem g183_133 : ts_fm 183 34 = some (12, 19, 2) := by decide +kernel
theorem i183_136 : ts_ins 183 136 = some (.iload_n 3, 137, 0) := by decide +kernel
theorem i183_137 : ts_ins 183 137 = some (.dup2, 138, 0) := by decide +kernel
theorem i183_138 : ts_ins 183 138 = some (.iaload, 139, 0) := by decide +kernel
theorem i183_139 : ts_ins 183 139 = some (.aload_n 0, 140, 0) := by decide +kernel
theorem i183_140 : ts_ins 183 140 = some (.getfield 34, 143, 0) := by decide +kernel
theorem g183_140 : ts_fm 183 34 = some (12, 19, 2) := by decide +kernel
theorem i183_143 : ts_ins 183 143 = some (.iload_n 3, 144, 0) := by decide +kernel
theorem i183_144 : ts_ins 183 144 = some (.iaload, 145, 0) := by decide +kernel
theorem i183_145 : ts_ins 183 145 = some (.ifCond .le 7, 148, 152) := by decide +kernel
theorem i183_148 : ts_ins 183 148 = some (.iconst 1, 149, 0) := by decide +kernel
theorem i183_149 : ts_ins 183 149 = some (.goto 4, 152, 153) := by decide +kernel
theorem i183_152 : ts_ins 183 152 = some (.iconst 0, 153, 0) := by decide +kernel
theorem i183_153 : ts_ins 183 153 = some (.isub, 154, 0) := by decide +kernel
theorem i183_154 : ts_ins 183 154 = some (.iastore, 155, 0) := by decide +kernel
theorem i183_155 : ts_ins 183 155 = some (.iinc 2 1, 158, 0) := by decide +kernel
theorem i183_158 : ts_ins 183 158 = some (.goto (-152), 161, 6) := by decide +kernel
theorem i183_161 : ts_ins 183 161 = some (.iconst 1, 162, 0) := by decide +kernel
theorem i183_162 : ts_ins 183 162 = some (.ireturn, 163, 0) := by decide +kernel
theorem r183 : ts_rt 183 = ((some .boolean), 0, 0) := by decide +kernel
theorem l183 : ts_ml 183 = 6 := by decide +kernel
/-! SPEECH: what is said -/
abbrev fcs : Nat → Nat → Prop := fun a k => (a = 72 ∧ 13 ≤ k ∧ k ≤ 17) ∨ a = 80 ∨ a = 81 ∨ a = 84
abbrev g_lpP (f : ts_Fl) (w : ts_Lw) (cn : Int → Int) (t b p : Int) : Prop := 0 < f_men f ∧ f_tone f p = t ∧ f_can f (b % f_men f) p ∧ 0 < g_ld w t (cn p) (f_road f) (b % f_men f) (f_arm f (b % f_men f)) (b % 4)
def g_lp (f : ts_Fl) (w : ts_Lw) (cn : Int → Int) (t b : Int) : Int := zfd 16 (fun p => g_lpP f w cn t b p) (-2) 0
def g_eat (c : Int → Int) (p : Int) : Int → Int := zu c p (if 0 < c p then c p - 1 else c p)
def g_cn (f : ts_Fl) (w : ts_Lw) (x : Int) : Nat → Int → Int
  | 0 => f_corn f
  | n + 1 => g_eat (g_cn f w x n) (g_lp f w (g_cn f w x n) (f_say f x n) n)
def g_pk (f : ts_Fl) (w : ts_Lw) (x k : Int) : Int := g_lp f w (g_cn f w x k.toNat) (f_say f x k) k
theorem g_cn_s {f : ts_Fl} {w : ts_Lw} {x k : Int} (h : 0 ≤ k) : g_cn f w x (k + 1).toNat = g_eat (g_cn f w x k.toNat) (g_pk f w x k) := by
  obtain ⟨n, rfl⟩ := Int.eq_ofNat_of_zero_le h
  rfl
def g_sp (f : ts_Fl) (w : ts_Lw) (x : Int) : Int := zfd (f_len f x) (fun k => g_pk f w x k = -2) (f_len f x) 0
section SM
variable {X : ts_X} {I J : Nat → Nat → Int32} {L : Nat → Nat → Int64} {sw : Bool} {K : Option Value → ts_H → Prop} {d : Nat} {f : ts_Fl} {w : ts_Lw}
theorem RM.fcs (h : RM I f) (e : fr fcs I J) : RM J f := h.co72 (fr_row e (fun k => by omega)) (fr_row e (fun k => by omega)) (e 72 6 (by omega)) (e 72 7 (by omega))
theorem RMw.fcs (h : RMw I w) (e : fr fcs I J) : RMw J w := h.co (e 72 12 (by omega)) (fr_row e (fun k => by omega))
theorem m_canSay (hM : RM I f) (hW : RMw I w) (hO : ROw w) {x : Int} (hx : 0 ≤ x ∧ x < f_told f) (hK : ∀ J, fr fcs I J → (g_sp f w x = f_len f x → ar J 84 (f_len f x) 0 15 (g_pk f w x)) → K (some (.int (zI (if g_sp f w x = f_len f x then 1 else 0)))) (J, L, ts_P0 sw, ts_S0)) : ts_Cal X (d + 82) 183 [.ref 72, .int (zI (x))] (I, L, ts_P0 sw, ts_S0) K := by
  have b1 := hM.told.2
  have b2 := (hM.len x (by omega) (by omega)).2
  have loop : ∀ b : Int, 0 ≤ b → b ≤ f_len f x → ∀ J, fr fcs I J → ar J 81 16 0 9 (g_cn f w x b.toNat) → ar J 84 b 0 15 (g_pk f w x) → zfd (f_len f x) (fun k => g_pk f w x k = -2) (f_len f x) b = g_sp f w x → ∀ o3 o4 o5, ts_Ev X (ts_Cal X (d + 81)) 183 ts_S0 K 6 [.ref 72, .int (zI (x)), .int (zI (b)), o3, o4, o5] [] (J, L, ts_P0 sw, ts_S0) := by
    refine ts_ind (f_len f x) (fun b ih b0 bn J hJ hc hs hz o3 o4 o5 => ?_)
    have hMJ := hM.fcs hJ
    have bm := hMJ.men.2
    by_cases cb : b < f_len f x
    · rw [zfd_1 cb] at hz
      have mid : ∀ M, fr fcs I M → ar M 81 16 0 9 (g_cn f w x b.toNat) → ar M 84 b 0 15 (g_pk f w x) → ∀ v p o, (v = -1 ∧ g_pk f w x b = -2 ∨ 0 ≤ v ∧ v ≤ 15 ∧ g_pk f w x b = v) → ts_Ev X (ts_Cal X (d + 81)) 183 ts_S0 K 119 [.ref 72, .int (zI (x)), .int (zI (b)), .int (zI (v)), p, o] [] (M, L, ts_P0 sw, ts_S0) := by
        intro M hM1 hc1 hs1 v p o hv
        refine ev_iloadn_3 i183_119 ?_
        refine ew_ifge i183_120 (by omega) (fun c120 => ?_) (fun c120 => ?_)
        · refine ev_aloadn_0 i183_125 ?_
          refine ev_getA i183_126 g183_126 rfl rfl (by decide) ?_
          refine ev_iloadn_2 i183_129 ?_
          refine ev_iloadn_3 i183_130 ?_
          refine ew_iastore i183_131 rfl (by omega) (by omega) (by omega) ?_
          refine ev_aloadn_0 i183_132 ?_
          refine ev_getA i183_133 g183_133 rfl rfl (by decide) ?_
          refine ev_iloadn_3 i183_136 ?_
          refine ev_dup2 i183_137 ?_
          refine ew_iaload i183_138 rfl (by omega) (by omega) (by omega) ((hc1 v (by omega) (by omega))) (fun b138 => ?_)
          refine ev_aloadn_0 i183_139 ?_
          refine ev_getA i183_140 g183_140 rfl rfl (by decide) ?_
          refine ev_iloadn_3 i183_143 ?_
          refine ew_iaload i183_144 rfl (by omega) (by omega) (by omega) ((hc1 v (by omega) (by omega))) (fun b144 => ?_)
          refine ew_ifle i183_145 (by omega) (fun c145 => ?_) (fun c145 => ?_)
          · refine ew_iconst i183_152 ?_
            refine ew_isub i183_153 ?_
            refine ew_iastore i183_154 rfl (by omega) (by omega) (by omega) ?_
            refine ew_iinc_2 i183_155 rfl ?_
            refine ev_goto i183_158 ?_
            rw [if_neg (by omega)] at hz
            obtain rfl : v = g_pk f w x b := by omega
            refine ih cb (by omega) (by omega) _ (fr_up (fr_up hM1 (by omega)) (by omega)) ?_ ?_ hz _ _ _
            · rw [g_cn_s b0]
              refine ar_cg (ar_up (ar_co hc1 (ts_up_na (by decide))) (by omega) (by omega)) (fun i i0 i1 => ?_)
              unfold g_eat
              generalize g_cn f w x b.toNat (g_pk f w x b) = q at *
              first
              | rw [if_pos (by omega)]
              | rw [if_neg (by omega), Int.sub_zero]
            · exact ar_co (ar_ext2 hs1 b0 (by omega)) (ts_up_na (by decide))
          · refine ew_iconst i183_148 ?_
            refine ev_goto i183_149 ?_
            refine ew_isub i183_153 ?_
            refine ew_iastore i183_154 rfl (by omega) (by omega) (by omega) ?_
            refine ew_iinc_2 i183_155 rfl ?_
            refine ev_goto i183_158 ?_
            rw [if_neg (by omega)] at hz
            obtain rfl : v = g_pk f w x b := by omega
            refine ih cb (by omega) (by omega) _ (fr_up (fr_up hM1 (by omega)) (by omega)) ?_ ?_ hz _ _ _
            · rw [g_cn_s b0]
              refine ar_cg (ar_up (ar_co hc1 (ts_up_na (by decide))) (by omega) (by omega)) (fun i i0 i1 => ?_)
              unfold g_eat
              generalize g_cn f w x b.toNat (g_pk f w x b) = q at *
              first
              | rw [if_pos (by omega)]
              | rw [if_neg (by omega), Int.sub_zero]
            · exact ar_co (ar_ext2 hs1 b0 (by omega)) (ts_up_na (by decide))
        · refine ew_iconst i183_123 ?_
          rw [if_pos (by omega)] at hz
          refine ew_zreturn i183_124 r183 ?_ (hK M hM1 (fun r => absurd r (by omega)))
          omega
      have inner : ∀ p : Int, 0 ≤ p → p ≤ 16 → ∀ M, fr fcs I M → ar M 81 16 0 9 (g_cn f w x b.toNat) → ar M 84 b 0 15 (g_pk f w x) → zfd 16 (fun p => g_lpP f w (g_cn f w x b.toNat) (f_say f x b) b p) (-2) p = g_pk f w x b → ∀ o, ts_Ev X (ts_Cal X (d + 81)) 183 ts_S0 K 21 [.ref 72, .int (zI (x)), .int (zI (b)), .int (zI (-1)), .int (zI (p)), o] [] (M, L, ts_P0 sw, ts_S0) := by
        refine ts_ind 16 (fun p ih2 p0 pn M hM1 hc1 hs1 hq o => ?_)
        have hMM := hM.fcs hM1
        have bm := hMM.men.2
        by_cases cp : p < 16
        · rw [zfd_1 cp] at hq
          have nf : ∀ M, fr fcs I M → ar M 81 16 0 9 (g_cn f w x b.toNat) → ar M 84 b 0 15 (g_pk f w x) → ¬ g_lpP f w (g_cn f w x b.toNat) (f_say f x b) b p → ∀ o, ts_Ev X (ts_Cal X (d + 81)) 183 ts_S0 K 98 [.ref 72, .int (zI (x)), .int (zI (b)), .int (zI (-1)), .int (zI (p)), o] [] (M, L, ts_P0 sw, ts_S0) := by
            intro M hM1 hc1 hs1 hn o
            rw [if_neg hn] at hq
            refine ew_iconst i183_98 ?_
            refine ev_istore_5 i183_99 rfl ?_
            refine ev_iload_5 i183_101 ?_
            first
            | refine ew_ifeqB i183_103 (fun c103 => ?_) (fun c103 => ?_)
            | refine ew_ifeq i183_103 (by omega) (fun c103 => ?_) (fun c103 => ?_)
            · refine ew_iconst i183_111 ?_
              refine ev_istoren_3 i183_112 rfl ?_
              refine ew_iinc_4 i183_113 rfl ?_
              refine ev_goto i183_116 ?_
              exact ih2 cp (by omega) (by omega) M hM1 hc1 hs1 hq _
            · exfalso; omega
          have yf : ∀ M, fr fcs I M → ar M 81 16 0 9 (g_cn f w x b.toNat) → ar M 84 b 0 15 (g_pk f w x) → g_lpP f w (g_cn f w x b.toNat) (f_say f x b) b p → ∀ o, ts_Ev X (ts_Cal X (d + 81)) 183 ts_S0 K 94 [.ref 72, .int (zI (x)), .int (zI (b)), .int (zI (-1)), .int (zI (p)), o] [] (M, L, ts_P0 sw, ts_S0) := by
            intro M hM1 hc1 hs1 hn o
            rw [if_pos hn] at hq
            refine ew_iconst i183_94 ?_
            refine ev_goto i183_95 ?_
            refine ev_istore_5 i183_99 rfl ?_
            refine ev_iload_5 i183_101 ?_
            first
            | refine ew_ifeqB i183_103 (fun c103 => ?_) (fun c103 => ?_)
            | refine ew_ifeq i183_103 (by omega) (fun c103 => ?_) (fun c103 => ?_)
            · exfalso; omega
            · refine ev_iload_4 i183_106 ?_
              refine ev_goto i183_108 ?_
              refine ev_istoren_3 i183_112 rfl ?_
              refine ew_iinc_4 i183_113 rfl ?_
              refine ev_goto i183_116 ?_
              refine ev_iload_4 i183_21 ?_
              refine ew_bipush i183_23 (by decide) ?_
              refine ew_icmpge i183_25 (by omega) (fun c25 => ?_) (fun c25 => ?_)
              · exact mid M hM1 hc1 hs1 _ _ _ (Or.inr ⟨by omega, by omega, by omega⟩)
              · refine ev_iloadn_3 i183_28 ?_
                refine ew_ifge i183_29 (by omega) (fun c29 => ?_) (fun c29 => ?_)
                · exact mid M hM1 hc1 hs1 _ _ _ (Or.inr ⟨by omega, by omega, by omega⟩)
                · exfalso; omega
          refine ev_iload_4 i183_21 ?_
          refine ew_bipush i183_23 (by decide) ?_
          refine ew_icmpge i183_25 (by omega) (fun c25 => ?_) (fun c25 => ?_)
          · first
            | (exfalso; omega)
            | exact mid M hM1 hc1 hs1 _ _ _ (Or.inl ⟨rfl, zfd_no 0 (fun q _ _ r => absurd r.1 (by omega))⟩)
          · refine ev_iloadn_3 i183_28 ?_
            refine ew_ifge i183_29 (by omega) (fun c29 => ?_) (fun c29 => ?_)
            · first
              | (exfalso; omega)
              | exact mid M hM1 hc1 hs1 _ _ _ (Or.inl ⟨rfl, zfd_no 0 (fun q _ _ r => absurd r.1 (by omega))⟩)
            · refine ev_aloadn_0 i183_32 ?_
              refine ew_getI i183_33 g183_33 rfl (by first | exact hMM.men | exact hM.men | exact hM.told | exact hM.road | exact hM.stand _ (by omega) (by omega) | exact hM.reach _ (by omega) (by omega) | exact hM.arm _ (by omega) (by omega) | exact hM.late _ (by omega) (by omega) | exact hM.len _ (by omega) (by omega) | exact hM.corn _ (by omega) (by omega) | exact hM.say (by omega) (by omega) _ (by omega) (by omega) | exact hM.tone _ (by omega) (by omega)) (fun b33 => ?_)
              refine ew_ifle i183_36 (by omega) (fun c36 => ?_) (fun c36 => ?_)
              · first
                | (exfalso; omega)
                | exact mid M hM1 hc1 hs1 _ _ _ (Or.inl ⟨rfl, zfd_no 0 (fun q _ _ r => absurd r.1 (by omega))⟩)
              · refine ev_aloadn_0 i183_39 ?_
                refine ev_getA i183_40 g183_40 rfl rfl (by decide) ?_
                refine ev_iload_4 i183_43 ?_
                refine ew_iaload i183_45 rfl (by omega) (by omega) (by omega) ((hMM.tone p p0 cp)) (fun b45 => ?_)
                refine ev_aloadn_0 i183_46 ?_
                refine ev_getA i183_47 g183_47 rfl rfl (by decide) ?_
                refine ew_bipush i183_50 (by decide) ?_
                refine ew_bipush i183_52 (by decide) ?_
                refine ev_iloadn_1 i183_54 ?_
                refine ew_imul i183_55 ?_
                refine ew_iadd i183_56 ?_
                refine ev_iloadn_2 i183_57 ?_
                refine ew_iadd i183_58 ?_
                refine ew_iaload i183_59 rfl (by omega) (by omega) (by omega) ((hMM.say hx.1 (by omega) b b0 (by omega))) (fun b59 => ?_)
                refine ew_icmpne i183_60 (by omega) (fun c60 => ?_) (fun c60 => ?_)
                · first
                  | exact nf _ (fr_tr hM1 (fr_mo h3 (fun a k q => by omega))) (ar_co hc1 (fr_row h3 (fun k => by omega))) (ar_co hs1 (fr_row h3 (fun k => by omega))) (fun r => absurd r.2.2.2 (by rw [← r.2.1]; omega)) _
                  | exact nf M hM1 hc1 hs1 (fun r => absurd r.2.1 (by omega)) _
                  | exact nf M hM1 hc1 hs1 (fun r => absurd r.2.2.1 (by omega)) _
                · refine ev_aloadn_0 i183_63 ?_
                  refine ev_iloadn_2 i183_64 ?_
                  refine ev_aloadn_0 i183_65 ?_
                  refine ew_getI i183_66 g183_66 rfl (by first | exact hMM.men | exact hM.men | exact hM.told | exact hM.road | exact hM.stand _ (by omega) (by omega) | exact hM.reach _ (by omega) (by omega) | exact hM.arm _ (by omega) (by omega) | exact hM.late _ (by omega) (by omega) | exact hM.len _ (by omega) (by omega) | exact hM.corn _ (by omega) (by omega) | exact hM.say (by omega) (by omega) _ (by omega) (by omega) | exact hM.tone _ (by omega) (by omega)) (fun b66 => ?_)
                  refine ew_iremB i183_69 (by omega) (by omega) (fun r69 => ?_)
                  refine ev_iload_4 i183_70 ?_
                  refine ev_virt2 i183_72 g183_72 rfl (by decide +kernel) (Nat.le_of_ble_eq_true rfl) (m_reaches hMM (by omega) (by omega) p0 cp ?_)
                  first
                  | refine ew_ifeqB i183_75 (fun c75 => ?_) (fun c75 => ?_)
                  | refine ew_ifeq i183_75 (by omega) (fun c75 => ?_) (fun c75 => ?_)
                  · first
                    | exact nf _ (fr_tr hM1 (fr_mo h3 (fun a k q => by omega))) (ar_co hc1 (fr_row h3 (fun k => by omega))) (ar_co hs1 (fr_row h3 (fun k => by omega))) (fun r => absurd r.2.2.2 (by rw [← r.2.1]; omega)) _
                    | exact nf M hM1 hc1 hs1 (fun r => absurd r.2.1 (by omega)) _
                    | exact nf M hM1 hc1 hs1 (fun r => absurd r.2.2.1 (by omega)) _
                  · refine ev_aloadn_0 i183_78 ?_
                    refine ev_iload_4 i183_79 ?_
                    refine ev_iloadn_2 i183_81 ?_
                    refine ev_aloadn_0 i183_82 ?_
                    refine ew_getI i183_83 g183_83 rfl (by first | exact hMM.men | exact hM.men | exact hM.told | exact hM.road | exact hM.stand _ (by omega) (by omega) | exact hM.reach _ (by omega) (by omega) | exact hM.arm _ (by omega) (by omega) | exact hM.late _ (by omega) (by omega) | exact hM.len _ (by omega) (by omega) | exact hM.corn _ (by omega) (by omega) | exact hM.say (by omega) (by omega) _ (by omega) (by omega) | exact hM.tone _ (by omega) (by omega)) (fun b83 => ?_)
                    refine ew_iremB i183_86 (by omega) (by omega) (fun r86 => ?_)
                    refine ev_iloadn_2 i183_87 ?_
                    refine ev_virt3 i183_88 g183_88 rfl (by decide +kernel) (Nat.le_of_ble_eq_true rfl) (m_loudOf hMM (hW.fcs hM1) hO hc1 ⟨p0, cp⟩ (by omega) (by omega) (fun N h3 => ?_))
                    have gl := g_ld_r w (f_tone f p) (g_cn f w x b.toNat p) (f_road f) (b % f_men f) (f_arm f (b % f_men f)) (b % 4)
                    refine ew_ifle i183_91 (by omega) (fun c91 => ?_) (fun c91 => ?_)
                    · first
                      | exact nf _ (fr_tr hM1 (fr_mo h3 (fun a k q => by omega))) (ar_co hc1 (fr_row h3 (fun k => by omega))) (ar_co hs1 (fr_row h3 (fun k => by omega))) (fun r => absurd r.2.2.2 (by rw [← r.2.1]; omega)) _
                      | exact nf M hM1 hc1 hs1 (fun r => absurd r.2.1 (by omega)) _
                      | exact nf M hM1 hc1 hs1 (fun r => absurd r.2.2.1 (by omega)) _
                    · exact yf _ (fr_tr hM1 (fr_mo h3 (fun a k q => by omega))) (ar_co hc1 (fr_row h3 (fun k => by omega))) (ar_co hs1 (fr_row h3 (fun k => by omega))) ⟨by omega, by omega, by omega, by rw [← (show f_tone f p = f_say f x b by omega)]; omega⟩ _
        · obtain rfl : p = 16 := by omega
          rw [zfd_0 (by omega)] at hq
          refine ev_iload_4 i183_21 ?_
          refine ew_bipush i183_23 (by decide) ?_
          refine ew_icmpge i183_25 (by omega) (fun c25 => ?_) (fun c25 => ?_)
          · exact mid M hM1 hc1 hs1 _ _ _ (Or.inl ⟨rfl, by omega⟩)
          · exfalso; omega
      refine ev_iloadn_2 i183_6 ?_
      refine ev_aloadn_0 i183_7 ?_
      refine ev_getA i183_8 g183_8 rfl rfl (by decide) ?_
      refine ev_iloadn_1 i183_11 ?_
      refine ew_iaload i183_12 rfl (by omega) (by omega) (by omega) ((hMJ.len x (by omega) (by omega))) (fun b12 => ?_)
      refine ew_icmpge i183_13 (by omega) (fun c13 => ?_) (fun c13 => ?_)
      · exfalso; omega
      · refine ew_iconst i183_16 ?_
        refine ev_istoren_3 i183_17 rfl ?_
        refine ew_iconst i183_18 ?_
        refine ev_istore_4 i183_19 rfl ?_
        exact inner 0 (by decide) (by decide) J hJ hc hs rfl _
    · obtain rfl : b = f_len f x := by omega
      rw [zfd_0 (by omega)] at hz
      refine ev_iloadn_2 i183_6 ?_
      refine ev_aloadn_0 i183_7 ?_
      refine ev_getA i183_8 g183_8 rfl rfl (by decide) ?_
      refine ev_iloadn_1 i183_11 ?_
      refine ew_iaload i183_12 rfl (by omega) (by omega) (by omega) ((hMJ.len x (by omega) (by omega))) (fun b12 => ?_)
      refine ew_icmpge i183_13 (by omega) (fun c13 => ?_) (fun c13 => ?_)
      · refine ew_iconst i183_161 ?_
        refine ew_zreturn i183_162 r183 ?_ (hK J hJ (fun _ => hs))
        omega
      · exfalso; omega
  refine ev_enter (lv := [.ref 72, .int (zI (x)), .null, .null, .null, .null]) l183 rfl (Nat.le_of_ble_eq_true rfl) ?_
  refine ev_aloadn_0 i183_0 ?_
  refine ev_virt0 i183_1 g183_1 rfl (by decide +kernel) (Nat.le_of_ble_eq_true rfl) (m_takesNow hM (fun J h1 h2 => ?_))
  refine ew_iconst i183_4 ?_
  refine ev_istoren_2 i183_5 rfl ?_
  exact loop 0 (by decide) (by omega) J (fr_mo h1 (fun a k q => by omega)) h2 (fun i i0 i1 => by omega) rfl _ _ _
end SM
