theorem i169_0 : ts_ins 169 0 = some (.aload_n 0, 1, 0) := by decide +kernel
theorem i169_1 : ts_ins 169 1 = some (.getfield 158, 4, 0) := by decide +kernel
theorem g169_1 : ts_fm 169 158 = some (12, 16, 0) := by decide +kernel
theorem i169_4 : ts_ins 169 4 = some (.ifCond .lt 5, 7, 9) := by decide +kernel
theorem i169_7 : ts_ins 169 7 = some (.iconst 0, 8, 0) := by decide +kernel
theorem i169_8 : ts_ins 169 8 = some (.ireturn, 9, 0) := by decide +kernel
theorem i169_9 : ts_ins 169 9 = some (.aload_n 0, 10, 0) := by decide +kernel
theorem i169_10 : ts_ins 169 10 = some (.invokevirtual 161, 13, 0) := by decide +kernel
theorem g169_10 : ts_cal (ts_mc 169) 161 = some (0, 160, 0) := by decide +kernel
theorem i169_13 : ts_ins 169 13 = some (.istore_n 1, 14, 0) := by decide +kernel
theorem i169_14 : ts_ins 169 14 = some (.iload_n 1, 15, 0) := by decide +kernel
theorem i169_15 : ts_ins 169 15 = some (.bipush 33, 17, 0) := by decide +kernel
theorem i169_17 : ts_ins 169 17 = some (.if_icmp .eq 15, 20, 32) := by decide +kernel
theorem i169_20 : ts_ins 169 20 = some (.iload_n 1, 21, 0) := by decide +kernel
theorem i169_21 : ts_ins 169 21 = some (.bipush 45, 23, 0) := by decide +kernel
theorem i169_23 : ts_ins 169 23 = some (.if_icmp .eq 9, 26, 32) := by decide +kernel
theorem i169_26 : ts_ins 169 26 = some (.iload_n 1, 27, 0) := by decide +kernel
theorem i169_27 : ts_ins 169 27 = some (.bipush 40, 29, 0) := by decide +kernel
theorem i169_29 : ts_ins 169 29 = some (.if_icmp .ne 116, 32, 145) := by decide +kernel
theorem i169_32 : ts_ins 169 32 = some (.aload_n 0, 33, 0) := by decide +kernel
theorem i169_33 : ts_ins 169 33 = some (.getfield 183, 36, 0) := by decide +kernel
theorem g169_33 : ts_fm 169 183 = some (12, 17, 0) := by decide +kernel
theorem i169_36 : ts_ins 169 36 = some (.bipush 6, 38, 0) := by decide +kernel
theorem i169_38 : ts_ins 169 38 = some (.if_icmp .ne 8, 41, 46) := by decide +kernel
theorem i169_41 : ts_ins 169 41 = some (.aload_n 0, 42, 0) := by decide +kernel
theorem i169_42 : ts_ins 169 42 = some (.invokevirtual 186, 45, 0) := by decide +kernel
theorem g169_42 : ts_cal (ts_mc 169) 186 = some (0, 161, 0) := by decide +kernel
theorem i169_45 : ts_ins 169 45 = some (.ireturn, 46, 0) := by decide +kernel
theorem i169_46 : ts_ins 169 46 = some (.aload_n 0, 47, 0) := by decide +kernel
theorem i169_47 : ts_ins 169 47 = some (.dup, 48, 0) := by decide +kernel
theorem i169_48 : ts_ins 169 48 = some (.getfield 183, 51, 0) := by decide +kernel
theorem g169_48 : ts_fm 169 183 = some (12, 17, 0) := by decide +kernel
theorem i169_51 : ts_ins 169 51 = some (.iconst 1, 52, 0) := by decide +kernel
theorem i169_52 : ts_ins 169 52 = some (.iadd, 53, 0) := by decide +kernel
theorem i169_53 : ts_ins 169 53 = some (.putfield 183, 56, 0) := by decide +kernel
theorem g169_53 : ts_fmm 169 183 = some (12, 17, 0, false) := by decide +kernel
theorem i169_56 : ts_ins 169 56 = some (.aload_n 0, 57, 0) := by decide +kernel
theorem i169_57 : ts_ins 169 57 = some (.dup, 58, 0) := by decide +kernel
theorem i169_58 : ts_ins 169 58 = some (.getfield 149, 61, 0) := by decide +kernel
theorem g169_58 : ts_fm 169 149 = some (12, 14, 0) := by decide +kernel
theorem i169_61 : ts_ins 169 61 = some (.iconst 1, 62, 0) := by decide +kernel
theorem i169_62 : ts_ins 169 62 = some (.iadd, 63, 0) := by decide +kernel
theorem i169_63 : ts_ins 169 63 = some (.putfield 149, 66, 0) := by decide +kernel
theorem g169_63 : ts_fmm 169 149 = some (12, 14, 0, false) := by decide +kernel
theorem i169_66 : ts_ins 169 66 = some (.iload_n 1, 67, 0) := by decide +kernel
theorem i169_67 : ts_ins 169 67 = some (.bipush 40, 69, 0) := by decide +kernel
theorem i169_69 : ts_ins 169 69 = some (.if_icmp .ne 10, 72, 79) := by decide +kernel
theorem i169_72 : ts_ins 169 72 = some (.aload_n 0, 73, 0) := by decide +kernel
theorem i169_73 : ts_ins 169 73 = some (.invokevirtual 189, 76, 0) := by decide +kernel
theorem g169_73 : ts_cal (ts_mc 169) 189 = some (0, 163, 0) := by decide +kernel
theorem i169_76 : ts_ins 169 76 = some (.goto 7, 79, 83) := by decide +kernel
theorem i169_79 : ts_ins 169 79 = some (.aload_n 0, 80, 0) := by decide +kernel
theorem i169_80 : ts_ins 169 80 = some (.invokevirtual 180, 83, 0) := by decide +kernel
theorem g169_80 : ts_cal (ts_mc 169) 180 = some (0, 169, 0) := by decide +kernel
theorem i169_83 : ts_ins 169 83 = some (.istore_n 2, 84, 0) := by decide +kernel
theorem i169_84 : ts_ins 169 84 = some (.iload_n 1, 85, 0) := by decide +kernel
theorem i169_85 : ts_ins 169 85 = some (.bipush 40, 87, 0) := by decide +kernel
theorem i169_87 : ts_ins 169 87 = some (.if_icmp .ne 17, 90, 104) := by decide +kernel
theorem i169_90 : ts_ins 169 90 = some (.aload_n 0, 91, 0) := by decide +kernel
theorem i169_91 : ts_ins 169 91 = some (.bipush 41, 93, 0) := by decide +kernel
theorem i169_93 : ts_ins 169 93 = some (.invokevirtual 168, 96, 0) := by decide +kernel
theorem g169_93 : ts_cal (ts_mc 169) 168 = some (0, 162, 1) := by decide +kernel
theorem i169_96 : ts_ins 169 96 = some (.ifCond .ne 8, 99, 104) := by decide +kernel
theorem i169_99 : ts_ins 169 99 = some (.aload_n 0, 100, 0) := by decide +kernel
theorem i169_100 : ts_ins 169 100 = some (.invokevirtual 186, 103, 0) := by decide +kernel
theorem g169_100 : ts_cal (ts_mc 169) 186 = some (0, 161, 0) := by decide +kernel
theorem i169_103 : ts_ins 169 103 = some (.ireturn, 104, 0) := by decide +kernel
theorem i169_104 : ts_ins 169 104 = some (.aload_n 0, 105, 0) := by decide +kernel
theorem i169_105 : ts_ins 169 105 = some (.dup, 106, 0) := by decide +kernel
theorem i169_106 : ts_ins 169 106 = some (.getfield 183, 109, 0) := by decide +kernel
theorem g169_106 : ts_fm 169 183 = some (12, 17, 0) := by decide +kernel
theorem i169_109 : ts_ins 169 109 = some (.iconst 1, 110, 0) := by decide +kernel
theorem i169_110 : ts_ins 169 110 = some (.isub, 111, 0) := by decide +kernel
theorem i169_111 : ts_ins 169 111 = some (.putfield 183, 114, 0) := by decide +kernel
theorem g169_111 : ts_fmm 169 183 = some (12, 17, 0, false) := by decide +kernel
theorem i169_114 : ts_ins 169 114 = some (.iload_n 1, 115, 0) := by decide +kernel
theorem i169_115 : ts_ins 169 115 = some (.bipush 40, 117, 0) := by decide +kernel
theorem i169_117 : ts_ins 169 117 = some (.if_icmp .ne 7, 120, 124) := by decide +kernel
theorem i169_120 : ts_ins 169 120 = some (.iload_n 2, 121, 0) := by decide +kernel
theorem i169_121 : ts_ins 169 121 = some (.goto 23, 124, 144) := by decide +kernel
theorem i169_124 : ts_ins 169 124 = some (.iload_n 1, 125, 0) := by decide +kernel
theorem i169_125 : ts_ins 169 125 = some (.bipush 45, 127, 0) := by decide +kernel
theorem i169_127 : ts_ins 169 127 = some (.if_icmp .ne 8, 130, 135) := by decide +kernel
theorem i169_130 : ts_ins 169 130 = some (.iload_n 2, 131, 0) := by decide +kernel
theorem i169_131 : ts_ins 169 131 = some (.ineg, 132, 0) := by decide +kernel
theorem i169_132 : ts_ins 169 132 = some (.goto 12, 135, 144) := by decide +kernel
theorem i169_135 : ts_ins 169 135 = some (.iload_n 2, 136, 0) := by decide +kernel
theorem i169_136 : ts_ins 169 136 = some (.ifCond .ne 7, 139, 143) := by decide +kernel
theorem i169_139 : ts_ins 169 139 = some (.iconst 1, 140, 0) := by decide +kernel
theorem i169_140 : ts_ins 169 140 = some (.goto 4, 143, 144) := by decide +kernel
theorem i169_143 : ts_ins 169 143 = some (.iconst 0, 144, 0) := by decide +kernel
theorem i169_144 : ts_ins 169 144 = some (.ireturn, 145, 0) := by decide +kernel
theorem i169_145 : ts_ins 169 145 = some (.iload_n 1, 146, 0) := by decide +kernel
theorem i169_146 : ts_ins 169 146 = some (.invokestatic 192, 149, 0) := by decide +kernel
theorem g169_146 : ts_cal (ts_mc 169) 192 = some (1, 168, 1) := by decide +kernel
theorem i169_149 : ts_ins 169 149 = some (.istore_n 2, 150, 0) := by decide +kernel
theorem i169_150 : ts_ins 169 150 = some (.iload_n 2, 151, 0) := by decide +kernel
theorem i169_151 : ts_ins 169 151 = some (.ifCond .lt 20, 154, 171) := by decide +kernel
theorem i169_154 : ts_ins 169 154 = some (.aload_n 0, 155, 0) := by decide +kernel
theorem i169_155 : ts_ins 169 155 = some (.dup, 156, 0) := by decide +kernel
theorem i169_156 : ts_ins 169 156 = some (.getfield 149, 159, 0) := by decide +kernel
theorem g169_156 : ts_fm 169 149 = some (12, 14, 0) := by decide +kernel
theorem i169_159 : ts_ins 169 159 = some (.iconst 1, 160, 0) := by decide +kernel
theorem i169_160 : ts_ins 169 160 = some (.iadd, 161, 0) := by decide +kernel
theorem i169_161 : ts_ins 169 161 = some (.putfield 149, 164, 0) := by decide +kernel
theorem g169_161 : ts_fmm 169 149 = some (12, 14, 0, false) := by decide +kernel
theorem i169_164 : ts_ins 169 164 = some (.aload_n 0, 165, 0) := by decide +kernel
theorem i169_165 : ts_ins 169 165 = some (.getfield 31, 168, 0) := by decide +kernel
theorem g169_165 : ts_fm 169 31 = some (12, 18, 2) := by decide +kernel
theorem i169_168 : ts_ins 169 168 = some (.iload_n 2, 169, 0) := by decide +kernel
theorem i169_169 : ts_ins 169 169 = some (.iaload, 170, 0) := by decide +kernel
theorem i169_170 : ts_ins 169 170 = some (.ireturn, 171, 0) := by decide +kernel
theorem i169_171 : ts_ins 169 171 = some (.iconst 0, 172, 0) := by decide +kernel
theorem i169_172 : ts_ins 169 172 = some (.istore_n 3, 173, 0) := by decide +kernel
theorem i169_173 : ts_ins 169 173 = some (.iconst 0, 174, 0) := by decide +kernel
theorem i169_174 : ts_ins 169 174 = some (.istore 4, 176, 0) := by decide +kernel
theorem i169_176 : ts_ins 169 176 = some (.iload 4, 178, 0) := by decide +kernel
theorem i169_178 : ts_ins 169 178 = some (.iconst 4, 179, 0) := by decide +kernel
theorem i169_179 : ts_ins 169 179 = some (.if_icmp .ge 50, 182, 229) := by decide +kernel
theorem i169_182 : ts_ins 169 182 = some (.aload_n 0, 183, 0) := by decide +kernel
theorem i169_183 : ts_ins 169 183 = some (.invokevirtual 161, 186, 0) := by decide +kernel
theorem g169_183 : ts_cal (ts_mc 169) 161 = some (0, 160, 0) := by decide +kernel
theorem i169_186 : ts_ins 169 186 = some (.bipush 48, 188, 0) := by decide +kernel
theorem i169_188 : ts_ins 169 188 = some (.if_icmp .lt 41, 191, 229) := by decide +kernel
theorem i169_191 : ts_ins 169 191 = some (.aload_n 0, 192, 0) := by decide +kernel
theorem i169_192 : ts_ins 169 192 = some (.invokevirtual 161, 195, 0) := by decide +kernel
theorem g169_192 : ts_cal (ts_mc 169) 161 = some (0, 160, 0) := by decide +kernel
theorem i169_195 : ts_ins 169 195 = some (.bipush 57, 197, 0) := by decide +kernel
theorem i169_197 : ts_ins 169 197 = some (.if_icmp .gt 32, 200, 229) := by decide +kernel
theorem i169_200 : ts_ins 169 200 = some (.bipush 10, 202, 0) := by decide +kernel
theorem i169_202 : ts_ins 169 202 = some (.iload_n 3, 203, 0) := by decide +kernel
theorem i169_203 : ts_ins 169 203 = some (.imul, 204, 0) := by decide +kernel
theorem i169_204 : ts_ins 169 204 = some (.aload_n 0, 205, 0) := by decide +kernel
theorem i169_205 : ts_ins 169 205 = some (.invokevirtual 161, 208, 0) := by decide +kernel
theorem g169_205 : ts_cal (ts_mc 169) 161 = some (0, 160, 0) := by decide +kernel
theorem i169_208 : ts_ins 169 208 = some (.iadd, 209, 0) := by decide +kernel
theorem i169_209 : ts_ins 169 209 = some (.bipush 48, 211, 0) := by decide +kernel
theorem i169_211 : ts_ins 169 211 = some (.isub, 212, 0) := by decide +kernel
theorem i169_212 : ts_ins 169 212 = some (.istore_n 3, 213, 0) := by decide +kernel
theorem i169_213 : ts_ins 169 213 = some (.iinc 4 1, 216, 0) := by decide +kernel
theorem i169_216 : ts_ins 169 216 = some (.aload_n 0, 217, 0) := by decide +kernel
theorem i169_217 : ts_ins 169 217 = some (.dup, 218, 0) := by decide +kernel
theorem i169_218 : ts_ins 169 218 = some (.getfield 149, 221, 0) := by decide +kernel
theorem g169_218 : ts_fm 169 149 = some (12, 14, 0) := by decide +kernel
theorem i169_221 : ts_ins 169 221 = some (.iconst 1, 222, 0) := by decide +kernel
theorem i169_222 : ts_ins 169 222 = some (.iadd, 223, 0) := by decide +kernel
theorem i169_223 : ts_ins 169 223 = some (.putfield 149, 226, 0) := by decide +kernel
theorem g169_223 : ts_fmm 169 149 = some (12, 14, 0, false) := by decide +kernel
theorem i169_226 : ts_ins 169 226 = some (.goto (-50), 229, 176) := by decide +kernel
theorem i169_229 : ts_ins 169 229 = some (.iload 4, 231, 0) := by decide +kernel
theorem i169_231 : ts_ins 169 231 = some (.ifCond .ne 10, 234, 241) := by decide +kernel
theorem i169_234 : ts_ins 169 234 = some (.aload_n 0, 235, 0) := by decide +kernel
theorem i169_235 : ts_ins 169 235 = some (.invokevirtual 186, 238, 0) := by decide +kernel
theorem g169_235 : ts_cal (ts_mc 169) 186 = some (0, 161, 0) := by decide +kernel
theorem i169_238 : ts_ins 169 238 = some (.goto 4, 241, 242) := by decide +kernel
theorem i169_241 : ts_ins 169 241 = some (.iload_n 3, 242, 0) := by decide +kernel
theorem i169_242 : ts_ins 169 242 = some (.ireturn, 243, 0) := by decide +kernel
theorem r169 : ts_rt 169 = ((some .int), 0, 0) := by decide +kernel
theorem l169 : ts_ml 169 = 5 := by decide +kernel
/-! the reference's reader: one -/
section ON
variable {X : ts_X} {I J : Nat → Nat → Int32} {L : Nat → Nat → Int64} {sw : Bool} {K : Option Value → ts_H → Prop} {d E : Nat} {b n p q o : Int} {tc : Nat} {tx N : Int → Int} {w : (Int → Int) → Int}
theorem O_num (hd : 8 ≤ d) (hS : SM I b tc n tx p o N) (p0 : 0 ≤ p) (hc : 48 ≤ t_nx n tx p ∧ t_nx n tx p ≤ 57) (hK : ∀ J, fr frw I J → SM J b tc n tx (rdn n tx 4 p 0).1 o N → K (some (.int (zI ((rdn n tx 4 p 0).2)))) (J, L, ts_P0 sw, ts_S0)) : cm5 X (d + 1) I L sw K := by
  obtain ⟨d, rfl⟩ : ∃ d', d = d' + 8 := ⟨d - 8, by omega⟩
  have b1 := hS.1.1
  have r0 := hS.1.nx_r p0
  have loop : ∀ i : Int, 0 ≤ i → i ≤ 4 → ∀ (q v : Int) (J : Nat → Nat → Int32), 0 ≤ q → fr frw I J → SM J b tc n tx q o N → bnd i v → (i = 0 → 48 ≤ t_nx n tx q ∧ t_nx n tx q ≤ 57) → rdn n tx (4 - i).toNat q v = rdn n tx 4 p 0 → ts_Ev X (ts_Cal X (d + 9)) 169 ts_S0 K 176 [.ref 72, .int (zI (t_by n tx p)), .int (zI (-1)), .int (zI (v)), .int (zI (i))] [] (J, L, ts_P0 sw, ts_S0) := by
    refine ts_ind 4 (fun i ih i0 iN q v J q0 hJ hSJ hb h0 hR => ?_)
    have r := hSJ.1.nx_r q0
    have vb : 0 ≤ v ∧ v ≤ 9999 := by unfold bnd at hb; omega
    have fin : ¬ i = 0 → rdn n tx 4 p 0 = (q, v) → ts_Ev X (ts_Cal X (d + 9)) 169 ts_S0 K 229 [.ref 72, .int (zI (t_by n tx p)), .int (zI (-1)), .int (zI (v)), .int (zI (i))] [] (J, L, ts_P0 sw, ts_S0) := by
      intro hi e
      rw [e] at hK
      refine ev_iload_4 i169_229 ?_
      first
      | refine ew_ifneB i169_231 (fun c231 => ?_) (fun c231 => ?_)
      | refine ew_ifne i169_231 (by omega) (fun c231 => ?_) (fun c231 => ?_)
      · refine ev_iloadn_3 i169_241 ?_
        refine ev_ireturn i169_242 r169 ?_
        exact hK J hJ hSJ
      · exfalso; omega
    refine ev_iload_4 i169_176 ?_
    refine ew_iconst i169_178 ?_
    refine ew_icmpge i169_179 (by omega) (fun c179 => ?_) (fun c179 => ?_)
    · first
      | (have e4 : i = 4 := by omega
         rw [show (4 - i).toNat = 0 by omega] at hR
         exact fin (by omega) hR.symm)
      | (rw [show (4 - i).toNat = (4 - (i + 1)).toNat + 1 by omega] at hR
         unfold rdn at hR
         rw [if_neg (by omega)] at hR
         exact fin (by omega) hR.symm)
    · refine ev_aloadn_0 i169_182 ?_
      refine ev_virt0 i169_183 g169_183 rfl (by decide +kernel) (Nat.le_of_ble_eq_true rfl) (m_byteAt hSJ.1 q0 ?_)
      refine ew_bipush i169_186 (by decide) ?_
      refine ew_icmplt i169_188 (by omega) (fun c188 => ?_) (fun c188 => ?_)
      · first
        | (have e4 : i = 4 := by omega
           rw [show (4 - i).toNat = 0 by omega] at hR
           exact fin (by omega) hR.symm)
        | (rw [show (4 - i).toNat = (4 - (i + 1)).toNat + 1 by omega] at hR
           unfold rdn at hR
           rw [if_neg (by omega)] at hR
           exact fin (by omega) hR.symm)
      · refine ev_aloadn_0 i169_191 ?_
        refine ev_virt0 i169_192 g169_192 rfl (by decide +kernel) (Nat.le_of_ble_eq_true rfl) (m_byteAt hSJ.1 q0 ?_)
        refine ew_bipush i169_195 (by decide) ?_
        refine ew_icmpgt i169_197 (by omega) (fun c197 => ?_) (fun c197 => ?_)
        · first
          | (have e4 : i = 4 := by omega
             rw [show (4 - i).toNat = 0 by omega] at hR
             exact fin (by omega) hR.symm)
          | (rw [show (4 - i).toNat = (4 - (i + 1)).toNat + 1 by omega] at hR
             unfold rdn at hR
             rw [if_neg (by omega)] at hR
             exact fin (by omega) hR.symm)
        · refine ew_bipush i169_200 (by decide) ?_
          refine ev_iloadn_3 i169_202 ?_
          refine ew_imul i169_203 ?_
          refine ev_aloadn_0 i169_204 ?_
          refine ev_virt0 i169_205 g169_205 rfl (by decide +kernel) (Nat.le_of_ble_eq_true rfl) (m_byteAt hSJ.1 q0 ?_)
          refine ew_iadd i169_208 ?_
          refine ew_bipush i169_209 (by decide) ?_
          refine ew_isub i169_211 ?_
          refine ev_istoren_3 i169_212 rfl ?_
          refine ew_iinc_4 i169_213 rfl ?_
          refine ev_aloadn_0 i169_216 ?_
          refine ev_dup i169_217 rfl ?_
          refine ew_getI i169_218 g169_218 rfl (by first | exact hSJ.1.2.2.2.2.2 | exact hM.men | exact hM.told | exact hM.road | exact hM.stand _ (by omega) (by omega) | exact hM.reach _ (by omega) (by omega) | exact hM.arm _ (by omega) (by omega) | exact hM.late _ (by omega) (by omega) | exact hM.len _ (by omega) (by omega) | exact hM.corn _ (by omega) (by omega) | exact hM.say (by omega) (by omega) _ (by omega) (by omega) | exact hM.tone _ (by omega) (by omega)) (fun b218 => ?_)
          refine ew_iconst i169_221 ?_
          refine ew_iadd i169_222 ?_
          refine ev_putI i169_223 g169_223 rfl ?_
          refine ev_goto i169_226 ?_
          rw [show (4 - i).toNat = (4 - (i + 1)).toNat + 1 by omega] at hR
          unfold rdn at hR
          rw [if_pos (by omega)] at hR
          have lt := t_nx_lt (n := n) (tx := tx) (p := q) (by omega)
          rw [show 10 * v + t_by n tx q - 48 = v * 10 + t_nx n tx q - 48 by omega]
          exact ih (by omega) (by omega) (by omega) (q + 1) _ _ (by omega) (fr_up hJ ⟨rfl, by decide, by decide⟩) (hSJ.sAt (by omega)) (by unfold bnd at hb ⊢; omega) (by omega) hR
  refine ev_enter (lv := [.ref 72, .null, .null, .null, .null]) l169 rfl (Nat.le_of_ble_eq_true rfl) ?_
  refine ev_aloadn_0 i169_0 ?_
  refine ew_getI i169_1 g169_1 rfl (by first | exact hS.2.1 | exact hM.men | exact hM.told | exact hM.road | exact hM.stand _ (by omega) (by omega) | exact hM.reach _ (by omega) (by omega) | exact hM.arm _ (by omega) (by omega) | exact hM.late _ (by omega) (by omega) | exact hM.len _ (by omega) (by omega) | exact hM.corn _ (by omega) (by omega) | exact hM.say (by omega) (by omega) _ (by omega) (by omega) | exact hM.tone _ (by omega) (by omega)) (fun b1 => ?_)
  refine ew_iflt i169_4 (by omega) (fun c4 => ?_) (fun c4 => ?_)
  · refine ev_aloadn_0 i169_9 ?_
    refine ev_virt0 i169_10 g169_10 rfl (by decide +kernel) (Nat.le_of_ble_eq_true rfl) (m_byteAt hS.1 p0 ?_)
    refine ev_istoren_1 i169_13 rfl ?_
    refine ev_iloadn_1 i169_14 ?_
    refine ew_bipush i169_15 (by decide) ?_
    refine ew_icmpeq i169_17 (by omega) (fun c17 => ?_) (fun c17 => ?_)
    · exfalso; omega
    · refine ev_iloadn_1 i169_20 ?_
      refine ew_bipush i169_21 (by decide) ?_
      refine ew_icmpeq i169_23 (by omega) (fun c23 => ?_) (fun c23 => ?_)
      · exfalso; omega
      · refine ev_iloadn_1 i169_26 ?_
        refine ew_bipush i169_27 (by decide) ?_
        refine ew_icmpne i169_29 (by omega) (fun c29 => ?_) (fun c29 => ?_)
        · refine ev_iloadn_1 i169_145 ?_
          refine ev_stat1 i169_146 g169_146 (by decide +kernel) (Nat.le_of_ble_eq_true rfl) (m_nameOf (by omega) ?_)
          rw [show nmi (t_by n tx p) = -1 by unfold nmi; omega]
          refine ev_istoren_2 i169_149 rfl ?_
          refine ev_iloadn_2 i169_150 ?_
          refine ew_iflt i169_151 (by omega) (fun c151 => ?_) (fun c151 => ?_)
          · refine ew_iconst i169_171 ?_
            refine ev_istoren_3 i169_172 rfl ?_
            refine ew_iconst i169_173 ?_
            refine ev_istore_4 i169_174 rfl ?_
            exact loop 0 (by decide) (by decide) p 0 I p0 (fr_rfl _ _) hS (Or.inl ⟨rfl, rfl⟩) (fun _ => hc) rfl
          · exfalso; omega
        · exfalso; omega
  · exfalso; omega
theorem O_name (hd : 8 ≤ d) (hS : SM I b tc n tx p o N) (p0 : 0 ≤ p) (hc : 0 ≤ nmi (t_nx n tx p)) (hK : ∀ J, fr frw I J → SM J b tc n tx (p + 1) o N → K (some (.int (zI (zw (N (nmi (t_nx n tx p))))))) (J, L, ts_P0 sw, ts_S0)) : cm5 X (d + 1) I L sw K := by
  obtain ⟨d, rfl⟩ : ∃ d', d = d' + 8 := ⟨d - 8, by omega⟩
  have b1 := hS.1.1
  have r0 := hS.1.nx_r p0
  have hn : 97 ≤ t_nx n tx p := by unfold nmi at hc; omega
  have hn2 : nmi (t_nx n tx p) ≤ 5 := by unfold nmi; omega
  have lt := t_nx_lt (n := n) (tx := tx) (p := p) (by omega)
  have eb : t_by n tx p = t_nx n tx p := by omega
  rw [zI_zw] at hK
  refine ev_enter (lv := [.ref 72, .null, .null, .null, .null]) l169 rfl (Nat.le_of_ble_eq_true rfl) ?_
  refine ev_aloadn_0 i169_0 ?_
  refine ew_getI i169_1 g169_1 rfl (by first | exact hS.2.1 | exact hS.1.2.2.2.2.2 | exact hM.men | exact hM.told | exact hM.road | exact hM.stand _ (by omega) (by omega) | exact hM.reach _ (by omega) (by omega) | exact hM.arm _ (by omega) (by omega) | exact hM.late _ (by omega) (by omega) | exact hM.len _ (by omega) (by omega) | exact hM.corn _ (by omega) (by omega) | exact hM.say (by omega) (by omega) _ (by omega) (by omega) | exact hM.tone _ (by omega) (by omega)) (fun b1 => ?_)
  refine ew_iflt i169_4 (by omega) (fun c4 => ?_) (fun c4 => ?_)
  · refine ev_aloadn_0 i169_9 ?_
    refine ev_virt0 i169_10 g169_10 rfl (by decide +kernel) (Nat.le_of_ble_eq_true rfl) (m_byteAt hS.1 p0 ?_)
    refine ev_istoren_1 i169_13 rfl ?_
    refine ev_iloadn_1 i169_14 ?_
    refine ew_bipush i169_15 (by decide) ?_
    refine ew_icmpeq i169_17 (by omega) (fun c17 => ?_) (fun c17 => ?_)
    · exfalso; omega
    · refine ev_iloadn_1 i169_20 ?_
      refine ew_bipush i169_21 (by decide) ?_
      refine ew_icmpeq i169_23 (by omega) (fun c23 => ?_) (fun c23 => ?_)
      · exfalso; omega
      · refine ev_iloadn_1 i169_26 ?_
        refine ew_bipush i169_27 (by decide) ?_
        refine ew_icmpne i169_29 (by omega) (fun c29 => ?_) (fun c29 => ?_)
        · refine ev_iloadn_1 i169_145 ?_
          refine ev_stat1 i169_146 g169_146 (by decide +kernel) (Nat.le_of_ble_eq_true rfl) (m_nameOf (by omega) ?_)
          rw [eb]
          refine ev_istoren_2 i169_149 rfl ?_
          refine ev_iloadn_2 i169_150 ?_
          refine ew_iflt i169_151 (by omega) (fun c151 => ?_) (fun c151 => ?_)
          · exfalso; omega
          · refine ev_aloadn_0 i169_154 ?_
            refine ev_dup i169_155 rfl ?_
            refine ew_getI i169_156 g169_156 rfl (by first | exact hS.2.1 | exact hS.1.2.2.2.2.2 | exact hM.men | exact hM.told | exact hM.road | exact hM.stand _ (by omega) (by omega) | exact hM.reach _ (by omega) (by omega) | exact hM.arm _ (by omega) (by omega) | exact hM.late _ (by omega) (by omega) | exact hM.len _ (by omega) (by omega) | exact hM.corn _ (by omega) (by omega) | exact hM.say (by omega) (by omega) _ (by omega) (by omega) | exact hM.tone _ (by omega) (by omega)) (fun b156 => ?_)
            refine ew_iconst i169_159 ?_
            refine ew_iadd i169_160 ?_
            refine ev_putI i169_161 g169_161 rfl ?_
            refine ev_aloadn_0 i169_164 ?_
            refine ev_getA i169_165 g169_165 rfl rfl (by decide) ?_
            refine ev_iloadn_2 i169_168 ?_
            refine ew_iaload i169_169 rfl (by omega) (by omega) (by omega) ((hS.sAt (q := p + 1) (by omega)).2.2.2 _ (by omega) (by omega)) (fun b169 => ?_)
            refine ev_ireturn i169_170 r169 ?_
            exact hK _ (fr_up (fr_rfl _ _) ⟨rfl, by decide, by decide⟩) (hS.sAt (by omega))
        · exfalso; omega
  · exfalso; omega
theorem O_bad (hd : 8 ≤ d) (hS : SM I b tc n tx p o N) (p0 : 0 ≤ p) (h2 : ¬ (48 ≤ t_nx n tx p ∧ t_nx n tx p ≤ 57)) (h3 : nmi (t_nx n tx p) = -1) (h4 : (¬ t_nx n tx p = 40 ∧ ¬ t_nx n tx p = 33 ∧ ¬ t_nx n tx p = 45) ∨ o = 6) (hK : ∀ J r, fr frw I J → FM J b tc n tx p → -2147483648 ≤ r ∧ r ≤ 2147483647 → K (some (.int (zI (r)))) (J, L, ts_P0 sw, ts_S0)) : cm5 X (d + 1) I L sw K := by
  obtain ⟨d, rfl⟩ : ∃ d', d = d' + 8 := ⟨d - 8, by omega⟩
  have b1 := hS.1.1
  have r0 := hS.1.nx_r p0
  have hn : nmi (t_by n tx p) = -1 := by
    by_cases c : t_nx n tx p = -1
    · rw [r0.2.2.1 c]; rfl
    · rw [r0.2.2.2 c]; exact h3
  refine ev_enter (lv := [.ref 72, .null, .null, .null, .null]) l169 rfl (Nat.le_of_ble_eq_true rfl) ?_
  refine ev_aloadn_0 i169_0 ?_
  refine ew_getI i169_1 g169_1 rfl (by first | exact hS.2.1 | exact hS.1.2.2.2.2.2 | exact hS.2.2.1 | exact hM.men | exact hM.told | exact hM.road | exact hM.stand _ (by omega) (by omega) | exact hM.reach _ (by omega) (by omega) | exact hM.arm _ (by omega) (by omega) | exact hM.late _ (by omega) (by omega) | exact hM.len _ (by omega) (by omega) | exact hM.corn _ (by omega) (by omega) | exact hM.say (by omega) (by omega) _ (by omega) (by omega) | exact hM.tone _ (by omega) (by omega)) (fun b1 => ?_)
  refine ew_iflt i169_4 (by omega) (fun c4 => ?_) (fun c4 => ?_)
  · refine ev_aloadn_0 i169_9 ?_
    refine ev_virt0 i169_10 g169_10 rfl (by decide +kernel) (Nat.le_of_ble_eq_true rfl) (m_byteAt hS.1 p0 ?_)
    refine ev_istoren_1 i169_13 rfl ?_
    refine ev_iloadn_1 i169_14 ?_
    refine ew_bipush i169_15 (by decide) ?_
    refine ew_icmpeq i169_17 (by omega) (fun c17 => ?_) (fun c17 => ?_)
    · refine ev_aloadn_0 i169_32 ?_
      refine ew_getI i169_33 g169_33 rfl (by first | exact hS.2.1 | exact hS.1.2.2.2.2.2 | exact hS.2.2.1 | exact hM.men | exact hM.told | exact hM.road | exact hM.stand _ (by omega) (by omega) | exact hM.reach _ (by omega) (by omega) | exact hM.arm _ (by omega) (by omega) | exact hM.late _ (by omega) (by omega) | exact hM.len _ (by omega) (by omega) | exact hM.corn _ (by omega) (by omega) | exact hM.say (by omega) (by omega) _ (by omega) (by omega) | exact hM.tone _ (by omega) (by omega)) (fun b33 => ?_)
      refine ew_bipush i169_36 (by decide) ?_
      refine ew_icmpne i169_38 (by omega) (fun c38 => ?_) (fun c38 => ?_)
      · exfalso; omega
      · refine ev_aloadn_0 i169_41 ?_
        refine ev_virt0 i169_42 g169_42 rfl (by decide +kernel) (Nat.le_of_ble_eq_true rfl) (m_wrong hS (fun J h1 h2 => ?_))
        refine ev_ireturn i169_45 r169 ?_
        first
        | exact hK J 0 h1 h2 (by decide)
        | (exfalso; omega)
    · refine ev_iloadn_1 i169_20 ?_
      refine ew_bipush i169_21 (by decide) ?_
      refine ew_icmpeq i169_23 (by omega) (fun c23 => ?_) (fun c23 => ?_)
      · refine ev_aloadn_0 i169_32 ?_
        refine ew_getI i169_33 g169_33 rfl (by first | exact hS.2.1 | exact hS.1.2.2.2.2.2 | exact hS.2.2.1 | exact hM.men | exact hM.told | exact hM.road | exact hM.stand _ (by omega) (by omega) | exact hM.reach _ (by omega) (by omega) | exact hM.arm _ (by omega) (by omega) | exact hM.late _ (by omega) (by omega) | exact hM.len _ (by omega) (by omega) | exact hM.corn _ (by omega) (by omega) | exact hM.say (by omega) (by omega) _ (by omega) (by omega) | exact hM.tone _ (by omega) (by omega)) (fun b33 => ?_)
        refine ew_bipush i169_36 (by decide) ?_
        refine ew_icmpne i169_38 (by omega) (fun c38 => ?_) (fun c38 => ?_)
        · exfalso; omega
        · refine ev_aloadn_0 i169_41 ?_
          refine ev_virt0 i169_42 g169_42 rfl (by decide +kernel) (Nat.le_of_ble_eq_true rfl) (m_wrong hS (fun J h1 h2 => ?_))
          refine ev_ireturn i169_45 r169 ?_
          first
          | exact hK J 0 h1 h2 (by decide)
          | (exfalso; omega)
      · refine ev_iloadn_1 i169_26 ?_
        refine ew_bipush i169_27 (by decide) ?_
        refine ew_icmpne i169_29 (by omega) (fun c29 => ?_) (fun c29 => ?_)
        · refine ev_iloadn_1 i169_145 ?_
          refine ev_stat1 i169_146 g169_146 (by decide +kernel) (Nat.le_of_ble_eq_true rfl) (m_nameOf (by omega) ?_)
          rw [hn]
          refine ev_istoren_2 i169_149 rfl ?_
          refine ev_iloadn_2 i169_150 ?_
          refine ew_iflt i169_151 (by omega) (fun c151 => ?_) (fun c151 => ?_)
          · refine ew_iconst i169_171 ?_
            refine ev_istoren_3 i169_172 rfl ?_
            refine ew_iconst i169_173 ?_
            refine ev_istore_4 i169_174 rfl ?_
            refine ev_iload_4 i169_176 ?_
            refine ew_iconst i169_178 ?_
            refine ew_icmpge i169_179 (by omega) (fun c179 => ?_) (fun c179 => ?_)
            · refine ev_iload_4 i169_229 ?_
              first
              | refine ew_ifneB i169_231 (fun c231 => ?_) (fun c231 => ?_)
              | refine ew_ifne i169_231 (by omega) (fun c231 => ?_) (fun c231 => ?_)
              · exfalso; omega
              · refine ev_aloadn_0 i169_234 ?_
                refine ev_virt0 i169_235 g169_235 rfl (by decide +kernel) (Nat.le_of_ble_eq_true rfl) (m_wrong hS (fun J h1 h2 => ?_))
                refine ev_goto i169_238 ?_
                refine ev_ireturn i169_242 r169 ?_
                first
                | exact hK J 0 h1 h2 (by decide)
                | (exfalso; omega)
            · refine ev_aloadn_0 i169_182 ?_
              refine ev_virt0 i169_183 g169_183 rfl (by decide +kernel) (Nat.le_of_ble_eq_true rfl) (m_byteAt hS.1 p0 ?_)
              refine ew_bipush i169_186 (by decide) ?_
              refine ew_icmplt i169_188 (by omega) (fun c188 => ?_) (fun c188 => ?_)
              · refine ev_iload_4 i169_229 ?_
                first
                | refine ew_ifneB i169_231 (fun c231 => ?_) (fun c231 => ?_)
                | refine ew_ifne i169_231 (by omega) (fun c231 => ?_) (fun c231 => ?_)
                · exfalso; omega
                · refine ev_aloadn_0 i169_234 ?_
                  refine ev_virt0 i169_235 g169_235 rfl (by decide +kernel) (Nat.le_of_ble_eq_true rfl) (m_wrong hS (fun J h1 h2 => ?_))
                  refine ev_goto i169_238 ?_
                  refine ev_ireturn i169_242 r169 ?_
                  first
                  | exact hK J 0 h1 h2 (by decide)
                  | (exfalso; omega)
              · refine ev_aloadn_0 i169_191 ?_
                refine ev_virt0 i169_192 g169_192 rfl (by decide +kernel) (Nat.le_of_ble_eq_true rfl) (m_byteAt hS.1 p0 ?_)
                refine ew_bipush i169_195 (by decide) ?_
                refine ew_icmpgt i169_197 (by omega) (fun c197 => ?_) (fun c197 => ?_)
                · refine ev_iload_4 i169_229 ?_
                  first
                  | refine ew_ifneB i169_231 (fun c231 => ?_) (fun c231 => ?_)
                  | refine ew_ifne i169_231 (by omega) (fun c231 => ?_) (fun c231 => ?_)
                  · exfalso; omega
                  · refine ev_aloadn_0 i169_234 ?_
                    refine ev_virt0 i169_235 g169_235 rfl (by decide +kernel) (Nat.le_of_ble_eq_true rfl) (m_wrong hS (fun J h1 h2 => ?_))
                    refine ev_goto i169_238 ?_
                    refine ev_ireturn i169_242 r169 ?_
                    first
                    | exact hK J 0 h1 h2 (by decide)
                    | (exfalso; omega)
                · exfalso; omega
          · exfalso; omega
        · refine ev_aloadn_0 i169_32 ?_
          refine ew_getI i169_33 g169_33 rfl (by first | exact hS.2.1 | exact hS.1.2.2.2.2.2 | exact hS.2.2.1 | exact hM.men | exact hM.told | exact hM.road | exact hM.stand _ (by omega) (by omega) | exact hM.reach _ (by omega) (by omega) | exact hM.arm _ (by omega) (by omega) | exact hM.late _ (by omega) (by omega) | exact hM.len _ (by omega) (by omega) | exact hM.corn _ (by omega) (by omega) | exact hM.say (by omega) (by omega) _ (by omega) (by omega) | exact hM.tone _ (by omega) (by omega)) (fun b33 => ?_)
          refine ew_bipush i169_36 (by decide) ?_
          refine ew_icmpne i169_38 (by omega) (fun c38 => ?_) (fun c38 => ?_)
          · exfalso; omega
          · refine ev_aloadn_0 i169_41 ?_
            refine ev_virt0 i169_42 g169_42 rfl (by decide +kernel) (Nat.le_of_ble_eq_true rfl) (m_wrong hS (fun J h1 h2 => ?_))
            refine ev_ireturn i169_45 r169 ?_
            first
            | exact hK J 0 h1 h2 (by decide)
            | (exfalso; omega)
  · exfalso; omega
theorem O_par (hd : 8 ≤ d) (hE : E ≤ d) (hS : SM I b tc n tx p o N) (p0 : 0 ≤ p) (q0 : 0 ≤ q) (ho : 0 ≤ o ∧ o < 6) (h1 : t_nx n tx p = 40) (hc : CMs E cm0 n tx (p + 1) (o + 1) q w) (hK1 : t_nx n tx q = 41 → ∀ J, fr frw I J → SM J b tc n tx (q + 1) o N → K (some (.int (zI (w N)))) (J, L, ts_P0 sw, ts_S0)) (hK0 : ¬ t_nx n tx q = 41 → ∀ J r, fr frw I J → FM J b tc n tx q → -2147483648 ≤ r ∧ r ≤ 2147483647 → K (some (.int (zI (r)))) (J, L, ts_P0 sw, ts_S0)) : cm5 X (d + 1) I L sw K := by
  obtain ⟨d, rfl⟩ : ∃ d', d = d' + 8 := ⟨d - 8, by omega⟩
  have b1 := hS.1.1
  have r0 := hS.1.nx_r p0
  have lt := t_nx_lt (n := n) (tx := tx) (p := p) (by omega)
  refine ev_enter (lv := [.ref 72, .null, .null, .null, .null]) l169 rfl (Nat.le_of_ble_eq_true rfl) ?_
  refine ev_aloadn_0 i169_0 ?_
  refine ew_getI i169_1 g169_1 rfl (by first | exact hS.2.1 | exact hS.1.2.2.2.2.2 | exact hS.2.2.1 | exact hM.men | exact hM.told | exact hM.road | exact hM.stand _ (by omega) (by omega) | exact hM.reach _ (by omega) (by omega) | exact hM.arm _ (by omega) (by omega) | exact hM.late _ (by omega) (by omega) | exact hM.len _ (by omega) (by omega) | exact hM.corn _ (by omega) (by omega) | exact hM.say (by omega) (by omega) _ (by omega) (by omega) | exact hM.tone _ (by omega) (by omega)) (fun b1 => ?_)
  refine ew_iflt i169_4 (by omega) (fun c4 => ?_) (fun c4 => ?_)
  · refine ev_aloadn_0 i169_9 ?_
    refine ev_virt0 i169_10 g169_10 rfl (by decide +kernel) (Nat.le_of_ble_eq_true rfl) (m_byteAt hS.1 p0 ?_)
    refine ev_istoren_1 i169_13 rfl ?_
    refine ev_iloadn_1 i169_14 ?_
    refine ew_bipush i169_15 (by decide) ?_
    refine ew_icmpeq i169_17 (by omega) (fun c17 => ?_) (fun c17 => ?_)
    · refine ev_aloadn_0 i169_32 ?_
      refine ew_getI i169_33 g169_33 rfl (by first | exact hS.2.1 | exact hS.1.2.2.2.2.2 | exact hS.2.2.1 | exact hM.men | exact hM.told | exact hM.road | exact hM.stand _ (by omega) (by omega) | exact hM.reach _ (by omega) (by omega) | exact hM.arm _ (by omega) (by omega) | exact hM.late _ (by omega) (by omega) | exact hM.len _ (by omega) (by omega) | exact hM.corn _ (by omega) (by omega) | exact hM.say (by omega) (by omega) _ (by omega) (by omega) | exact hM.tone _ (by omega) (by omega)) (fun b33 => ?_)
      refine ew_bipush i169_36 (by decide) ?_
      refine ew_icmpne i169_38 (by omega) (fun c38 => ?_) (fun c38 => ?_)
      · refine ev_aloadn_0 i169_46 ?_
        refine ev_dup i169_47 rfl ?_
        refine ew_getI i169_48 g169_48 rfl (by first | exact hS.2.1 | exact hS.1.2.2.2.2.2 | exact hS.2.2.1 | exact hM.men | exact hM.told | exact hM.road | exact hM.stand _ (by omega) (by omega) | exact hM.reach _ (by omega) (by omega) | exact hM.arm _ (by omega) (by omega) | exact hM.late _ (by omega) (by omega) | exact hM.len _ (by omega) (by omega) | exact hM.corn _ (by omega) (by omega) | exact hM.say (by omega) (by omega) _ (by omega) (by omega) | exact hM.tone _ (by omega) (by omega)) (fun b48 => ?_)
        refine ew_iconst i169_51 ?_
        refine ew_iadd i169_52 ?_
        refine ev_putI i169_53 g169_53 rfl ?_
        refine ev_aloadn_0 i169_56 ?_
        refine ev_dup i169_57 rfl ?_
        refine ew_getI i169_58 g169_58 rfl (by first | exact hS.2.1 | exact hS.1.2.2.2.2.2 | exact hS.2.2.1 | exact hM.men | exact hM.told | exact hM.road | exact hM.stand _ (by omega) (by omega) | exact hM.reach _ (by omega) (by omega) | exact hM.arm _ (by omega) (by omega) | exact hM.late _ (by omega) (by omega) | exact hM.len _ (by omega) (by omega) | exact hM.corn _ (by omega) (by omega) | exact hM.say (by omega) (by omega) _ (by omega) (by omega) | exact hM.tone _ (by omega) (by omega)) (fun b58 => ?_)
        refine ew_iconst i169_61 ?_
        refine ew_iadd i169_62 ?_
        refine ev_putI i169_63 g169_63 rfl ?_
        refine ev_iloadn_1 i169_66 ?_
        refine ew_bipush i169_67 (by decide) ?_
        refine ew_icmpne i169_69 (by omega) (fun c69 => ?_) (fun c69 => ?_)
        · exfalso; omega
        · refine ev_aloadn_0 i169_72 ?_
          refine ev_virt0 i169_73 g169_73 rfl (by decide +kernel) (Nat.le_of_ble_eq_true rfl) (hc X (d + 8) _ L sw _ N b tc hE ((hS.sOp (q := o + 1) (by omega)).sAt (by omega)) (fun M g1 g2 => ?_))
          refine ev_goto i169_76 ?_
          refine ev_istoren_2 i169_83 rfl ?_
          have hM : fr frw I M := fr_tr (fr_up (fr_up (fr_rfl _ _) ⟨rfl, by decide, by decide⟩) ⟨rfl, by decide, by decide⟩) g1
          refine ev_iloadn_1 i169_84 ?_
          refine ew_bipush i169_85 (by decide) ?_
          refine ew_icmpne i169_87 (by omega) (fun c87 => ?_) (fun c87 => ?_)
          · exfalso; omega
          · refine ev_aloadn_0 i169_90 ?_
            refine ew_bipush i169_91 (by decide) ?_
            refine ev_virt1 i169_93 g169_93 rfl (by decide +kernel) (Nat.le_of_ble_eq_true rfl) (m_takes g2 q0 (by omega) (fun M2 g3 g4 g5 => ?_))
            first
            | refine ew_ifneB i169_96 (fun c96 => ?_) (fun c96 => ?_)
            | refine ew_ifne i169_96 (by omega) (fun c96 => ?_) (fun c96 => ?_)
            · refine ev_aloadn_0 i169_104 ?_
              refine ev_dup i169_105 rfl ?_
              refine ew_getI i169_106 g169_106 rfl (by first | exact (g4 c96).2.2.1 | exact hM.men | exact hM.told | exact hM.road | exact hM.stand _ (by omega) (by omega) | exact hM.reach _ (by omega) (by omega) | exact hM.arm _ (by omega) (by omega) | exact hM.late _ (by omega) (by omega) | exact hM.len _ (by omega) (by omega) | exact hM.corn _ (by omega) (by omega) | exact hM.say (by omega) (by omega) _ (by omega) (by omega) | exact hM.tone _ (by omega) (by omega)) (fun b106 => ?_)
              refine ew_iconst i169_109 ?_
              refine ew_isub i169_110 ?_
              rw [show o + 1 - 1 = o by omega]
              refine ev_putI i169_111 g169_111 rfl ?_
              refine ev_iloadn_1 i169_114 ?_
              refine ew_bipush i169_115 (by decide) ?_
              refine ew_icmpne i169_117 (by omega) (fun c117 => ?_) (fun c117 => ?_)
              · exfalso; omega
              · refine ev_iloadn_2 i169_120 ?_
                refine ev_goto i169_121 ?_
                refine ev_ireturn i169_144 r169 ?_
                exact hK1 c96 _ (fr_up (fr_tr hM g3) ⟨rfl, by decide, by decide⟩) ((g4 c96).sOp (by omega))
            · refine ev_aloadn_0 i169_99 ?_
              refine ev_virt0 i169_100 g169_100 rfl (by decide +kernel) (Nat.le_of_ble_eq_true rfl) (m_wrong (g5 c96) (fun M3 g6 g7 => ?_))
              refine ev_ireturn i169_103 r169 ?_
              exact hK0 c96 M3 0 (fr_tr (fr_tr hM g3) g6) g7 (by decide)
      · exfalso; omega
    · refine ev_iloadn_1 i169_20 ?_
      refine ew_bipush i169_21 (by decide) ?_
      refine ew_icmpeq i169_23 (by omega) (fun c23 => ?_) (fun c23 => ?_)
      · refine ev_aloadn_0 i169_32 ?_
        refine ew_getI i169_33 g169_33 rfl (by first | exact hS.2.1 | exact hS.1.2.2.2.2.2 | exact hS.2.2.1 | exact hM.men | exact hM.told | exact hM.road | exact hM.stand _ (by omega) (by omega) | exact hM.reach _ (by omega) (by omega) | exact hM.arm _ (by omega) (by omega) | exact hM.late _ (by omega) (by omega) | exact hM.len _ (by omega) (by omega) | exact hM.corn _ (by omega) (by omega) | exact hM.say (by omega) (by omega) _ (by omega) (by omega) | exact hM.tone _ (by omega) (by omega)) (fun b33 => ?_)
        refine ew_bipush i169_36 (by decide) ?_
        refine ew_icmpne i169_38 (by omega) (fun c38 => ?_) (fun c38 => ?_)
        · refine ev_aloadn_0 i169_46 ?_
          refine ev_dup i169_47 rfl ?_
          refine ew_getI i169_48 g169_48 rfl (by first | exact hS.2.1 | exact hS.1.2.2.2.2.2 | exact hS.2.2.1 | exact hM.men | exact hM.told | exact hM.road | exact hM.stand _ (by omega) (by omega) | exact hM.reach _ (by omega) (by omega) | exact hM.arm _ (by omega) (by omega) | exact hM.late _ (by omega) (by omega) | exact hM.len _ (by omega) (by omega) | exact hM.corn _ (by omega) (by omega) | exact hM.say (by omega) (by omega) _ (by omega) (by omega) | exact hM.tone _ (by omega) (by omega)) (fun b48 => ?_)
          refine ew_iconst i169_51 ?_
          refine ew_iadd i169_52 ?_
          refine ev_putI i169_53 g169_53 rfl ?_
          refine ev_aloadn_0 i169_56 ?_
          refine ev_dup i169_57 rfl ?_
          refine ew_getI i169_58 g169_58 rfl (by first | exact hS.2.1 | exact hS.1.2.2.2.2.2 | exact hS.2.2.1 | exact hM.men | exact hM.told | exact hM.road | exact hM.stand _ (by omega) (by omega) | exact hM.reach _ (by omega) (by omega) | exact hM.arm _ (by omega) (by omega) | exact hM.late _ (by omega) (by omega) | exact hM.len _ (by omega) (by omega) | exact hM.corn _ (by omega) (by omega) | exact hM.say (by omega) (by omega) _ (by omega) (by omega) | exact hM.tone _ (by omega) (by omega)) (fun b58 => ?_)
          refine ew_iconst i169_61 ?_
          refine ew_iadd i169_62 ?_
          refine ev_putI i169_63 g169_63 rfl ?_
          refine ev_iloadn_1 i169_66 ?_
          refine ew_bipush i169_67 (by decide) ?_
          refine ew_icmpne i169_69 (by omega) (fun c69 => ?_) (fun c69 => ?_)
          · exfalso; omega
          · refine ev_aloadn_0 i169_72 ?_
            refine ev_virt0 i169_73 g169_73 rfl (by decide +kernel) (Nat.le_of_ble_eq_true rfl) (hc X (d + 8) _ L sw _ N b tc hE ((hS.sOp (q := o + 1) (by omega)).sAt (by omega)) (fun M g1 g2 => ?_))
            refine ev_goto i169_76 ?_
            refine ev_istoren_2 i169_83 rfl ?_
            have hM : fr frw I M := fr_tr (fr_up (fr_up (fr_rfl _ _) ⟨rfl, by decide, by decide⟩) ⟨rfl, by decide, by decide⟩) g1
            refine ev_iloadn_1 i169_84 ?_
            refine ew_bipush i169_85 (by decide) ?_
            refine ew_icmpne i169_87 (by omega) (fun c87 => ?_) (fun c87 => ?_)
            · exfalso; omega
            · refine ev_aloadn_0 i169_90 ?_
              refine ew_bipush i169_91 (by decide) ?_
              refine ev_virt1 i169_93 g169_93 rfl (by decide +kernel) (Nat.le_of_ble_eq_true rfl) (m_takes g2 q0 (by omega) (fun M2 g3 g4 g5 => ?_))
              first
              | refine ew_ifneB i169_96 (fun c96 => ?_) (fun c96 => ?_)
              | refine ew_ifne i169_96 (by omega) (fun c96 => ?_) (fun c96 => ?_)
              · refine ev_aloadn_0 i169_104 ?_
                refine ev_dup i169_105 rfl ?_
                refine ew_getI i169_106 g169_106 rfl (by first | exact (g4 c96).2.2.1 | exact hM.men | exact hM.told | exact hM.road | exact hM.stand _ (by omega) (by omega) | exact hM.reach _ (by omega) (by omega) | exact hM.arm _ (by omega) (by omega) | exact hM.late _ (by omega) (by omega) | exact hM.len _ (by omega) (by omega) | exact hM.corn _ (by omega) (by omega) | exact hM.say (by omega) (by omega) _ (by omega) (by omega) | exact hM.tone _ (by omega) (by omega)) (fun b106 => ?_)
                refine ew_iconst i169_109 ?_
                refine ew_isub i169_110 ?_
                rw [show o + 1 - 1 = o by omega]
                refine ev_putI i169_111 g169_111 rfl ?_
                refine ev_iloadn_1 i169_114 ?_
                refine ew_bipush i169_115 (by decide) ?_
                refine ew_icmpne i169_117 (by omega) (fun c117 => ?_) (fun c117 => ?_)
                · exfalso; omega
                · refine ev_iloadn_2 i169_120 ?_
                  refine ev_goto i169_121 ?_
                  refine ev_ireturn i169_144 r169 ?_
                  exact hK1 c96 _ (fr_up (fr_tr hM g3) ⟨rfl, by decide, by decide⟩) ((g4 c96).sOp (by omega))
              · refine ev_aloadn_0 i169_99 ?_
                refine ev_virt0 i169_100 g169_100 rfl (by decide +kernel) (Nat.le_of_ble_eq_true rfl) (m_wrong (g5 c96) (fun M3 g6 g7 => ?_))
                refine ev_ireturn i169_103 r169 ?_
                exact hK0 c96 M3 0 (fr_tr (fr_tr hM g3) g6) g7 (by decide)
        · exfalso; omega
      · refine ev_iloadn_1 i169_26 ?_
        refine ew_bipush i169_27 (by decide) ?_
        refine ew_icmpne i169_29 (by omega) (fun c29 => ?_) (fun c29 => ?_)
        · exfalso; omega
        · refine ev_aloadn_0 i169_32 ?_
          refine ew_getI i169_33 g169_33 rfl (by first | exact hS.2.1 | exact hS.1.2.2.2.2.2 | exact hS.2.2.1 | exact hM.men | exact hM.told | exact hM.road | exact hM.stand _ (by omega) (by omega) | exact hM.reach _ (by omega) (by omega) | exact hM.arm _ (by omega) (by omega) | exact hM.late _ (by omega) (by omega) | exact hM.len _ (by omega) (by omega) | exact hM.corn _ (by omega) (by omega) | exact hM.say (by omega) (by omega) _ (by omega) (by omega) | exact hM.tone _ (by omega) (by omega)) (fun b33 => ?_)
          refine ew_bipush i169_36 (by decide) ?_
          refine ew_icmpne i169_38 (by omega) (fun c38 => ?_) (fun c38 => ?_)
          · refine ev_aloadn_0 i169_46 ?_
            refine ev_dup i169_47 rfl ?_
            refine ew_getI i169_48 g169_48 rfl (by first | exact hS.2.1 | exact hS.1.2.2.2.2.2 | exact hS.2.2.1 | exact hM.men | exact hM.told | exact hM.road | exact hM.stand _ (by omega) (by omega) | exact hM.reach _ (by omega) (by omega) | exact hM.arm _ (by omega) (by omega) | exact hM.late _ (by omega) (by omega) | exact hM.len _ (by omega) (by omega) | exact hM.corn _ (by omega) (by omega) | exact hM.say (by omega) (by omega) _ (by omega) (by omega) | exact hM.tone _ (by omega) (by omega)) (fun b48 => ?_)
            refine ew_iconst i169_51 ?_
            refine ew_iadd i169_52 ?_
            refine ev_putI i169_53 g169_53 rfl ?_
            refine ev_aloadn_0 i169_56 ?_
            refine ev_dup i169_57 rfl ?_
            refine ew_getI i169_58 g169_58 rfl (by first | exact hS.2.1 | exact hS.1.2.2.2.2.2 | exact hS.2.2.1 | exact hM.men | exact hM.told | exact hM.road | exact hM.stand _ (by omega) (by omega) | exact hM.reach _ (by omega) (by omega) | exact hM.arm _ (by omega) (by omega) | exact hM.late _ (by omega) (by omega) | exact hM.len _ (by omega) (by omega) | exact hM.corn _ (by omega) (by omega) | exact hM.say (by omega) (by omega) _ (by omega) (by omega) | exact hM.tone _ (by omega) (by omega)) (fun b58 => ?_)
            refine ew_iconst i169_61 ?_
            refine ew_iadd i169_62 ?_
            refine ev_putI i169_63 g169_63 rfl ?_
            refine ev_iloadn_1 i169_66 ?_
            refine ew_bipush i169_67 (by decide) ?_
            refine ew_icmpne i169_69 (by omega) (fun c69 => ?_) (fun c69 => ?_)
            · exfalso; omega
            · refine ev_aloadn_0 i169_72 ?_
              refine ev_virt0 i169_73 g169_73 rfl (by decide +kernel) (Nat.le_of_ble_eq_true rfl) (hc X (d + 8) _ L sw _ N b tc hE ((hS.sOp (q := o + 1) (by omega)).sAt (by omega)) (fun M g1 g2 => ?_))
              refine ev_goto i169_76 ?_
              refine ev_istoren_2 i169_83 rfl ?_
              have hM : fr frw I M := fr_tr (fr_up (fr_up (fr_rfl _ _) ⟨rfl, by decide, by decide⟩) ⟨rfl, by decide, by decide⟩) g1
              refine ev_iloadn_1 i169_84 ?_
              refine ew_bipush i169_85 (by decide) ?_
              refine ew_icmpne i169_87 (by omega) (fun c87 => ?_) (fun c87 => ?_)
              · exfalso; omega
              · refine ev_aloadn_0 i169_90 ?_
                refine ew_bipush i169_91 (by decide) ?_
                refine ev_virt1 i169_93 g169_93 rfl (by decide +kernel) (Nat.le_of_ble_eq_true rfl) (m_takes g2 q0 (by omega) (fun M2 g3 g4 g5 => ?_))
                first
                | refine ew_ifneB i169_96 (fun c96 => ?_) (fun c96 => ?_)
                | refine ew_ifne i169_96 (by omega) (fun c96 => ?_) (fun c96 => ?_)
                · refine ev_aloadn_0 i169_104 ?_
                  refine ev_dup i169_105 rfl ?_
                  refine ew_getI i169_106 g169_106 rfl (by first | exact (g4 c96).2.2.1 | exact hM.men | exact hM.told | exact hM.road | exact hM.stand _ (by omega) (by omega) | exact hM.reach _ (by omega) (by omega) | exact hM.arm _ (by omega) (by omega) | exact hM.late _ (by omega) (by omega) | exact hM.len _ (by omega) (by omega) | exact hM.corn _ (by omega) (by omega) | exact hM.say (by omega) (by omega) _ (by omega) (by omega) | exact hM.tone _ (by omega) (by omega)) (fun b106 => ?_)
                  refine ew_iconst i169_109 ?_
                  refine ew_isub i169_110 ?_
                  rw [show o + 1 - 1 = o by omega]
                  refine ev_putI i169_111 g169_111 rfl ?_
                  refine ev_iloadn_1 i169_114 ?_
                  refine ew_bipush i169_115 (by decide) ?_
                  refine ew_icmpne i169_117 (by omega) (fun c117 => ?_) (fun c117 => ?_)
                  · exfalso; omega
                  · refine ev_iloadn_2 i169_120 ?_
                    refine ev_goto i169_121 ?_
                    refine ev_ireturn i169_144 r169 ?_
                    exact hK1 c96 _ (fr_up (fr_tr hM g3) ⟨rfl, by decide, by decide⟩) ((g4 c96).sOp (by omega))
                · refine ev_aloadn_0 i169_99 ?_
                  refine ev_virt0 i169_100 g169_100 rfl (by decide +kernel) (Nat.le_of_ble_eq_true rfl) (m_wrong (g5 c96) (fun M3 g6 g7 => ?_))
                  refine ev_ireturn i169_103 r169 ?_
                  exact hK0 c96 M3 0 (fr_tr (fr_tr hM g3) g6) g7 (by decide)
          · exfalso; omega
  · exfalso; omega
theorem O_parF (hd : 8 ≤ d) (hE : E ≤ d) (hS : SM I b tc n tx p o N) (p0 : 0 ≤ p) (ho : 0 ≤ o ∧ o < 6) (h1 : t_nx n tx p = 40) (hc : CMf E cm0 n tx (p + 1) (o + 1) q) (hK0 : ∀ J r, fr frw I J → FM J b tc n tx q → -2147483648 ≤ r ∧ r ≤ 2147483647 → K (some (.int (zI (r)))) (J, L, ts_P0 sw, ts_S0)) : cm5 X (d + 1) I L sw K := by
  obtain ⟨d, rfl⟩ : ∃ d', d = d' + 8 := ⟨d - 8, by omega⟩
  have b1 := hS.1.1
  have r0 := hS.1.nx_r p0
  have lt := t_nx_lt (n := n) (tx := tx) (p := p) (by omega)
  refine ev_enter (lv := [.ref 72, .null, .null, .null, .null]) l169 rfl (Nat.le_of_ble_eq_true rfl) ?_
  refine ev_aloadn_0 i169_0 ?_
  refine ew_getI i169_1 g169_1 rfl (by first | exact hS.2.1 | exact hS.1.2.2.2.2.2 | exact hS.2.2.1 | exact hM.men | exact hM.told | exact hM.road | exact hM.stand _ (by omega) (by omega) | exact hM.reach _ (by omega) (by omega) | exact hM.arm _ (by omega) (by omega) | exact hM.late _ (by omega) (by omega) | exact hM.len _ (by omega) (by omega) | exact hM.corn _ (by omega) (by omega) | exact hM.say (by omega) (by omega) _ (by omega) (by omega) | exact hM.tone _ (by omega) (by omega)) (fun b1 => ?_)
  refine ew_iflt i169_4 (by omega) (fun c4 => ?_) (fun c4 => ?_)
  · refine ev_aloadn_0 i169_9 ?_
    refine ev_virt0 i169_10 g169_10 rfl (by decide +kernel) (Nat.le_of_ble_eq_true rfl) (m_byteAt hS.1 p0 ?_)
    refine ev_istoren_1 i169_13 rfl ?_
    refine ev_iloadn_1 i169_14 ?_
    refine ew_bipush i169_15 (by decide) ?_
    refine ew_icmpeq i169_17 (by omega) (fun c17 => ?_) (fun c17 => ?_)
    · refine ev_aloadn_0 i169_32 ?_
      refine ew_getI i169_33 g169_33 rfl (by first | exact hS.2.1 | exact hS.1.2.2.2.2.2 | exact hS.2.2.1 | exact hM.men | exact hM.told | exact hM.road | exact hM.stand _ (by omega) (by omega) | exact hM.reach _ (by omega) (by omega) | exact hM.arm _ (by omega) (by omega) | exact hM.late _ (by omega) (by omega) | exact hM.len _ (by omega) (by omega) | exact hM.corn _ (by omega) (by omega) | exact hM.say (by omega) (by omega) _ (by omega) (by omega) | exact hM.tone _ (by omega) (by omega)) (fun b33 => ?_)
      refine ew_bipush i169_36 (by decide) ?_
      refine ew_icmpne i169_38 (by omega) (fun c38 => ?_) (fun c38 => ?_)
      · refine ev_aloadn_0 i169_46 ?_
        refine ev_dup i169_47 rfl ?_
        refine ew_getI i169_48 g169_48 rfl (by first | exact hS.2.1 | exact hS.1.2.2.2.2.2 | exact hS.2.2.1 | exact hM.men | exact hM.told | exact hM.road | exact hM.stand _ (by omega) (by omega) | exact hM.reach _ (by omega) (by omega) | exact hM.arm _ (by omega) (by omega) | exact hM.late _ (by omega) (by omega) | exact hM.len _ (by omega) (by omega) | exact hM.corn _ (by omega) (by omega) | exact hM.say (by omega) (by omega) _ (by omega) (by omega) | exact hM.tone _ (by omega) (by omega)) (fun b48 => ?_)
        refine ew_iconst i169_51 ?_
        refine ew_iadd i169_52 ?_
        refine ev_putI i169_53 g169_53 rfl ?_
        refine ev_aloadn_0 i169_56 ?_
        refine ev_dup i169_57 rfl ?_
        refine ew_getI i169_58 g169_58 rfl (by first | exact hS.2.1 | exact hS.1.2.2.2.2.2 | exact hS.2.2.1 | exact hM.men | exact hM.told | exact hM.road | exact hM.stand _ (by omega) (by omega) | exact hM.reach _ (by omega) (by omega) | exact hM.arm _ (by omega) (by omega) | exact hM.late _ (by omega) (by omega) | exact hM.len _ (by omega) (by omega) | exact hM.corn _ (by omega) (by omega) | exact hM.say (by omega) (by omega) _ (by omega) (by omega) | exact hM.tone _ (by omega) (by omega)) (fun b58 => ?_)
        refine ew_iconst i169_61 ?_
        refine ew_iadd i169_62 ?_
        refine ev_putI i169_63 g169_63 rfl ?_
        refine ev_iloadn_1 i169_66 ?_
        refine ew_bipush i169_67 (by decide) ?_
        refine ew_icmpne i169_69 (by omega) (fun c69 => ?_) (fun c69 => ?_)
        · exfalso; omega
        · refine ev_aloadn_0 i169_72 ?_
          refine ev_virt0 i169_73 g169_73 rfl (by decide +kernel) (Nat.le_of_ble_eq_true rfl) (hc X (d + 8) _ L sw _ N b tc hE ((hS.sOp (q := o + 1) (by omega)).sAt (by omega)) (fun M r g1 g2 g3 => ?_))
          refine ev_goto i169_76 ?_
          refine ev_istoren_2 i169_83 rfl ?_
          have hM : fr frw I M := fr_tr (fr_up (fr_up (fr_rfl _ _) ⟨rfl, by decide, by decide⟩) ⟨rfl, by decide, by decide⟩) g1
          refine ev_iloadn_1 i169_84 ?_
          refine ew_bipush i169_85 (by decide) ?_
          refine ew_icmpne i169_87 (by omega) (fun c87 => ?_) (fun c87 => ?_)
          · exfalso; omega
          · refine ev_aloadn_0 i169_90 ?_
            refine ew_bipush i169_91 (by decide) ?_
            refine ev_virt1 i169_93 g169_93 rfl (by decide +kernel) (Nat.le_of_ble_eq_true rfl) (m_takesF g2 (by omega) ?_)
            first
            | refine ew_ifneB i169_96 (fun c96 => ?_) (fun c96 => ?_)
            | refine ew_ifne i169_96 (by omega) (fun c96 => ?_) (fun c96 => ?_)
            · exfalso; omega
            · refine ev_aloadn_0 i169_99 ?_
              refine ev_virt0 i169_100 g169_100 rfl (by decide +kernel) (Nat.le_of_ble_eq_true rfl) (m_wrongF g2 (fun M3 g6 g7 => ?_))
              refine ev_ireturn i169_103 r169 ?_
              exact hK0 M3 0 (fr_tr hM g6) g7 (by decide)
      · exfalso; omega
    · refine ev_iloadn_1 i169_20 ?_
      refine ew_bipush i169_21 (by decide) ?_
      refine ew_icmpeq i169_23 (by omega) (fun c23 => ?_) (fun c23 => ?_)
      · refine ev_aloadn_0 i169_32 ?_
        refine ew_getI i169_33 g169_33 rfl (by first | exact hS.2.1 | exact hS.1.2.2.2.2.2 | exact hS.2.2.1 | exact hM.men | exact hM.told | exact hM.road | exact hM.stand _ (by omega) (by omega) | exact hM.reach _ (by omega) (by omega) | exact hM.arm _ (by omega) (by omega) | exact hM.late _ (by omega) (by omega) | exact hM.len _ (by omega) (by omega) | exact hM.corn _ (by omega) (by omega) | exact hM.say (by omega) (by omega) _ (by omega) (by omega) | exact hM.tone _ (by omega) (by omega)) (fun b33 => ?_)
        refine ew_bipush i169_36 (by decide) ?_
        refine ew_icmpne i169_38 (by omega) (fun c38 => ?_) (fun c38 => ?_)
        · refine ev_aloadn_0 i169_46 ?_
          refine ev_dup i169_47 rfl ?_
          refine ew_getI i169_48 g169_48 rfl (by first | exact hS.2.1 | exact hS.1.2.2.2.2.2 | exact hS.2.2.1 | exact hM.men | exact hM.told | exact hM.road | exact hM.stand _ (by omega) (by omega) | exact hM.reach _ (by omega) (by omega) | exact hM.arm _ (by omega) (by omega) | exact hM.late _ (by omega) (by omega) | exact hM.len _ (by omega) (by omega) | exact hM.corn _ (by omega) (by omega) | exact hM.say (by omega) (by omega) _ (by omega) (by omega) | exact hM.tone _ (by omega) (by omega)) (fun b48 => ?_)
          refine ew_iconst i169_51 ?_
          refine ew_iadd i169_52 ?_
          refine ev_putI i169_53 g169_53 rfl ?_
          refine ev_aloadn_0 i169_56 ?_
          refine ev_dup i169_57 rfl ?_
          refine ew_getI i169_58 g169_58 rfl (by first | exact hS.2.1 | exact hS.1.2.2.2.2.2 | exact hS.2.2.1 | exact hM.men | exact hM.told | exact hM.road | exact hM.stand _ (by omega) (by omega) | exact hM.reach _ (by omega) (by omega) | exact hM.arm _ (by omega) (by omega) | exact hM.late _ (by omega) (by omega) | exact hM.len _ (by omega) (by omega) | exact hM.corn _ (by omega) (by omega) | exact hM.say (by omega) (by omega) _ (by omega) (by omega) | exact hM.tone _ (by omega) (by omega)) (fun b58 => ?_)
          refine ew_iconst i169_61 ?_
          refine ew_iadd i169_62 ?_
          refine ev_putI i169_63 g169_63 rfl ?_
          refine ev_iloadn_1 i169_66 ?_
          refine ew_bipush i169_67 (by decide) ?_
          refine ew_icmpne i169_69 (by omega) (fun c69 => ?_) (fun c69 => ?_)
          · exfalso; omega
          · refine ev_aloadn_0 i169_72 ?_
            refine ev_virt0 i169_73 g169_73 rfl (by decide +kernel) (Nat.le_of_ble_eq_true rfl) (hc X (d + 8) _ L sw _ N b tc hE ((hS.sOp (q := o + 1) (by omega)).sAt (by omega)) (fun M r g1 g2 g3 => ?_))
            refine ev_goto i169_76 ?_
            refine ev_istoren_2 i169_83 rfl ?_
            have hM : fr frw I M := fr_tr (fr_up (fr_up (fr_rfl _ _) ⟨rfl, by decide, by decide⟩) ⟨rfl, by decide, by decide⟩) g1
            refine ev_iloadn_1 i169_84 ?_
            refine ew_bipush i169_85 (by decide) ?_
            refine ew_icmpne i169_87 (by omega) (fun c87 => ?_) (fun c87 => ?_)
            · exfalso; omega
            · refine ev_aloadn_0 i169_90 ?_
              refine ew_bipush i169_91 (by decide) ?_
              refine ev_virt1 i169_93 g169_93 rfl (by decide +kernel) (Nat.le_of_ble_eq_true rfl) (m_takesF g2 (by omega) ?_)
              first
              | refine ew_ifneB i169_96 (fun c96 => ?_) (fun c96 => ?_)
              | refine ew_ifne i169_96 (by omega) (fun c96 => ?_) (fun c96 => ?_)
              · exfalso; omega
              · refine ev_aloadn_0 i169_99 ?_
                refine ev_virt0 i169_100 g169_100 rfl (by decide +kernel) (Nat.le_of_ble_eq_true rfl) (m_wrongF g2 (fun M3 g6 g7 => ?_))
                refine ev_ireturn i169_103 r169 ?_
                exact hK0 M3 0 (fr_tr hM g6) g7 (by decide)
        · exfalso; omega
      · refine ev_iloadn_1 i169_26 ?_
        refine ew_bipush i169_27 (by decide) ?_
        refine ew_icmpne i169_29 (by omega) (fun c29 => ?_) (fun c29 => ?_)
        · exfalso; omega
        · refine ev_aloadn_0 i169_32 ?_
          refine ew_getI i169_33 g169_33 rfl (by first | exact hS.2.1 | exact hS.1.2.2.2.2.2 | exact hS.2.2.1 | exact hM.men | exact hM.told | exact hM.road | exact hM.stand _ (by omega) (by omega) | exact hM.reach _ (by omega) (by omega) | exact hM.arm _ (by omega) (by omega) | exact hM.late _ (by omega) (by omega) | exact hM.len _ (by omega) (by omega) | exact hM.corn _ (by omega) (by omega) | exact hM.say (by omega) (by omega) _ (by omega) (by omega) | exact hM.tone _ (by omega) (by omega)) (fun b33 => ?_)
          refine ew_bipush i169_36 (by decide) ?_
          refine ew_icmpne i169_38 (by omega) (fun c38 => ?_) (fun c38 => ?_)
          · refine ev_aloadn_0 i169_46 ?_
            refine ev_dup i169_47 rfl ?_
            refine ew_getI i169_48 g169_48 rfl (by first | exact hS.2.1 | exact hS.1.2.2.2.2.2 | exact hS.2.2.1 | exact hM.men | exact hM.told | exact hM.road | exact hM.stand _ (by omega) (by omega) | exact hM.reach _ (by omega) (by omega) | exact hM.arm _ (by omega) (by omega) | exact hM.late _ (by omega) (by omega) | exact hM.len _ (by omega) (by omega) | exact hM.corn _ (by omega) (by omega) | exact hM.say (by omega) (by omega) _ (by omega) (by omega) | exact hM.tone _ (by omega) (by omega)) (fun b48 => ?_)
            refine ew_iconst i169_51 ?_
            refine ew_iadd i169_52 ?_
            refine ev_putI i169_53 g169_53 rfl ?_
            refine ev_aloadn_0 i169_56 ?_
            refine ev_dup i169_57 rfl ?_
            refine ew_getI i169_58 g169_58 rfl (by first | exact hS.2.1 | exact hS.1.2.2.2.2.2 | exact hS.2.2.1 | exact hM.men | exact hM.told | exact hM.road | exact hM.stand _ (by omega) (by omega) | exact hM.reach _ (by omega) (by omega) | exact hM.arm _ (by omega) (by omega) | exact hM.late _ (by omega) (by omega) | exact hM.len _ (by omega) (by omega) | exact hM.corn _ (by omega) (by omega) | exact hM.say (by omega) (by omega) _ (by omega) (by omega) | exact hM.tone _ (by omega) (by omega)) (fun b58 => ?_)
            refine ew_iconst i169_61 ?_
            refine ew_iadd i169_62 ?_
            refine ev_putI i169_63 g169_63 rfl ?_
            refine ev_iloadn_1 i169_66 ?_
            refine ew_bipush i169_67 (by decide) ?_
            refine ew_icmpne i169_69 (by omega) (fun c69 => ?_) (fun c69 => ?_)
            · exfalso; omega
            · refine ev_aloadn_0 i169_72 ?_
              refine ev_virt0 i169_73 g169_73 rfl (by decide +kernel) (Nat.le_of_ble_eq_true rfl) (hc X (d + 8) _ L sw _ N b tc hE ((hS.sOp (q := o + 1) (by omega)).sAt (by omega)) (fun M r g1 g2 g3 => ?_))
              refine ev_goto i169_76 ?_
              refine ev_istoren_2 i169_83 rfl ?_
              have hM : fr frw I M := fr_tr (fr_up (fr_up (fr_rfl _ _) ⟨rfl, by decide, by decide⟩) ⟨rfl, by decide, by decide⟩) g1
              refine ev_iloadn_1 i169_84 ?_
              refine ew_bipush i169_85 (by decide) ?_
              refine ew_icmpne i169_87 (by omega) (fun c87 => ?_) (fun c87 => ?_)
              · exfalso; omega
              · refine ev_aloadn_0 i169_90 ?_
                refine ew_bipush i169_91 (by decide) ?_
                refine ev_virt1 i169_93 g169_93 rfl (by decide +kernel) (Nat.le_of_ble_eq_true rfl) (m_takesF g2 (by omega) ?_)
                first
                | refine ew_ifneB i169_96 (fun c96 => ?_) (fun c96 => ?_)
                | refine ew_ifne i169_96 (by omega) (fun c96 => ?_) (fun c96 => ?_)
                · exfalso; omega
                · refine ev_aloadn_0 i169_99 ?_
                  refine ev_virt0 i169_100 g169_100 rfl (by decide +kernel) (Nat.le_of_ble_eq_true rfl) (m_wrongF g2 (fun M3 g6 g7 => ?_))
                  refine ev_ireturn i169_103 r169 ?_
                  exact hK0 M3 0 (fr_tr hM g6) g7 (by decide)
          · exfalso; omega
  · exfalso; omega
theorem O_un (hd : 8 ≤ d) (hE : E ≤ d) (hS : SM I b tc n tx p o N) (p0 : 0 ≤ p) (ho : 0 ≤ o ∧ o < 6) (h1 : t_nx n tx p = 33 ∨ t_nx n tx p = 45) (hc : CMs E cm5 n tx (p + 1) (o + 1) q w) (hw : -2147483648 ≤ w N ∧ w N ≤ 2147483647) (hK1 : ∀ J, fr frw I J → SM J b tc n tx q o N → K (some (.int (zI (ng (if t_nx n tx p = 33 then 4 else 5) (w N))))) (J, L, ts_P0 sw, ts_S0)) : cm5 X (d + 1) I L sw K := by
  obtain ⟨d, rfl⟩ : ∃ d', d = d' + 8 := ⟨d - 8, by omega⟩
  have b1 := hS.1.1
  have r0 := hS.1.nx_r p0
  have lt := t_nx_lt (n := n) (tx := tx) (p := p) (by omega)
  refine ev_enter (lv := [.ref 72, .null, .null, .null, .null]) l169 rfl (Nat.le_of_ble_eq_true rfl) ?_
  refine ev_aloadn_0 i169_0 ?_
  refine ew_getI i169_1 g169_1 rfl (by first | exact hS.2.1 | exact hS.1.2.2.2.2.2 | exact hS.2.2.1 | exact hM.men | exact hM.told | exact hM.road | exact hM.stand _ (by omega) (by omega) | exact hM.reach _ (by omega) (by omega) | exact hM.arm _ (by omega) (by omega) | exact hM.late _ (by omega) (by omega) | exact hM.len _ (by omega) (by omega) | exact hM.corn _ (by omega) (by omega) | exact hM.say (by omega) (by omega) _ (by omega) (by omega) | exact hM.tone _ (by omega) (by omega)) (fun b1 => ?_)
  refine ew_iflt i169_4 (by omega) (fun c4 => ?_) (fun c4 => ?_)
  · refine ev_aloadn_0 i169_9 ?_
    refine ev_virt0 i169_10 g169_10 rfl (by decide +kernel) (Nat.le_of_ble_eq_true rfl) (m_byteAt hS.1 p0 ?_)
    refine ev_istoren_1 i169_13 rfl ?_
    refine ev_iloadn_1 i169_14 ?_
    refine ew_bipush i169_15 (by decide) ?_
    refine ew_icmpeq i169_17 (by omega) (fun c17 => ?_) (fun c17 => ?_)
    · refine ev_aloadn_0 i169_32 ?_
      refine ew_getI i169_33 g169_33 rfl (by first | exact hS.2.1 | exact hS.1.2.2.2.2.2 | exact hS.2.2.1 | exact hM.men | exact hM.told | exact hM.road | exact hM.stand _ (by omega) (by omega) | exact hM.reach _ (by omega) (by omega) | exact hM.arm _ (by omega) (by omega) | exact hM.late _ (by omega) (by omega) | exact hM.len _ (by omega) (by omega) | exact hM.corn _ (by omega) (by omega) | exact hM.say (by omega) (by omega) _ (by omega) (by omega) | exact hM.tone _ (by omega) (by omega)) (fun b33 => ?_)
      refine ew_bipush i169_36 (by decide) ?_
      refine ew_icmpne i169_38 (by omega) (fun c38 => ?_) (fun c38 => ?_)
      · refine ev_aloadn_0 i169_46 ?_
        refine ev_dup i169_47 rfl ?_
        refine ew_getI i169_48 g169_48 rfl (by first | exact hS.2.1 | exact hS.1.2.2.2.2.2 | exact hS.2.2.1 | exact hM.men | exact hM.told | exact hM.road | exact hM.stand _ (by omega) (by omega) | exact hM.reach _ (by omega) (by omega) | exact hM.arm _ (by omega) (by omega) | exact hM.late _ (by omega) (by omega) | exact hM.len _ (by omega) (by omega) | exact hM.corn _ (by omega) (by omega) | exact hM.say (by omega) (by omega) _ (by omega) (by omega) | exact hM.tone _ (by omega) (by omega)) (fun b48 => ?_)
        refine ew_iconst i169_51 ?_
        refine ew_iadd i169_52 ?_
        refine ev_putI i169_53 g169_53 rfl ?_
        refine ev_aloadn_0 i169_56 ?_
        refine ev_dup i169_57 rfl ?_
        refine ew_getI i169_58 g169_58 rfl (by first | exact hS.2.1 | exact hS.1.2.2.2.2.2 | exact hS.2.2.1 | exact hM.men | exact hM.told | exact hM.road | exact hM.stand _ (by omega) (by omega) | exact hM.reach _ (by omega) (by omega) | exact hM.arm _ (by omega) (by omega) | exact hM.late _ (by omega) (by omega) | exact hM.len _ (by omega) (by omega) | exact hM.corn _ (by omega) (by omega) | exact hM.say (by omega) (by omega) _ (by omega) (by omega) | exact hM.tone _ (by omega) (by omega)) (fun b58 => ?_)
        refine ew_iconst i169_61 ?_
        refine ew_iadd i169_62 ?_
        refine ev_putI i169_63 g169_63 rfl ?_
        refine ev_iloadn_1 i169_66 ?_
        refine ew_bipush i169_67 (by decide) ?_
        refine ew_icmpne i169_69 (by omega) (fun c69 => ?_) (fun c69 => ?_)
        · refine ev_aloadn_0 i169_79 ?_
          refine ev_virt0 i169_80 g169_80 rfl (by decide +kernel) (Nat.le_of_ble_eq_true rfl) (hc X (d + 8) _ L sw _ N b tc hE ((hS.sOp (q := o + 1) (by omega)).sAt (by omega)) (fun M g1 g2 => ?_))
          refine ev_istoren_2 i169_83 rfl ?_
          have hM : fr frw I M := fr_tr (fr_up (fr_up (fr_rfl _ _) ⟨rfl, by decide, by decide⟩) ⟨rfl, by decide, by decide⟩) g1
          have e := hK1 _ (fr_up hM (show frw 72 17 from ⟨rfl, by decide, by decide⟩)) (g2.sOp (q := o) (by omega))
          refine ev_iloadn_1 i169_84 ?_
          refine ew_bipush i169_85 (by decide) ?_
          refine ew_icmpne i169_87 (by omega) (fun c87 => ?_) (fun c87 => ?_)
          · refine ev_aloadn_0 i169_104 ?_
            refine ev_dup i169_105 rfl ?_
            refine ew_getI i169_106 g169_106 rfl (g2.2.2.1) (fun b106 => ?_)
            refine ew_iconst i169_109 ?_
            refine ew_isub i169_110 ?_
            rw [show o + 1 - 1 = o by omega]
            refine ev_putI i169_111 g169_111 rfl ?_
            refine ev_iloadn_1 i169_114 ?_
            refine ew_bipush i169_115 (by decide) ?_
            refine ew_icmpne i169_117 (by omega) (fun c117 => ?_) (fun c117 => ?_)
            · refine ev_iloadn_1 i169_124 ?_
              refine ew_bipush i169_125 (by decide) ?_
              refine ew_icmpne i169_127 (by omega) (fun c127 => ?_) (fun c127 => ?_)
              · refine ev_iloadn_2 i169_135 ?_
                first
                | refine ew_ifneB i169_136 (fun c136 => ?_) (fun c136 => ?_)
                | refine ew_ifne i169_136 (by omega) (fun c136 => ?_) (fun c136 => ?_)
                · refine ew_iconst i169_143 ?_
                  refine ev_ireturn i169_144 r169 ?_
                  first
                  | (exfalso; omega)
                  | (rw [if_neg (by omega)] at e
                     have e5 : ng 5 (w N) = zw (-(w N)) := rfl
                     rw [e5, zI_zw] at e
                     exact e)
                  | (rw [if_pos (by omega)] at e
                     have e4 : ng 4 (w N) = if w N = 0 then 1 else 0 := rfl
                     rw [e4] at e
                     exact zK e (by omega))
                · refine ew_iconst i169_139 ?_
                  refine ev_goto i169_140 ?_
                  refine ev_ireturn i169_144 r169 ?_
                  first
                  | (exfalso; omega)
                  | (rw [if_neg (by omega)] at e
                     have e5 : ng 5 (w N) = zw (-(w N)) := rfl
                     rw [e5, zI_zw] at e
                     exact e)
                  | (rw [if_pos (by omega)] at e
                     have e4 : ng 4 (w N) = if w N = 0 then 1 else 0 := rfl
                     rw [e4] at e
                     exact zK e (by omega))
              · refine ev_iloadn_2 i169_130 ?_
                refine ew_ineg i169_131 ?_
                refine ev_goto i169_132 ?_
                refine ev_ireturn i169_144 r169 ?_
                first
                | (exfalso; omega)
                | (rw [if_neg (by omega)] at e
                   have e5 : ng 5 (w N) = zw (-(w N)) := rfl
                   rw [e5, zI_zw] at e
                   exact e)
                | (rw [if_pos (by omega)] at e
                   have e4 : ng 4 (w N) = if w N = 0 then 1 else 0 := rfl
                   rw [e4] at e
                   exact zK e (by omega))
            · exfalso; omega
          · exfalso; omega
        · exfalso; omega
      · exfalso; omega
    · refine ev_iloadn_1 i169_20 ?_
      refine ew_bipush i169_21 (by decide) ?_
      refine ew_icmpeq i169_23 (by omega) (fun c23 => ?_) (fun c23 => ?_)
      · refine ev_aloadn_0 i169_32 ?_
        refine ew_getI i169_33 g169_33 rfl (by first | exact hS.2.1 | exact hS.1.2.2.2.2.2 | exact hS.2.2.1 | exact hM.men | exact hM.told | exact hM.road | exact hM.stand _ (by omega) (by omega) | exact hM.reach _ (by omega) (by omega) | exact hM.arm _ (by omega) (by omega) | exact hM.late _ (by omega) (by omega) | exact hM.len _ (by omega) (by omega) | exact hM.corn _ (by omega) (by omega) | exact hM.say (by omega) (by omega) _ (by omega) (by omega) | exact hM.tone _ (by omega) (by omega)) (fun b33 => ?_)
        refine ew_bipush i169_36 (by decide) ?_
        refine ew_icmpne i169_38 (by omega) (fun c38 => ?_) (fun c38 => ?_)
        · refine ev_aloadn_0 i169_46 ?_
          refine ev_dup i169_47 rfl ?_
          refine ew_getI i169_48 g169_48 rfl (by first | exact hS.2.1 | exact hS.1.2.2.2.2.2 | exact hS.2.2.1 | exact hM.men | exact hM.told | exact hM.road | exact hM.stand _ (by omega) (by omega) | exact hM.reach _ (by omega) (by omega) | exact hM.arm _ (by omega) (by omega) | exact hM.late _ (by omega) (by omega) | exact hM.len _ (by omega) (by omega) | exact hM.corn _ (by omega) (by omega) | exact hM.say (by omega) (by omega) _ (by omega) (by omega) | exact hM.tone _ (by omega) (by omega)) (fun b48 => ?_)
          refine ew_iconst i169_51 ?_
          refine ew_iadd i169_52 ?_
          refine ev_putI i169_53 g169_53 rfl ?_
          refine ev_aloadn_0 i169_56 ?_
          refine ev_dup i169_57 rfl ?_
          refine ew_getI i169_58 g169_58 rfl (by first | exact hS.2.1 | exact hS.1.2.2.2.2.2 | exact hS.2.2.1 | exact hM.men | exact hM.told | exact hM.road | exact hM.stand _ (by omega) (by omega) | exact hM.reach _ (by omega) (by omega) | exact hM.arm _ (by omega) (by omega) | exact hM.late _ (by omega) (by omega) | exact hM.len _ (by omega) (by omega) | exact hM.corn _ (by omega) (by omega) | exact hM.say (by omega) (by omega) _ (by omega) (by omega) | exact hM.tone _ (by omega) (by omega)) (fun b58 => ?_)
          refine ew_iconst i169_61 ?_
          refine ew_iadd i169_62 ?_
          refine ev_putI i169_63 g169_63 rfl ?_
          refine ev_iloadn_1 i169_66 ?_
          refine ew_bipush i169_67 (by decide) ?_
          refine ew_icmpne i169_69 (by omega) (fun c69 => ?_) (fun c69 => ?_)
          · refine ev_aloadn_0 i169_79 ?_
            refine ev_virt0 i169_80 g169_80 rfl (by decide +kernel) (Nat.le_of_ble_eq_true rfl) (hc X (d + 8) _ L sw _ N b tc hE ((hS.sOp (q := o + 1) (by omega)).sAt (by omega)) (fun M g1 g2 => ?_))
            refine ev_istoren_2 i169_83 rfl ?_
            have hM : fr frw I M := fr_tr (fr_up (fr_up (fr_rfl _ _) ⟨rfl, by decide, by decide⟩) ⟨rfl, by decide, by decide⟩) g1
            have e := hK1 _ (fr_up hM (show frw 72 17 from ⟨rfl, by decide, by decide⟩)) (g2.sOp (q := o) (by omega))
            refine ev_iloadn_1 i169_84 ?_
            refine ew_bipush i169_85 (by decide) ?_
            refine ew_icmpne i169_87 (by omega) (fun c87 => ?_) (fun c87 => ?_)
            · refine ev_aloadn_0 i169_104 ?_
              refine ev_dup i169_105 rfl ?_
              refine ew_getI i169_106 g169_106 rfl (g2.2.2.1) (fun b106 => ?_)
              refine ew_iconst i169_109 ?_
              refine ew_isub i169_110 ?_
              rw [show o + 1 - 1 = o by omega]
              refine ev_putI i169_111 g169_111 rfl ?_
              refine ev_iloadn_1 i169_114 ?_
              refine ew_bipush i169_115 (by decide) ?_
              refine ew_icmpne i169_117 (by omega) (fun c117 => ?_) (fun c117 => ?_)
              · refine ev_iloadn_1 i169_124 ?_
                refine ew_bipush i169_125 (by decide) ?_
                refine ew_icmpne i169_127 (by omega) (fun c127 => ?_) (fun c127 => ?_)
                · refine ev_iloadn_2 i169_135 ?_
                  first
                  | refine ew_ifneB i169_136 (fun c136 => ?_) (fun c136 => ?_)
                  | refine ew_ifne i169_136 (by omega) (fun c136 => ?_) (fun c136 => ?_)
                  · refine ew_iconst i169_143 ?_
                    refine ev_ireturn i169_144 r169 ?_
                    first
                    | (exfalso; omega)
                    | (rw [if_neg (by omega)] at e
                       have e5 : ng 5 (w N) = zw (-(w N)) := rfl
                       rw [e5, zI_zw] at e
                       exact e)
                    | (rw [if_pos (by omega)] at e
                       have e4 : ng 4 (w N) = if w N = 0 then 1 else 0 := rfl
                       rw [e4] at e
                       exact zK e (by omega))
                  · refine ew_iconst i169_139 ?_
                    refine ev_goto i169_140 ?_
                    refine ev_ireturn i169_144 r169 ?_
                    first
                    | (exfalso; omega)
                    | (rw [if_neg (by omega)] at e
                       have e5 : ng 5 (w N) = zw (-(w N)) := rfl
                       rw [e5, zI_zw] at e
                       exact e)
                    | (rw [if_pos (by omega)] at e
                       have e4 : ng 4 (w N) = if w N = 0 then 1 else 0 := rfl
                       rw [e4] at e
                       exact zK e (by omega))
                · refine ev_iloadn_2 i169_130 ?_
                  refine ew_ineg i169_131 ?_
                  refine ev_goto i169_132 ?_
                  refine ev_ireturn i169_144 r169 ?_
                  first
                  | (exfalso; omega)
                  | (rw [if_neg (by omega)] at e
                     have e5 : ng 5 (w N) = zw (-(w N)) := rfl
                     rw [e5, zI_zw] at e
                     exact e)
                  | (rw [if_pos (by omega)] at e
                     have e4 : ng 4 (w N) = if w N = 0 then 1 else 0 := rfl
                     rw [e4] at e
                     exact zK e (by omega))
              · exfalso; omega
            · exfalso; omega
          · exfalso; omega
        · exfalso; omega
      · refine ev_iloadn_1 i169_26 ?_
        refine ew_bipush i169_27 (by decide) ?_
        refine ew_icmpne i169_29 (by omega) (fun c29 => ?_) (fun c29 => ?_)
        · exfalso; omega
        · refine ev_aloadn_0 i169_32 ?_
          refine ew_getI i169_33 g169_33 rfl (by first | exact hS.2.1 | exact hS.1.2.2.2.2.2 | exact hS.2.2.1 | exact hM.men | exact hM.told | exact hM.road | exact hM.stand _ (by omega) (by omega) | exact hM.reach _ (by omega) (by omega) | exact hM.arm _ (by omega) (by omega) | exact hM.late _ (by omega) (by omega) | exact hM.len _ (by omega) (by omega) | exact hM.corn _ (by omega) (by omega) | exact hM.say (by omega) (by omega) _ (by omega) (by omega) | exact hM.tone _ (by omega) (by omega)) (fun b33 => ?_)
          refine ew_bipush i169_36 (by decide) ?_
          refine ew_icmpne i169_38 (by omega) (fun c38 => ?_) (fun c38 => ?_)
          · refine ev_aloadn_0 i169_46 ?_
            refine ev_dup i169_47 rfl ?_
            refine ew_getI i169_48 g169_48 rfl (by first | exact hS.2.1 | exact hS.1.2.2.2.2.2 | exact hS.2.2.1 | exact hM.men | exact hM.told | exact hM.road | exact hM.stand _ (by omega) (by omega) | exact hM.reach _ (by omega) (by omega) | exact hM.arm _ (by omega) (by omega) | exact hM.late _ (by omega) (by omega) | exact hM.len _ (by omega) (by omega) | exact hM.corn _ (by omega) (by omega) | exact hM.say (by omega) (by omega) _ (by omega) (by omega) | exact hM.tone _ (by omega) (by omega)) (fun b48 => ?_)
            refine ew_iconst i169_51 ?_
            refine ew_iadd i169_52 ?_
            refine ev_putI i169_53 g169_53 rfl ?_
            refine ev_aloadn_0 i169_56 ?_
            refine ev_dup i169_57 rfl ?_
            refine ew_getI i169_58 g169_58 rfl (by first | exact hS.2.1 | exact hS.1.2.2.2.2.2 | exact hS.2.2.1 | exact hM.men | exact hM.told | exact hM.road | exact hM.stand _ (by omega) (by omega) | exact hM.reach _ (by omega) (by omega) | exact hM.arm _ (by omega) (by omega) | exact hM.late _ (by omega) (by omega) | exact hM.len _ (by omega) (by omega) | exact hM.corn _ (by omega) (by omega) | exact hM.say (by omega) (by omega) _ (by omega) (by omega) | exact hM.tone _ (by omega) (by omega)) (fun b58 => ?_)
            refine ew_iconst i169_61 ?_
            refine ew_iadd i169_62 ?_
            refine ev_putI i169_63 g169_63 rfl ?_
            refine ev_iloadn_1 i169_66 ?_
            refine ew_bipush i169_67 (by decide) ?_
            refine ew_icmpne i169_69 (by omega) (fun c69 => ?_) (fun c69 => ?_)
            · refine ev_aloadn_0 i169_79 ?_
              refine ev_virt0 i169_80 g169_80 rfl (by decide +kernel) (Nat.le_of_ble_eq_true rfl) (hc X (d + 8) _ L sw _ N b tc hE ((hS.sOp (q := o + 1) (by omega)).sAt (by omega)) (fun M g1 g2 => ?_))
              refine ev_istoren_2 i169_83 rfl ?_
              have hM : fr frw I M := fr_tr (fr_up (fr_up (fr_rfl _ _) ⟨rfl, by decide, by decide⟩) ⟨rfl, by decide, by decide⟩) g1
              have e := hK1 _ (fr_up hM (show frw 72 17 from ⟨rfl, by decide, by decide⟩)) (g2.sOp (q := o) (by omega))
              refine ev_iloadn_1 i169_84 ?_
              refine ew_bipush i169_85 (by decide) ?_
              refine ew_icmpne i169_87 (by omega) (fun c87 => ?_) (fun c87 => ?_)
              · refine ev_aloadn_0 i169_104 ?_
                refine ev_dup i169_105 rfl ?_
                refine ew_getI i169_106 g169_106 rfl (g2.2.2.1) (fun b106 => ?_)
                refine ew_iconst i169_109 ?_
                refine ew_isub i169_110 ?_
                rw [show o + 1 - 1 = o by omega]
                refine ev_putI i169_111 g169_111 rfl ?_
                refine ev_iloadn_1 i169_114 ?_
                refine ew_bipush i169_115 (by decide) ?_
                refine ew_icmpne i169_117 (by omega) (fun c117 => ?_) (fun c117 => ?_)
                · refine ev_iloadn_1 i169_124 ?_
                  refine ew_bipush i169_125 (by decide) ?_
                  refine ew_icmpne i169_127 (by omega) (fun c127 => ?_) (fun c127 => ?_)
                  · refine ev_iloadn_2 i169_135 ?_
                    first
                    | refine ew_ifneB i169_136 (fun c136 => ?_) (fun c136 => ?_)
                    | refine ew_ifne i169_136 (by omega) (fun c136 => ?_) (fun c136 => ?_)
                    · refine ew_iconst i169_143 ?_
                      refine ev_ireturn i169_144 r169 ?_
                      first
                      | (exfalso; omega)
                      | (rw [if_neg (by omega)] at e
                         have e5 : ng 5 (w N) = zw (-(w N)) := rfl
                         rw [e5, zI_zw] at e
                         exact e)
                      | (rw [if_pos (by omega)] at e
                         have e4 : ng 4 (w N) = if w N = 0 then 1 else 0 := rfl
                         rw [e4] at e
                         exact zK e (by omega))
                    · refine ew_iconst i169_139 ?_
                      refine ev_goto i169_140 ?_
                      refine ev_ireturn i169_144 r169 ?_
                      first
                      | (exfalso; omega)
                      | (rw [if_neg (by omega)] at e
                         have e5 : ng 5 (w N) = zw (-(w N)) := rfl
                         rw [e5, zI_zw] at e
                         exact e)
                      | (rw [if_pos (by omega)] at e
                         have e4 : ng 4 (w N) = if w N = 0 then 1 else 0 := rfl
                         rw [e4] at e
                         exact zK e (by omega))
                  · refine ev_iloadn_2 i169_130 ?_
                    refine ew_ineg i169_131 ?_
                    refine ev_goto i169_132 ?_
                    refine ev_ireturn i169_144 r169 ?_
                    first
                    | (exfalso; omega)
                    | (rw [if_neg (by omega)] at e
                       have e5 : ng 5 (w N) = zw (-(w N)) := rfl
                       rw [e5, zI_zw] at e
                       exact e)
                    | (rw [if_pos (by omega)] at e
                       have e4 : ng 4 (w N) = if w N = 0 then 1 else 0 := rfl
                       rw [e4] at e
                       exact zK e (by omega))
                · exfalso; omega
              · exfalso; omega
            · exfalso; omega
          · exfalso; omega
  · exfalso; omega
theorem O_unF (hd : 8 ≤ d) (hE : E ≤ d) (hS : SM I b tc n tx p o N) (p0 : 0 ≤ p) (ho : 0 ≤ o ∧ o < 6) (h1 : t_nx n tx p = 33 ∨ t_nx n tx p = 45) (hc : CMf E cm5 n tx (p + 1) (o + 1) q) (hK0 : ∀ J r, fr frw I J → FM J b tc n tx q → -2147483648 ≤ r ∧ r ≤ 2147483647 → K (some (.int (zI (r)))) (J, L, ts_P0 sw, ts_S0)) : cm5 X (d + 1) I L sw K := by
  obtain ⟨d, rfl⟩ : ∃ d', d = d' + 8 := ⟨d - 8, by omega⟩
  have b1 := hS.1.1
  have r0 := hS.1.nx_r p0
  have lt := t_nx_lt (n := n) (tx := tx) (p := p) (by omega)
  refine ev_enter (lv := [.ref 72, .null, .null, .null, .null]) l169 rfl (Nat.le_of_ble_eq_true rfl) ?_
  refine ev_aloadn_0 i169_0 ?_
  refine ew_getI i169_1 g169_1 rfl (by first | exact hS.2.1 | exact hS.1.2.2.2.2.2 | exact hS.2.2.1 | exact hM.men | exact hM.told | exact hM.road | exact hM.stand _ (by omega) (by omega) | exact hM.reach _ (by omega) (by omega) | exact hM.arm _ (by omega) (by omega) | exact hM.late _ (by omega) (by omega) | exact hM.len _ (by omega) (by omega) | exact hM.corn _ (by omega) (by omega) | exact hM.say (by omega) (by omega) _ (by omega) (by omega) | exact hM.tone _ (by omega) (by omega)) (fun b1 => ?_)
  refine ew_iflt i169_4 (by omega) (fun c4 => ?_) (fun c4 => ?_)
  · refine ev_aloadn_0 i169_9 ?_
    refine ev_virt0 i169_10 g169_10 rfl (by decide +kernel) (Nat.le_of_ble_eq_true rfl) (m_byteAt hS.1 p0 ?_)
    refine ev_istoren_1 i169_13 rfl ?_
    refine ev_iloadn_1 i169_14 ?_
    refine ew_bipush i169_15 (by decide) ?_
    refine ew_icmpeq i169_17 (by omega) (fun c17 => ?_) (fun c17 => ?_)
    · refine ev_aloadn_0 i169_32 ?_
      refine ew_getI i169_33 g169_33 rfl (by first | exact hS.2.1 | exact hS.1.2.2.2.2.2 | exact hS.2.2.1 | exact hM.men | exact hM.told | exact hM.road | exact hM.stand _ (by omega) (by omega) | exact hM.reach _ (by omega) (by omega) | exact hM.arm _ (by omega) (by omega) | exact hM.late _ (by omega) (by omega) | exact hM.len _ (by omega) (by omega) | exact hM.corn _ (by omega) (by omega) | exact hM.say (by omega) (by omega) _ (by omega) (by omega) | exact hM.tone _ (by omega) (by omega)) (fun b33 => ?_)
      refine ew_bipush i169_36 (by decide) ?_
      refine ew_icmpne i169_38 (by omega) (fun c38 => ?_) (fun c38 => ?_)
      · refine ev_aloadn_0 i169_46 ?_
        refine ev_dup i169_47 rfl ?_
        refine ew_getI i169_48 g169_48 rfl (by first | exact hS.2.1 | exact hS.1.2.2.2.2.2 | exact hS.2.2.1 | exact hM.men | exact hM.told | exact hM.road | exact hM.stand _ (by omega) (by omega) | exact hM.reach _ (by omega) (by omega) | exact hM.arm _ (by omega) (by omega) | exact hM.late _ (by omega) (by omega) | exact hM.len _ (by omega) (by omega) | exact hM.corn _ (by omega) (by omega) | exact hM.say (by omega) (by omega) _ (by omega) (by omega) | exact hM.tone _ (by omega) (by omega)) (fun b48 => ?_)
        refine ew_iconst i169_51 ?_
        refine ew_iadd i169_52 ?_
        refine ev_putI i169_53 g169_53 rfl ?_
        refine ev_aloadn_0 i169_56 ?_
        refine ev_dup i169_57 rfl ?_
        refine ew_getI i169_58 g169_58 rfl (by first | exact hS.2.1 | exact hS.1.2.2.2.2.2 | exact hS.2.2.1 | exact hM.men | exact hM.told | exact hM.road | exact hM.stand _ (by omega) (by omega) | exact hM.reach _ (by omega) (by omega) | exact hM.arm _ (by omega) (by omega) | exact hM.late _ (by omega) (by omega) | exact hM.len _ (by omega) (by omega) | exact hM.corn _ (by omega) (by omega) | exact hM.say (by omega) (by omega) _ (by omega) (by omega) | exact hM.tone _ (by omega) (by omega)) (fun b58 => ?_)
        refine ew_iconst i169_61 ?_
        refine ew_iadd i169_62 ?_
        refine ev_putI i169_63 g169_63 rfl ?_
        refine ev_iloadn_1 i169_66 ?_
        refine ew_bipush i169_67 (by decide) ?_
        refine ew_icmpne i169_69 (by omega) (fun c69 => ?_) (fun c69 => ?_)
        · refine ev_aloadn_0 i169_79 ?_
          refine ev_virt0 i169_80 g169_80 rfl (by decide +kernel) (Nat.le_of_ble_eq_true rfl) (hc X (d + 8) _ L sw _ N b tc hE ((hS.sOp (q := o + 1) (by omega)).sAt (by omega)) (fun M r g1 g2 g3 => ?_))
          refine ev_istoren_2 i169_83 rfl ?_
          have hM : fr frw I M := fr_tr (fr_up (fr_up (fr_rfl _ _) ⟨rfl, by decide, by decide⟩) ⟨rfl, by decide, by decide⟩) g1
          refine ev_iloadn_1 i169_84 ?_
          refine ew_bipush i169_85 (by decide) ?_
          refine ew_icmpne i169_87 (by omega) (fun c87 => ?_) (fun c87 => ?_)
          · refine ev_aloadn_0 i169_104 ?_
            refine ev_dup i169_105 rfl ?_
            refine ew_getI i169_106 g169_106 rfl ((rd_any _)) (fun b106 => ?_)
            refine ew_iconst i169_109 ?_
            refine ew_isub i169_110 ?_
            refine ev_putI i169_111 g169_111 rfl ?_
            refine ev_iloadn_1 i169_114 ?_
            refine ew_bipush i169_115 (by decide) ?_
            refine ew_icmpne i169_117 (by omega) (fun c117 => ?_) (fun c117 => ?_)
            · refine ev_iloadn_1 i169_124 ?_
              refine ew_bipush i169_125 (by decide) ?_
              refine ew_icmpne i169_127 (by omega) (fun c127 => ?_) (fun c127 => ?_)
              · refine ev_iloadn_2 i169_135 ?_
                first
                | refine ew_ifneB i169_136 (fun c136 => ?_) (fun c136 => ?_)
                | refine ew_ifne i169_136 (by omega) (fun c136 => ?_) (fun c136 => ?_)
                · refine ew_iconst i169_143 ?_
                  refine ev_ireturn i169_144 r169 ?_
                  rw [← zI_zw]
                  exact hK0 _ _ (fr_up hM (show frw 72 17 from ⟨rfl, by decide, by decide⟩)) g2.sOp (zw_r _)
                · refine ew_iconst i169_139 ?_
                  refine ev_goto i169_140 ?_
                  refine ev_ireturn i169_144 r169 ?_
                  rw [← zI_zw]
                  exact hK0 _ _ (fr_up hM (show frw 72 17 from ⟨rfl, by decide, by decide⟩)) g2.sOp (zw_r _)
              · refine ev_iloadn_2 i169_130 ?_
                refine ew_ineg i169_131 ?_
                refine ev_goto i169_132 ?_
                refine ev_ireturn i169_144 r169 ?_
                rw [← zI_zw]
                exact hK0 _ _ (fr_up hM (show frw 72 17 from ⟨rfl, by decide, by decide⟩)) g2.sOp (zw_r _)
            · exfalso; omega
          · exfalso; omega
        · exfalso; omega
      · exfalso; omega
    · refine ev_iloadn_1 i169_20 ?_
      refine ew_bipush i169_21 (by decide) ?_
      refine ew_icmpeq i169_23 (by omega) (fun c23 => ?_) (fun c23 => ?_)
      · refine ev_aloadn_0 i169_32 ?_
        refine ew_getI i169_33 g169_33 rfl (by first | exact hS.2.1 | exact hS.1.2.2.2.2.2 | exact hS.2.2.1 | exact hM.men | exact hM.told | exact hM.road | exact hM.stand _ (by omega) (by omega) | exact hM.reach _ (by omega) (by omega) | exact hM.arm _ (by omega) (by omega) | exact hM.late _ (by omega) (by omega) | exact hM.len _ (by omega) (by omega) | exact hM.corn _ (by omega) (by omega) | exact hM.say (by omega) (by omega) _ (by omega) (by omega) | exact hM.tone _ (by omega) (by omega)) (fun b33 => ?_)
        refine ew_bipush i169_36 (by decide) ?_
        refine ew_icmpne i169_38 (by omega) (fun c38 => ?_) (fun c38 => ?_)
        · refine ev_aloadn_0 i169_46 ?_
          refine ev_dup i169_47 rfl ?_
          refine ew_getI i169_48 g169_48 rfl (by first | exact hS.2.1 | exact hS.1.2.2.2.2.2 | exact hS.2.2.1 | exact hM.men | exact hM.told | exact hM.road | exact hM.stand _ (by omega) (by omega) | exact hM.reach _ (by omega) (by omega) | exact hM.arm _ (by omega) (by omega) | exact hM.late _ (by omega) (by omega) | exact hM.len _ (by omega) (by omega) | exact hM.corn _ (by omega) (by omega) | exact hM.say (by omega) (by omega) _ (by omega) (by omega) | exact hM.tone _ (by omega) (by omega)) (fun b48 => ?_)
          refine ew_iconst i169_51 ?_
          refine ew_iadd i169_52 ?_
          refine ev_putI i169_53 g169_53 rfl ?_
          refine ev_aloadn_0 i169_56 ?_
          refine ev_dup i169_57 rfl ?_
          refine ew_getI i169_58 g169_58 rfl (by first | exact hS.2.1 | exact hS.1.2.2.2.2.2 | exact hS.2.2.1 | exact hM.men | exact hM.told | exact hM.road | exact hM.stand _ (by omega) (by omega) | exact hM.reach _ (by omega) (by omega) | exact hM.arm _ (by omega) (by omega) | exact hM.late _ (by omega) (by omega) | exact hM.len _ (by omega) (by omega) | exact hM.corn _ (by omega) (by omega) | exact hM.say (by omega) (by omega) _ (by omega) (by omega) | exact hM.tone _ (by omega) (by omega)) (fun b58 => ?_)
          refine ew_iconst i169_61 ?_
          refine ew_iadd i169_62 ?_
          refine ev_putI i169_63 g169_63 rfl ?_
          refine ev_iloadn_1 i169_66 ?_
          refine ew_bipush i169_67 (by decide) ?_
          refine ew_icmpne i169_69 (by omega) (fun c69 => ?_) (fun c69 => ?_)
          · refine ev_aloadn_0 i169_79 ?_
            refine ev_virt0 i169_80 g169_80 rfl (by decide +kernel) (Nat.le_of_ble_eq_true rfl) (hc X (d + 8) _ L sw _ N b tc hE ((hS.sOp (q := o + 1) (by omega)).sAt (by omega)) (fun M r g1 g2 g3 => ?_))
            refine ev_istoren_2 i169_83 rfl ?_
            have hM : fr frw I M := fr_tr (fr_up (fr_up (fr_rfl _ _) ⟨rfl, by decide, by decide⟩) ⟨rfl, by decide, by decide⟩) g1
            refine ev_iloadn_1 i169_84 ?_
            refine ew_bipush i169_85 (by decide) ?_
            refine ew_icmpne i169_87 (by omega) (fun c87 => ?_) (fun c87 => ?_)
            · refine ev_aloadn_0 i169_104 ?_
              refine ev_dup i169_105 rfl ?_
              refine ew_getI i169_106 g169_106 rfl ((rd_any _)) (fun b106 => ?_)
              refine ew_iconst i169_109 ?_
              refine ew_isub i169_110 ?_
              refine ev_putI i169_111 g169_111 rfl ?_
              refine ev_iloadn_1 i169_114 ?_
              refine ew_bipush i169_115 (by decide) ?_
              refine ew_icmpne i169_117 (by omega) (fun c117 => ?_) (fun c117 => ?_)
              · refine ev_iloadn_1 i169_124 ?_
                refine ew_bipush i169_125 (by decide) ?_
                refine ew_icmpne i169_127 (by omega) (fun c127 => ?_) (fun c127 => ?_)
                · refine ev_iloadn_2 i169_135 ?_
                  first
                  | refine ew_ifneB i169_136 (fun c136 => ?_) (fun c136 => ?_)
                  | refine ew_ifne i169_136 (by omega) (fun c136 => ?_) (fun c136 => ?_)
                  · refine ew_iconst i169_143 ?_
                    refine ev_ireturn i169_144 r169 ?_
                    rw [← zI_zw]
                    exact hK0 _ _ (fr_up hM (show frw 72 17 from ⟨rfl, by decide, by decide⟩)) g2.sOp (zw_r _)
                  · refine ew_iconst i169_139 ?_
                    refine ev_goto i169_140 ?_
                    refine ev_ireturn i169_144 r169 ?_
                    rw [← zI_zw]
                    exact hK0 _ _ (fr_up hM (show frw 72 17 from ⟨rfl, by decide, by decide⟩)) g2.sOp (zw_r _)
                · refine ev_iloadn_2 i169_130 ?_
                  refine ew_ineg i169_131 ?_
                  refine ev_goto i169_132 ?_
                  refine ev_ireturn i169_144 r169 ?_
                  rw [← zI_zw]
                  exact hK0 _ _ (fr_up hM (show frw 72 17 from ⟨rfl, by decide, by decide⟩)) g2.sOp (zw_r _)
              · exfalso; omega
            · exfalso; omega
          · exfalso; omega
        · exfalso; omega
      · refine ev_iloadn_1 i169_26 ?_
        refine ew_bipush i169_27 (by decide) ?_
        refine ew_icmpne i169_29 (by omega) (fun c29 => ?_) (fun c29 => ?_)
        · exfalso; omega
        · refine ev_aloadn_0 i169_32 ?_
          refine ew_getI i169_33 g169_33 rfl (by first | exact hS.2.1 | exact hS.1.2.2.2.2.2 | exact hS.2.2.1 | exact hM.men | exact hM.told | exact hM.road | exact hM.stand _ (by omega) (by omega) | exact hM.reach _ (by omega) (by omega) | exact hM.arm _ (by omega) (by omega) | exact hM.late _ (by omega) (by omega) | exact hM.len _ (by omega) (by omega) | exact hM.corn _ (by omega) (by omega) | exact hM.say (by omega) (by omega) _ (by omega) (by omega) | exact hM.tone _ (by omega) (by omega)) (fun b33 => ?_)
          refine ew_bipush i169_36 (by decide) ?_
          refine ew_icmpne i169_38 (by omega) (fun c38 => ?_) (fun c38 => ?_)
          · refine ev_aloadn_0 i169_46 ?_
            refine ev_dup i169_47 rfl ?_
            refine ew_getI i169_48 g169_48 rfl (by first | exact hS.2.1 | exact hS.1.2.2.2.2.2 | exact hS.2.2.1 | exact hM.men | exact hM.told | exact hM.road | exact hM.stand _ (by omega) (by omega) | exact hM.reach _ (by omega) (by omega) | exact hM.arm _ (by omega) (by omega) | exact hM.late _ (by omega) (by omega) | exact hM.len _ (by omega) (by omega) | exact hM.corn _ (by omega) (by omega) | exact hM.say (by omega) (by omega) _ (by omega) (by omega) | exact hM.tone _ (by omega) (by omega)) (fun b48 => ?_)
            refine ew_iconst i169_51 ?_
            refine ew_iadd i169_52 ?_
            refine ev_putI i169_53 g169_53 rfl ?_
            refine ev_aloadn_0 i169_56 ?_
            refine ev_dup i169_57 rfl ?_
            refine ew_getI i169_58 g169_58 rfl (by first | exact hS.2.1 | exact hS.1.2.2.2.2.2 | exact hS.2.2.1 | exact hM.men | exact hM.told | exact hM.road | exact hM.stand _ (by omega) (by omega) | exact hM.reach _ (by omega) (by omega) | exact hM.arm _ (by omega) (by omega) | exact hM.late _ (by omega) (by omega) | exact hM.len _ (by omega) (by omega) | exact hM.corn _ (by omega) (by omega) | exact hM.say (by omega) (by omega) _ (by omega) (by omega) | exact hM.tone _ (by omega) (by omega)) (fun b58 => ?_)
            refine ew_iconst i169_61 ?_
            refine ew_iadd i169_62 ?_
            refine ev_putI i169_63 g169_63 rfl ?_
            refine ev_iloadn_1 i169_66 ?_
            refine ew_bipush i169_67 (by decide) ?_
            refine ew_icmpne i169_69 (by omega) (fun c69 => ?_) (fun c69 => ?_)
            · refine ev_aloadn_0 i169_79 ?_
              refine ev_virt0 i169_80 g169_80 rfl (by decide +kernel) (Nat.le_of_ble_eq_true rfl) (hc X (d + 8) _ L sw _ N b tc hE ((hS.sOp (q := o + 1) (by omega)).sAt (by omega)) (fun M r g1 g2 g3 => ?_))
              refine ev_istoren_2 i169_83 rfl ?_
              have hM : fr frw I M := fr_tr (fr_up (fr_up (fr_rfl _ _) ⟨rfl, by decide, by decide⟩) ⟨rfl, by decide, by decide⟩) g1
              refine ev_iloadn_1 i169_84 ?_
              refine ew_bipush i169_85 (by decide) ?_
              refine ew_icmpne i169_87 (by omega) (fun c87 => ?_) (fun c87 => ?_)
              · refine ev_aloadn_0 i169_104 ?_
                refine ev_dup i169_105 rfl ?_
                refine ew_getI i169_106 g169_106 rfl ((rd_any _)) (fun b106 => ?_)
                refine ew_iconst i169_109 ?_
                refine ew_isub i169_110 ?_
                refine ev_putI i169_111 g169_111 rfl ?_
                refine ev_iloadn_1 i169_114 ?_
                refine ew_bipush i169_115 (by decide) ?_
                refine ew_icmpne i169_117 (by omega) (fun c117 => ?_) (fun c117 => ?_)
                · refine ev_iloadn_1 i169_124 ?_
                  refine ew_bipush i169_125 (by decide) ?_
                  refine ew_icmpne i169_127 (by omega) (fun c127 => ?_) (fun c127 => ?_)
                  · refine ev_iloadn_2 i169_135 ?_
                    first
                    | refine ew_ifneB i169_136 (fun c136 => ?_) (fun c136 => ?_)
                    | refine ew_ifne i169_136 (by omega) (fun c136 => ?_) (fun c136 => ?_)
                    · refine ew_iconst i169_143 ?_
                      refine ev_ireturn i169_144 r169 ?_
                      rw [← zI_zw]
                      exact hK0 _ _ (fr_up hM (show frw 72 17 from ⟨rfl, by decide, by decide⟩)) g2.sOp (zw_r _)
                    · refine ew_iconst i169_139 ?_
                      refine ev_goto i169_140 ?_
                      refine ev_ireturn i169_144 r169 ?_
                      rw [← zI_zw]
                      exact hK0 _ _ (fr_up hM (show frw 72 17 from ⟨rfl, by decide, by decide⟩)) g2.sOp (zw_r _)
                  · refine ev_iloadn_2 i169_130 ?_
                    refine ew_ineg i169_131 ?_
                    refine ev_goto i169_132 ?_
                    refine ev_ireturn i169_144 r169 ?_
                    rw [← zI_zw]
                    exact hK0 _ _ (fr_up hM (show frw 72 17 from ⟨rfl, by decide, by decide⟩)) g2.sOp (zw_r _)
                · exfalso; omega
              · exfalso; omega
            · exfalso; omega
          · exfalso; omega
  · exfalso; omega
end ON
