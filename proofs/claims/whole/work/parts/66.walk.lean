theorem i51_0 : ts_ins 51 0 = some (.aload_n 0, 1, 0) := by decide +kernel
theorem i51_1 : ts_ins 51 1 = some (.getfield 31, 4, 0) := by decide +kernel
theorem g51_1 : ts_fm 51 31 = some (6, 0, 2) := by decide +kernel
theorem i51_4 : ts_ins 51 4 = some (.getfield 35, 7, 0) := by decide +kernel
theorem g51_4 : ts_fm 51 35 = some (3, 1, 2) := by decide +kernel
theorem i51_7 : ts_ins 51 7 = some (.iconst 0, 8, 0) := by decide +kernel
theorem i51_8 : ts_ins 51 8 = some (.aload_n 0, 9, 0) := by decide +kernel
theorem i51_9 : ts_ins 51 9 = some (.getfield 9, 12, 0) := by decide +kernel
theorem g51_9 : ts_fm 51 9 = some (6, 1, 2) := by decide +kernel
theorem i51_12 : ts_ins 51 12 = some (.iconst 0, 13, 0) := by decide +kernel
theorem i51_13 : ts_ins 51 13 = some (.bipush 16, 15, 0) := by decide +kernel
theorem i51_15 : ts_ins 51 15 = some (.invokestatic 38, 18, 0) := by decide +kernel
theorem g51_15 : ts_cal (ts_mc 51) 38 = some (9, 0, 5) := by decide +kernel
theorem i51_18 : ts_ins 51 18 = some (.aload_n 0, 19, 0) := by decide +kernel
theorem i51_19 : ts_ins 51 19 = some (.iconst 0, 20, 0) := by decide +kernel
theorem i51_20 : ts_ins 51 20 = some (.putfield 18, 23, 0) := by decide +kernel
theorem g51_20 : ts_fmm 51 18 = some (6, 3, 0, false) := by decide +kernel
theorem i51_23 : ts_ins 51 23 = some (.aload_n 0, 24, 0) := by decide +kernel
theorem i51_24 : ts_ins 51 24 = some (.iconst 0, 25, 0) := by decide +kernel
theorem i51_25 : ts_ins 51 25 = some (.putfield 22, 28, 0) := by decide +kernel
theorem g51_25 : ts_fmm 51 22 = some (6, 4, 0, false) := by decide +kernel
theorem i51_28 : ts_ins 51 28 = some (.aload_n 0, 29, 0) := by decide +kernel
theorem i51_29 : ts_ins 51 29 = some (.aload_n 0, 30, 0) := by decide +kernel
theorem i51_30 : ts_ins 51 30 = some (.getfield 31, 33, 0) := by decide +kernel
theorem g51_30 : ts_fm 51 31 = some (6, 0, 2) := by decide +kernel
theorem i51_33 : ts_ins 51 33 = some (.invokevirtual 44, 36, 0) := by decide +kernel
theorem g51_33 : ts_cal (ts_mc 51) 44 = some (0, 29, 0) := by decide +kernel
theorem i51_36 : ts_ins 51 36 = some (.putfield 25, 39, 0) := by decide +kernel
theorem g51_36 : ts_fmm 51 25 = some (6, 5, 0, false) := by decide +kernel
theorem i51_39 : ts_ins 51 39 = some (.aload_n 0, 40, 0) := by decide +kernel
theorem i51_40 : ts_ins 51 40 = some (.aload_n 0, 41, 0) := by decide +kernel
theorem i51_41 : ts_ins 51 41 = some (.getfield 25, 44, 0) := by decide +kernel
theorem g51_41 : ts_fm 51 25 = some (6, 5, 0) := by decide +kernel
theorem i51_44 : ts_ins 51 44 = some (.ifCond .ne 7, 47, 51) := by decide +kernel
theorem i51_47 : ts_ins 51 47 = some (.iconst 0, 48, 0) := by decide +kernel
theorem i51_48 : ts_ins 51 48 = some (.goto 5, 51, 53) := by decide +kernel
theorem i51_51 : ts_ins 51 51 = some (.bipush (-2), 53, 0) := by decide +kernel
theorem i51_53 : ts_ins 51 53 = some (.putfield 28, 56, 0) := by decide +kernel
theorem g51_53 : ts_fmm 51 28 = some (6, 6, 0, false) := by decide +kernel
theorem i51_56 : ts_ins 51 56 = some (.bipush 40, 58, 0) := by decide +kernel
theorem i51_58 : ts_ins 51 58 = some (.aload_n 1, 59, 0) := by decide +kernel
theorem i51_59 : ts_ins 51 59 = some (.getfield 48, 62, 0) := by decide +kernel
theorem g51_59 : ts_fm 51 48 = some (7, 4, 0) := by decide +kernel
theorem i51_62 : ts_ins 51 62 = some (.invokestatic 53, 65, 0) := by decide +kernel
theorem g51_62 : ts_cal (ts_mc 51) 53 = some (6, 0, 2) := by decide +kernel
theorem i51_65 : ts_ins 51 65 = some (.istore_n 2, 66, 0) := by decide +kernel
theorem i51_66 : ts_ins 51 66 = some (.iconst 0, 67, 0) := by decide +kernel
theorem i51_67 : ts_ins 51 67 = some (.istore_n 3, 68, 0) := by decide +kernel
theorem i51_68 : ts_ins 51 68 = some (.iload_n 3, 69, 0) := by decide +kernel
theorem i51_69 : ts_ins 51 69 = some (.iload_n 2, 70, 0) := by decide +kernel
theorem i51_70 : ts_ins 51 70 = some (.if_icmp .ge 145, 73, 215) := by decide +kernel
theorem i51_73 : ts_ins 51 73 = some (.aload_n 1, 74, 0) := by decide +kernel
theorem i51_74 : ts_ins 51 74 = some (.getfield 59, 77, 0) := by decide +kernel
theorem g51_74 : ts_fm 51 59 = some (7, 0, 2) := by decide +kernel
theorem i51_77 : ts_ins 51 77 = some (.iload_n 3, 78, 0) := by decide +kernel
theorem i51_78 : ts_ins 51 78 = some (.laload, 79, 0) := by decide +kernel
theorem i51_79 : ts_ins 51 79 = some (.l2i, 80, 0) := by decide +kernel
theorem i51_80 : ts_ins 51 80 = some (.istore 4, 82, 0) := by decide +kernel
theorem i51_82 : ts_ins 51 82 = some (.aload_n 0, 83, 0) := by decide +kernel
theorem i51_83 : ts_ins 51 83 = some (.getfield 31, 86, 0) := by decide +kernel
theorem g51_83 : ts_fm 51 31 = some (6, 0, 2) := by decide +kernel
theorem i51_86 : ts_ins 51 86 = some (.iload_n 3, 87, 0) := by decide +kernel
theorem i51_87 : ts_ins 51 87 = some (.invokevirtual 63, 90, 0) := by decide +kernel
theorem g51_87 : ts_cal (ts_mc 51) 63 = some (0, 25, 1) := by decide +kernel
theorem i51_90 : ts_ins 51 90 = some (.istore 5, 92, 0) := by decide +kernel
theorem i51_92 : ts_ins 51 92 = some (.iload 5, 94, 0) := by decide +kernel
theorem i51_94 : ts_ins 51 94 = some (.bipush (-2), 96, 0) := by decide +kernel
theorem i51_96 : ts_ins 51 96 = some (.if_icmp .eq 119, 99, 215) := by decide +kernel
theorem i51_99 : ts_ins 51 99 = some (.iload 4, 101, 0) := by decide +kernel
theorem i51_101 : ts_ins 51 101 = some (.bipush 16, 103, 0) := by decide +kernel
theorem i51_103 : ts_ins 51 103 = some (.if_icmp .eq 20, 106, 123) := by decide +kernel
theorem i51_106 : ts_ins 51 106 = some (.aload_n 0, 107, 0) := by decide +kernel
theorem i51_107 : ts_ins 51 107 = some (.getfield 31, 110, 0) := by decide +kernel
theorem g51_107 : ts_fm 51 31 = some (6, 0, 2) := by decide +kernel
theorem i51_110 : ts_ins 51 110 = some (.iload 5, 112, 0) := by decide +kernel
theorem i51_112 : ts_ins 51 112 = some (.iload 4, 114, 0) := by decide +kernel
theorem i51_114 : ts_ins 51 114 = some (.invokevirtual 67, 117, 0) := by decide +kernel
theorem g51_114 : ts_cal (ts_mc 51) 67 = some (0, 26, 2) := by decide +kernel
theorem i51_117 : ts_ins 51 117 = some (.ifCond .ne 6, 120, 123) := by decide +kernel
theorem i51_120 : ts_ins 51 120 = some (.goto 95, 123, 215) := by decide +kernel
theorem i51_123 : ts_ins 51 123 = some (.aload_n 0, 124, 0) := by decide +kernel
theorem i51_124 : ts_ins 51 124 = some (.getfield 15, 127, 0) := by decide +kernel
theorem g51_124 : ts_fm 51 15 = some (6, 2, 2) := by decide +kernel
theorem i51_127 : ts_ins 51 127 = some (.iload_n 3, 128, 0) := by decide +kernel
theorem i51_128 : ts_ins 51 128 = some (.iload 4, 130, 0) := by decide +kernel
theorem i51_130 : ts_ins 51 130 = some (.bipush 16, 132, 0) := by decide +kernel
theorem i51_132 : ts_ins 51 132 = some (.if_icmp .ne 8, 135, 140) := by decide +kernel
theorem i51_135 : ts_ins 51 135 = some (.bipush (-2), 137, 0) := by decide +kernel
theorem i51_137 : ts_ins 51 137 = some (.goto 12, 140, 149) := by decide +kernel
theorem i51_140 : ts_ins 51 140 = some (.aload_n 0, 141, 0) := by decide +kernel
theorem i51_141 : ts_ins 51 141 = some (.iload 5, 143, 0) := by decide +kernel
theorem i51_143 : ts_ins 51 143 = some (.iload 4, 145, 0) := by decide +kernel
theorem i51_145 : ts_ins 51 145 = some (.iload_n 3, 146, 0) := by decide +kernel
theorem i51_146 : ts_ins 51 146 = some (.invokevirtual 71, 149, 0) := by decide +kernel
theorem g51_146 : ts_cal (ts_mc 51) 71 = some (0, 52, 3) := by decide +kernel
theorem i51_149 : ts_ins 51 149 = some (.iastore, 150, 0) := by decide +kernel
theorem i51_150 : ts_ins 51 150 = some (.aload_n 0, 151, 0) := by decide +kernel
theorem i51_151 : ts_ins 51 151 = some (.dup, 152, 0) := by decide +kernel
theorem i51_152 : ts_ins 51 152 = some (.getfield 22, 155, 0) := by decide +kernel
theorem g51_152 : ts_fm 51 22 = some (6, 4, 0) := by decide +kernel
theorem i51_155 : ts_ins 51 155 = some (.aload_n 0, 156, 0) := by decide +kernel
theorem i51_156 : ts_ins 51 156 = some (.getfield 15, 159, 0) := by decide +kernel
theorem g51_156 : ts_fm 51 15 = some (6, 2, 2) := by decide +kernel
theorem i51_159 : ts_ins 51 159 = some (.iload_n 3, 160, 0) := by decide +kernel
theorem i51_160 : ts_ins 51 160 = some (.iaload, 161, 0) := by decide +kernel
theorem i51_161 : ts_ins 51 161 = some (.bipush (-2), 163, 0) := by decide +kernel
theorem i51_163 : ts_ins 51 163 = some (.if_icmp .ne 7, 166, 170) := by decide +kernel
theorem i51_166 : ts_ins 51 166 = some (.iconst 0, 167, 0) := by decide +kernel
theorem i51_167 : ts_ins 51 167 = some (.goto 4, 170, 171) := by decide +kernel
theorem i51_170 : ts_ins 51 170 = some (.iconst 1, 171, 0) := by decide +kernel
theorem i51_171 : ts_ins 51 171 = some (.iadd, 172, 0) := by decide +kernel
theorem i51_172 : ts_ins 51 172 = some (.putfield 22, 175, 0) := by decide +kernel
theorem g51_172 : ts_fmm 51 22 = some (6, 4, 0, false) := by decide +kernel
theorem i51_175 : ts_ins 51 175 = some (.aload_n 0, 176, 0) := by decide +kernel
theorem i51_176 : ts_ins 51 176 = some (.dup, 177, 0) := by decide +kernel
theorem i51_177 : ts_ins 51 177 = some (.getfield 18, 180, 0) := by decide +kernel
theorem g51_177 : ts_fm 51 18 = some (6, 3, 0) := by decide +kernel
theorem i51_180 : ts_ins 51 180 = some (.iconst 1, 181, 0) := by decide +kernel
theorem i51_181 : ts_ins 51 181 = some (.iadd, 182, 0) := by decide +kernel
theorem i51_182 : ts_ins 51 182 = some (.putfield 18, 185, 0) := by decide +kernel
theorem g51_182 : ts_fmm 51 18 = some (6, 3, 0, false) := by decide +kernel
theorem i51_185 : ts_ins 51 185 = some (.aload_n 0, 186, 0) := by decide +kernel
theorem i51_186 : ts_ins 51 186 = some (.getfield 25, 189, 0) := by decide +kernel
theorem g51_186 : ts_fm 51 25 = some (6, 5, 0) := by decide +kernel
theorem i51_189 : ts_ins 51 189 = some (.ifCond .ne 20, 192, 209) := by decide +kernel
theorem i51_192 : ts_ins 51 192 = some (.aload_n 0, 193, 0) := by decide +kernel
theorem i51_193 : ts_ins 51 193 = some (.getfield 28, 196, 0) := by decide +kernel
theorem g51_193 : ts_fm 51 28 = some (6, 6, 0) := by decide +kernel
theorem i51_196 : ts_ins 51 196 = some (.bipush (-2), 198, 0) := by decide +kernel
theorem i51_198 : ts_ins 51 198 = some (.if_icmp .ne 11, 201, 209) := by decide +kernel
theorem i51_201 : ts_ins 51 201 = some (.aload_n 0, 202, 0) := by decide +kernel
theorem i51_202 : ts_ins 51 202 = some (.aload_n 0, 203, 0) := by decide +kernel
theorem i51_203 : ts_ins 51 203 = some (.getfield 18, 206, 0) := by decide +kernel
theorem g51_203 : ts_fm 51 18 = some (6, 3, 0) := by decide +kernel
theorem i51_206 : ts_ins 51 206 = some (.putfield 28, 209, 0) := by decide +kernel
theorem g51_206 : ts_fmm 51 28 = some (6, 6, 0, false) := by decide +kernel
theorem i51_209 : ts_ins 51 209 = some (.iinc 3 1, 212, 0) := by decide +kernel
theorem i51_212 : ts_ins 51 212 = some (.goto (-144), 215, 68) := by decide +kernel
theorem i51_215 : ts_ins 51 215 = some (.return_, 216, 0) := by decide +kernel
theorem r51 : ts_rt 51 = (none, 0, 0) := by decide +kernel
theorem l51 : ts_ml 51 = 6 := by decide +kernel
/-! PLANS: the walk, what it tells (class) -/
section WA
variable {X : ts_X} {I J : Nat → Nat → Int32} {L : Nat → Nat → Int64} {sw : Bool} {K : Option Value → ts_H → Prop} {d : Nat} {f : ts_Fl} {w : ts_Lw} {s : ts_Sh} {it c : Int → Int} {n : Int} {q : Nat}
theorem g_ph_s {b : Int} (h : 0 ≤ b) : g_ph f w it (b + 1) = g_ph f w it b + (if g_hd f w it b = -2 then 0 else 1) := zsum_s h
theorem g_ph_r {b : Int} (h : 0 ≤ b) : 0 ≤ g_ph f w it b ∧ g_ph f w it b ≤ b := by
  have e := zsum_b (g := fun b => if g_hd f w it b = -2 then 0 else 1) (lo := 0) (hi := 1) (N := b) (fun p p0 p1 => by split <;> omega) b.toNat (by omega)
  unfold g_ph
  omega
theorem g_hd_r (hX : RX I f) {b : Int} (h : it b = 16 ∨ (0 ≤ it b ∧ it b < 16)) : -2 ≤ g_hd f w it b ∧ g_hd f w it b ≤ 7 ∧ ¬ g_hd f w it b = -1 := by
  unfold g_hd
  by_cases c : it b = 16
  · rw [if_pos c]; decide
  · rw [if_neg c]
    have := (hX.tone (it b) (by omega) (by omega)).2
    split <;> omega
theorem ts_cp_na {α : Type} {g : Nat → Nat → α} {a i b j n c : Nat} (h : ¬ c = b) : ts_cp g a i b j n c = g c := by funext k; unfold ts_cp; rw [if_neg h]
theorem x_walk (hX : RX I f) (hW : RXw I sw w) (hO : ROw w) (hS : RXs I L s) (hQ : ROs s) (hq : q < 6) (h50 : s.1 q = 50) (hK : ∀ J, fr fpx I J → RXp J f w (s.2.2 q) (g_pb s f q) → K none (J, L, ts_P0 sw, ts_S0)) : ts_Cal X (d + 5) 51 [.ref 37, .ref (60 + 2 * q)] (I, L, ts_P0 sw, ts_S0) K := by
  have b1 := hX.men.2
  have hz := (hS.size hq).2
  have hm : 0 ≤ g_pm s q ∧ g_pm s q ≤ 40 ∧ g_pm s q ≤ s.2.1 q := by unfold g_pm; omega
  have hby : ∀ k : Int, 0 ≤ k → k < 60 → -128 ≤ s.2.2 q k ∧ s.2.2 q k ≤ 127 := fun k k0 k1 => (hQ q (by omega) (by omega)).2.2.2 h50 k k0 k1
  have loop : ∀ b : Int, 0 ≤ b → b ≤ g_pm s q → ∀ J o o2, fr fpx I J → RXp J f w (s.2.2 q) b → zfd (g_pm s q) (fun b => ¬ g_pok f (s.2.2 q) b) (g_pm s q) b = g_pb s f q → ts_Ev X (ts_Cal X (d + 4)) 51 ts_S0 K 68 [.ref 37, .ref (60 + 2 * q), .int (zI (g_pm s q)), .int (zI (b)), o, o2] [] (J, L, ts_P0 sw, ts_S0) := by
    refine ts_ind (g_pm s q) (fun b ih h0 h1 J o o2 hJ hR hZ => ?_)
    have hXJ := hX.fpx hJ
    have hWJ := hW.fpx hJ
    have hSJ : RXs J L s := hS.co (fun a p0 p1 => ⟨fr_row hJ (fun k => by omega), rfl⟩)
    have phr := g_ph_r (f := f) (w := w) (it := s.2.2 q) h0
    have ptr := g_pt_r (f := f) (it := s.2.2 q) b
    have pts := g_pt_s (f := f) (it := s.2.2 q) h0
    have phs := g_ph_s (f := f) (w := w) (it := s.2.2 q) h0
    have fin : b < g_pm s q → g_pok f (s.2.2 q) b → ∀ J1 o o2, fr fpx I J1 → ar J1 39 b (-2) 7 (g_hd f w (s.2.2 q)) → rd (J1 37 3) 0 40 b → rd (J1 37 4) 0 40 (g_ph f w (s.2.2 q) b) → rd (J1 37 6) (-2) 40 (g_pt f (s.2.2 q) b) → ar J1 38 16 0 9 (pcn f (s.2.2 q) (b + 1).toNat) → rd (J1 37 5) 0 144 (g_pc f (s.2.2 q) (b + 1)) → ts_Ev X (ts_Cal X (d + 4)) 51 ts_S0 K 149 [.ref 37, .ref (60 + 2 * q), .int (zI (g_pm s q)), .int (zI (b)), o, o2] [.int (zI (g_hd f w (s.2.2 q) b)), .int (zI (b)), .ref 39] (J1, L, ts_P0 sw, ts_S0) := by
      intro hb ok J1 o o2 hJ1 a39 r3 r4 r6 a38 r5
      have hr := g_hd_r (it := s.2.2 q) (w := w) hX (b := b) (by have := ok.2; omega)
      have a39' : ar (ts_up J1 39 b.toNat (zI (g_hd f w (s.2.2 q) b))) 39 (b + 1) (-2) 7 (g_hd f w (s.2.2 q)) := ar_ext2 a39 h0 ⟨hr.1, hr.2.1⟩
      rw [zfd_1 hb, if_neg (fun r => r ok)] at hZ
      refine ew_iastore i51_149 rfl (by omega) (by omega) (by omega) ?_
      refine ev_aloadn_0 i51_150 ?_
      refine ev_dup i51_151 rfl ?_
      refine ew_getI i51_152 g51_152 rfl (by first | exact r3 | exact r4 | exact r5 | exact r6 | exact hX.men | exact hX.told | exact hX.road | exact hX.tone _ (by omega) (by omega) | exact hX.corn _ (by omega) (by omega) | exact hX.stand _ (by omega) (by omega) | exact hX.reach _ (by omega) (by omega) | exact hX.arm _ (by omega) (by omega) | exact hX.late _ (by omega) (by omega) | exact hX.len _ (by omega) (by omega) | exact hX.say (by omega) (by omega) _ (by omega) (by omega)) (fun b152 => ?_)
      refine ev_aloadn_0 i51_155 ?_
      refine ev_getA i51_156 g51_156 rfl rfl (by decide) ?_
      refine ev_iloadn_3 i51_159 ?_
      refine ew_iaload i51_160 rfl (by omega) (by omega) (by omega) ((a39' b h0 (by omega))) (fun b160 => ?_)
      refine ew_bipush i51_161 (by decide) ?_
      refine ew_icmpne i51_163 (by omega) (fun c163 => ?_) (fun c163 => ?_)
      · refine ew_iconst i51_170 ?_
        refine ew_iadd i51_171 ?_
        refine ev_putI i51_172 g51_172 rfl ?_
        refine ev_aloadn_0 i51_175 ?_
        refine ev_dup i51_176 rfl ?_
        refine ew_getI i51_177 g51_177 rfl (by first | exact r3 | exact r4 | exact r5 | exact r6 | exact hX.men | exact hX.told | exact hX.road | exact hX.tone _ (by omega) (by omega) | exact hX.corn _ (by omega) (by omega) | exact hX.stand _ (by omega) (by omega) | exact hX.reach _ (by omega) (by omega) | exact hX.arm _ (by omega) (by omega) | exact hX.late _ (by omega) (by omega) | exact hX.len _ (by omega) (by omega) | exact hX.say (by omega) (by omega) _ (by omega) (by omega)) (fun b177 => ?_)
        refine ew_iconst i51_180 ?_
        refine ew_iadd i51_181 ?_
        refine ev_putI i51_182 g51_182 rfl ?_
        refine ev_aloadn_0 i51_185 ?_
        refine ew_getI i51_186 g51_186 rfl (by first | exact r3 | exact r4 | exact r5 | exact r6 | exact hX.men | exact hX.told | exact hX.road | exact hX.tone _ (by omega) (by omega) | exact hX.corn _ (by omega) (by omega) | exact hX.stand _ (by omega) (by omega) | exact hX.reach _ (by omega) (by omega) | exact hX.arm _ (by omega) (by omega) | exact hX.late _ (by omega) (by omega) | exact hX.len _ (by omega) (by omega) | exact hX.say (by omega) (by omega) _ (by omega) (by omega)) (fun b186 => ?_)
        first
        | refine ew_ifneB i51_189 (fun c189 => ?_) (fun c189 => ?_)
        | refine ew_ifne i51_189 (by omega) (fun c189 => ?_) (fun c189 => ?_)
        · refine ew_iinc_3 i51_209 rfl ?_
          refine ev_goto i51_212 ?_
          first
          | (have e1 : rd (zI (b + 1)) (-2) 40 (g_pt f (s.2.2 q) (b + 1)) := by
               rw [pts, if_pos c198, if_pos c189]
               exact rd_zI (by omega)
             first
             | (have e2 : g_ph f w (s.2.2 q) b + 1 = g_ph f w (s.2.2 q) (b + 1) := by rw [phs, if_neg c163]
                rw [e2]
                exact ih (by omega) (by omega) (by omega) _ _ _ (fr_up (fr_up (fr_up (fr_up hJ1 (by omega)) (by omega)) (by omega)) (by omega)) ⟨rd_zI (by omega), rd_zI (by omega), r5, e1, ar_co a38 rfl, ar_co a39' rfl⟩ hZ)
             | (have e2 : g_ph f w (s.2.2 q) b + 0 = g_ph f w (s.2.2 q) (b + 1) := by rw [phs, if_pos c163]
                rw [e2]
                exact ih (by omega) (by omega) (by omega) _ _ _ (fr_up (fr_up (fr_up (fr_up hJ1 (by omega)) (by omega)) (by omega)) (by omega)) ⟨rd_zI (by omega), rd_zI (by omega), r5, e1, ar_co a38 rfl, ar_co a39' rfl⟩ hZ))
          | (have e1 : g_pt f (s.2.2 q) (b + 1) = g_pt f (s.2.2 q) b := by
               rw [pts]
               first
               | rw [if_neg c198]
               | (by_cases c9 : g_pt f (s.2.2 q) b = -2
                  · rw [if_pos c9, if_neg c189, c9]
                  · rw [if_neg c9])
             first
             | (have e2 : g_ph f w (s.2.2 q) b + 1 = g_ph f w (s.2.2 q) (b + 1) := by rw [phs, if_neg c163]
                rw [e2]
                exact ih (by omega) (by omega) (by omega) _ _ _ (fr_up (fr_up (fr_up hJ1 (by omega)) (by omega)) (by omega)) ⟨rd_zI (by omega), rd_zI (by omega), r5, by rw [e1]; exact r6, ar_co a38 rfl, ar_co a39' rfl⟩ hZ)
             | (have e2 : g_ph f w (s.2.2 q) b + 0 = g_ph f w (s.2.2 q) (b + 1) := by rw [phs, if_pos c163]
                rw [e2]
                exact ih (by omega) (by omega) (by omega) _ _ _ (fr_up (fr_up (fr_up hJ1 (by omega)) (by omega)) (by omega)) ⟨rd_zI (by omega), rd_zI (by omega), r5, by rw [e1]; exact r6, ar_co a38 rfl, ar_co a39' rfl⟩ hZ))
        · refine ev_aloadn_0 i51_192 ?_
          refine ew_getI i51_193 g51_193 rfl (by first | exact r3 | exact r4 | exact r5 | exact r6 | exact hX.men | exact hX.told | exact hX.road | exact hX.tone _ (by omega) (by omega) | exact hX.corn _ (by omega) (by omega) | exact hX.stand _ (by omega) (by omega) | exact hX.reach _ (by omega) (by omega) | exact hX.arm _ (by omega) (by omega) | exact hX.late _ (by omega) (by omega) | exact hX.len _ (by omega) (by omega) | exact hX.say (by omega) (by omega) _ (by omega) (by omega)) (fun b193 => ?_)
          refine ew_bipush i51_196 (by decide) ?_
          refine ew_icmpne i51_198 (by omega) (fun c198 => ?_) (fun c198 => ?_)
          · refine ew_iinc_3 i51_209 rfl ?_
            refine ev_goto i51_212 ?_
            first
            | (have e1 : rd (zI (b + 1)) (-2) 40 (g_pt f (s.2.2 q) (b + 1)) := by
                 rw [pts, if_pos c198, if_pos c189]
                 exact rd_zI (by omega)
               first
               | (have e2 : g_ph f w (s.2.2 q) b + 1 = g_ph f w (s.2.2 q) (b + 1) := by rw [phs, if_neg c163]
                  rw [e2]
                  exact ih (by omega) (by omega) (by omega) _ _ _ (fr_up (fr_up (fr_up (fr_up hJ1 (by omega)) (by omega)) (by omega)) (by omega)) ⟨rd_zI (by omega), rd_zI (by omega), r5, e1, ar_co a38 rfl, ar_co a39' rfl⟩ hZ)
               | (have e2 : g_ph f w (s.2.2 q) b + 0 = g_ph f w (s.2.2 q) (b + 1) := by rw [phs, if_pos c163]
                  rw [e2]
                  exact ih (by omega) (by omega) (by omega) _ _ _ (fr_up (fr_up (fr_up (fr_up hJ1 (by omega)) (by omega)) (by omega)) (by omega)) ⟨rd_zI (by omega), rd_zI (by omega), r5, e1, ar_co a38 rfl, ar_co a39' rfl⟩ hZ))
            | (have e1 : g_pt f (s.2.2 q) (b + 1) = g_pt f (s.2.2 q) b := by
                 rw [pts]
                 first
                 | rw [if_neg c198]
                 | (by_cases c9 : g_pt f (s.2.2 q) b = -2
                    · rw [if_pos c9, if_neg c189, c9]
                    · rw [if_neg c9])
               first
               | (have e2 : g_ph f w (s.2.2 q) b + 1 = g_ph f w (s.2.2 q) (b + 1) := by rw [phs, if_neg c163]
                  rw [e2]
                  exact ih (by omega) (by omega) (by omega) _ _ _ (fr_up (fr_up (fr_up hJ1 (by omega)) (by omega)) (by omega)) ⟨rd_zI (by omega), rd_zI (by omega), r5, by rw [e1]; exact r6, ar_co a38 rfl, ar_co a39' rfl⟩ hZ)
               | (have e2 : g_ph f w (s.2.2 q) b + 0 = g_ph f w (s.2.2 q) (b + 1) := by rw [phs, if_pos c163]
                  rw [e2]
                  exact ih (by omega) (by omega) (by omega) _ _ _ (fr_up (fr_up (fr_up hJ1 (by omega)) (by omega)) (by omega)) ⟨rd_zI (by omega), rd_zI (by omega), r5, by rw [e1]; exact r6, ar_co a38 rfl, ar_co a39' rfl⟩ hZ))
          · refine ev_aloadn_0 i51_201 ?_
            refine ev_aloadn_0 i51_202 ?_
            refine ew_getI i51_203 g51_203 rfl ((rd_zI (lo := 0) (hi := 40) (v := b + 1) (by omega))) (fun b203 => ?_)
            refine ev_putI i51_206 g51_206 rfl ?_
            refine ew_iinc_3 i51_209 rfl ?_
            refine ev_goto i51_212 ?_
            first
            | (have e1 : rd (zI (b + 1)) (-2) 40 (g_pt f (s.2.2 q) (b + 1)) := by
                 rw [pts, if_pos c198, if_pos c189]
                 exact rd_zI (by omega)
               first
               | (have e2 : g_ph f w (s.2.2 q) b + 1 = g_ph f w (s.2.2 q) (b + 1) := by rw [phs, if_neg c163]
                  rw [e2]
                  exact ih (by omega) (by omega) (by omega) _ _ _ (fr_up (fr_up (fr_up (fr_up hJ1 (by omega)) (by omega)) (by omega)) (by omega)) ⟨rd_zI (by omega), rd_zI (by omega), r5, e1, ar_co a38 rfl, ar_co a39' rfl⟩ hZ)
               | (have e2 : g_ph f w (s.2.2 q) b + 0 = g_ph f w (s.2.2 q) (b + 1) := by rw [phs, if_pos c163]
                  rw [e2]
                  exact ih (by omega) (by omega) (by omega) _ _ _ (fr_up (fr_up (fr_up (fr_up hJ1 (by omega)) (by omega)) (by omega)) (by omega)) ⟨rd_zI (by omega), rd_zI (by omega), r5, e1, ar_co a38 rfl, ar_co a39' rfl⟩ hZ))
            | (have e1 : g_pt f (s.2.2 q) (b + 1) = g_pt f (s.2.2 q) b := by
                 rw [pts]
                 first
                 | rw [if_neg c198]
                 | (by_cases c9 : g_pt f (s.2.2 q) b = -2
                    · rw [if_pos c9, if_neg c189, c9]
                    · rw [if_neg c9])
               first
               | (have e2 : g_ph f w (s.2.2 q) b + 1 = g_ph f w (s.2.2 q) (b + 1) := by rw [phs, if_neg c163]
                  rw [e2]
                  exact ih (by omega) (by omega) (by omega) _ _ _ (fr_up (fr_up (fr_up hJ1 (by omega)) (by omega)) (by omega)) ⟨rd_zI (by omega), rd_zI (by omega), r5, by rw [e1]; exact r6, ar_co a38 rfl, ar_co a39' rfl⟩ hZ)
               | (have e2 : g_ph f w (s.2.2 q) b + 0 = g_ph f w (s.2.2 q) (b + 1) := by rw [phs, if_pos c163]
                  rw [e2]
                  exact ih (by omega) (by omega) (by omega) _ _ _ (fr_up (fr_up (fr_up hJ1 (by omega)) (by omega)) (by omega)) ⟨rd_zI (by omega), rd_zI (by omega), r5, by rw [e1]; exact r6, ar_co a38 rfl, ar_co a39' rfl⟩ hZ))
      · refine ew_iconst i51_166 ?_
        refine ev_goto i51_167 ?_
        refine ew_iadd i51_171 ?_
        refine ev_putI i51_172 g51_172 rfl ?_
        refine ev_aloadn_0 i51_175 ?_
        refine ev_dup i51_176 rfl ?_
        refine ew_getI i51_177 g51_177 rfl (by first | exact r3 | exact r4 | exact r5 | exact r6 | exact hX.men | exact hX.told | exact hX.road | exact hX.tone _ (by omega) (by omega) | exact hX.corn _ (by omega) (by omega) | exact hX.stand _ (by omega) (by omega) | exact hX.reach _ (by omega) (by omega) | exact hX.arm _ (by omega) (by omega) | exact hX.late _ (by omega) (by omega) | exact hX.len _ (by omega) (by omega) | exact hX.say (by omega) (by omega) _ (by omega) (by omega)) (fun b177 => ?_)
        refine ew_iconst i51_180 ?_
        refine ew_iadd i51_181 ?_
        refine ev_putI i51_182 g51_182 rfl ?_
        refine ev_aloadn_0 i51_185 ?_
        refine ew_getI i51_186 g51_186 rfl (by first | exact r3 | exact r4 | exact r5 | exact r6 | exact hX.men | exact hX.told | exact hX.road | exact hX.tone _ (by omega) (by omega) | exact hX.corn _ (by omega) (by omega) | exact hX.stand _ (by omega) (by omega) | exact hX.reach _ (by omega) (by omega) | exact hX.arm _ (by omega) (by omega) | exact hX.late _ (by omega) (by omega) | exact hX.len _ (by omega) (by omega) | exact hX.say (by omega) (by omega) _ (by omega) (by omega)) (fun b186 => ?_)
        first
        | refine ew_ifneB i51_189 (fun c189 => ?_) (fun c189 => ?_)
        | refine ew_ifne i51_189 (by omega) (fun c189 => ?_) (fun c189 => ?_)
        · refine ew_iinc_3 i51_209 rfl ?_
          refine ev_goto i51_212 ?_
          first
          | (have e1 : rd (zI (b + 1)) (-2) 40 (g_pt f (s.2.2 q) (b + 1)) := by
               rw [pts, if_pos c198, if_pos c189]
               exact rd_zI (by omega)
             first
             | (have e2 : g_ph f w (s.2.2 q) b + 1 = g_ph f w (s.2.2 q) (b + 1) := by rw [phs, if_neg c163]
                rw [e2]
                exact ih (by omega) (by omega) (by omega) _ _ _ (fr_up (fr_up (fr_up (fr_up hJ1 (by omega)) (by omega)) (by omega)) (by omega)) ⟨rd_zI (by omega), rd_zI (by omega), r5, e1, ar_co a38 rfl, ar_co a39' rfl⟩ hZ)
             | (have e2 : g_ph f w (s.2.2 q) b + 0 = g_ph f w (s.2.2 q) (b + 1) := by rw [phs, if_pos c163]
                rw [e2]
                exact ih (by omega) (by omega) (by omega) _ _ _ (fr_up (fr_up (fr_up (fr_up hJ1 (by omega)) (by omega)) (by omega)) (by omega)) ⟨rd_zI (by omega), rd_zI (by omega), r5, e1, ar_co a38 rfl, ar_co a39' rfl⟩ hZ))
          | (have e1 : g_pt f (s.2.2 q) (b + 1) = g_pt f (s.2.2 q) b := by
               rw [pts]
               first
               | rw [if_neg c198]
               | (by_cases c9 : g_pt f (s.2.2 q) b = -2
                  · rw [if_pos c9, if_neg c189, c9]
                  · rw [if_neg c9])
             first
             | (have e2 : g_ph f w (s.2.2 q) b + 1 = g_ph f w (s.2.2 q) (b + 1) := by rw [phs, if_neg c163]
                rw [e2]
                exact ih (by omega) (by omega) (by omega) _ _ _ (fr_up (fr_up (fr_up hJ1 (by omega)) (by omega)) (by omega)) ⟨rd_zI (by omega), rd_zI (by omega), r5, by rw [e1]; exact r6, ar_co a38 rfl, ar_co a39' rfl⟩ hZ)
             | (have e2 : g_ph f w (s.2.2 q) b + 0 = g_ph f w (s.2.2 q) (b + 1) := by rw [phs, if_pos c163]
                rw [e2]
                exact ih (by omega) (by omega) (by omega) _ _ _ (fr_up (fr_up (fr_up hJ1 (by omega)) (by omega)) (by omega)) ⟨rd_zI (by omega), rd_zI (by omega), r5, by rw [e1]; exact r6, ar_co a38 rfl, ar_co a39' rfl⟩ hZ))
        · refine ev_aloadn_0 i51_192 ?_
          refine ew_getI i51_193 g51_193 rfl (by first | exact r3 | exact r4 | exact r5 | exact r6 | exact hX.men | exact hX.told | exact hX.road | exact hX.tone _ (by omega) (by omega) | exact hX.corn _ (by omega) (by omega) | exact hX.stand _ (by omega) (by omega) | exact hX.reach _ (by omega) (by omega) | exact hX.arm _ (by omega) (by omega) | exact hX.late _ (by omega) (by omega) | exact hX.len _ (by omega) (by omega) | exact hX.say (by omega) (by omega) _ (by omega) (by omega)) (fun b193 => ?_)
          refine ew_bipush i51_196 (by decide) ?_
          refine ew_icmpne i51_198 (by omega) (fun c198 => ?_) (fun c198 => ?_)
          · refine ew_iinc_3 i51_209 rfl ?_
            refine ev_goto i51_212 ?_
            first
            | (have e1 : rd (zI (b + 1)) (-2) 40 (g_pt f (s.2.2 q) (b + 1)) := by
                 rw [pts, if_pos c198, if_pos c189]
                 exact rd_zI (by omega)
               first
               | (have e2 : g_ph f w (s.2.2 q) b + 1 = g_ph f w (s.2.2 q) (b + 1) := by rw [phs, if_neg c163]
                  rw [e2]
                  exact ih (by omega) (by omega) (by omega) _ _ _ (fr_up (fr_up (fr_up (fr_up hJ1 (by omega)) (by omega)) (by omega)) (by omega)) ⟨rd_zI (by omega), rd_zI (by omega), r5, e1, ar_co a38 rfl, ar_co a39' rfl⟩ hZ)
               | (have e2 : g_ph f w (s.2.2 q) b + 0 = g_ph f w (s.2.2 q) (b + 1) := by rw [phs, if_pos c163]
                  rw [e2]
                  exact ih (by omega) (by omega) (by omega) _ _ _ (fr_up (fr_up (fr_up (fr_up hJ1 (by omega)) (by omega)) (by omega)) (by omega)) ⟨rd_zI (by omega), rd_zI (by omega), r5, e1, ar_co a38 rfl, ar_co a39' rfl⟩ hZ))
            | (have e1 : g_pt f (s.2.2 q) (b + 1) = g_pt f (s.2.2 q) b := by
                 rw [pts]
                 first
                 | rw [if_neg c198]
                 | (by_cases c9 : g_pt f (s.2.2 q) b = -2
                    · rw [if_pos c9, if_neg c189, c9]
                    · rw [if_neg c9])
               first
               | (have e2 : g_ph f w (s.2.2 q) b + 1 = g_ph f w (s.2.2 q) (b + 1) := by rw [phs, if_neg c163]
                  rw [e2]
                  exact ih (by omega) (by omega) (by omega) _ _ _ (fr_up (fr_up (fr_up hJ1 (by omega)) (by omega)) (by omega)) ⟨rd_zI (by omega), rd_zI (by omega), r5, by rw [e1]; exact r6, ar_co a38 rfl, ar_co a39' rfl⟩ hZ)
               | (have e2 : g_ph f w (s.2.2 q) b + 0 = g_ph f w (s.2.2 q) (b + 1) := by rw [phs, if_pos c163]
                  rw [e2]
                  exact ih (by omega) (by omega) (by omega) _ _ _ (fr_up (fr_up (fr_up hJ1 (by omega)) (by omega)) (by omega)) ⟨rd_zI (by omega), rd_zI (by omega), r5, by rw [e1]; exact r6, ar_co a38 rfl, ar_co a39' rfl⟩ hZ))
          · refine ev_aloadn_0 i51_201 ?_
            refine ev_aloadn_0 i51_202 ?_
            refine ew_getI i51_203 g51_203 rfl ((rd_zI (lo := 0) (hi := 40) (v := b + 1) (by omega))) (fun b203 => ?_)
            refine ev_putI i51_206 g51_206 rfl ?_
            refine ew_iinc_3 i51_209 rfl ?_
            refine ev_goto i51_212 ?_
            first
            | (have e1 : rd (zI (b + 1)) (-2) 40 (g_pt f (s.2.2 q) (b + 1)) := by
                 rw [pts, if_pos c198, if_pos c189]
                 exact rd_zI (by omega)
               first
               | (have e2 : g_ph f w (s.2.2 q) b + 1 = g_ph f w (s.2.2 q) (b + 1) := by rw [phs, if_neg c163]
                  rw [e2]
                  exact ih (by omega) (by omega) (by omega) _ _ _ (fr_up (fr_up (fr_up (fr_up hJ1 (by omega)) (by omega)) (by omega)) (by omega)) ⟨rd_zI (by omega), rd_zI (by omega), r5, e1, ar_co a38 rfl, ar_co a39' rfl⟩ hZ)
               | (have e2 : g_ph f w (s.2.2 q) b + 0 = g_ph f w (s.2.2 q) (b + 1) := by rw [phs, if_pos c163]
                  rw [e2]
                  exact ih (by omega) (by omega) (by omega) _ _ _ (fr_up (fr_up (fr_up (fr_up hJ1 (by omega)) (by omega)) (by omega)) (by omega)) ⟨rd_zI (by omega), rd_zI (by omega), r5, e1, ar_co a38 rfl, ar_co a39' rfl⟩ hZ))
            | (have e1 : g_pt f (s.2.2 q) (b + 1) = g_pt f (s.2.2 q) b := by
                 rw [pts]
                 first
                 | rw [if_neg c198]
                 | (by_cases c9 : g_pt f (s.2.2 q) b = -2
                    · rw [if_pos c9, if_neg c189, c9]
                    · rw [if_neg c9])
               first
               | (have e2 : g_ph f w (s.2.2 q) b + 1 = g_ph f w (s.2.2 q) (b + 1) := by rw [phs, if_neg c163]
                  rw [e2]
                  exact ih (by omega) (by omega) (by omega) _ _ _ (fr_up (fr_up (fr_up hJ1 (by omega)) (by omega)) (by omega)) ⟨rd_zI (by omega), rd_zI (by omega), r5, by rw [e1]; exact r6, ar_co a38 rfl, ar_co a39' rfl⟩ hZ)
               | (have e2 : g_ph f w (s.2.2 q) b + 0 = g_ph f w (s.2.2 q) (b + 1) := by rw [phs, if_pos c163]
                  rw [e2]
                  exact ih (by omega) (by omega) (by omega) _ _ _ (fr_up (fr_up (fr_up hJ1 (by omega)) (by omega)) (by omega)) ⟨rd_zI (by omega), rd_zI (by omega), r5, by rw [e1]; exact r6, ar_co a38 rfl, ar_co a39' rfl⟩ hZ))
    have stop : (b < g_pm s q → ¬ g_pok f (s.2.2 q) b) → ∀ o o2, ts_Ev X (ts_Cal X (d + 4)) 51 ts_S0 K 215 [.ref 37, .ref (60 + 2 * q), .int (zI (g_pm s q)), .int (zI (b)), o, o2] [] (J, L, ts_P0 sw, ts_S0) := by
      intro hb o o2
      have e : b = g_pb s f q := by
        rw [← hZ]
        by_cases c : b < g_pm s q
        · rw [zfd_1 c, if_pos (hb c)]
        · rw [zfd_0 c]; omega
      refine ev_return i51_215 r51 ?_
      rw [e] at hR
      exact hK J hJ hR
    refine ev_iloadn_3 i51_68 ?_
    refine ev_iloadn_2 i51_69 ?_
    refine ew_icmpge i51_70 (by omega) (fun c70 => ?_) (fun c70 => ?_)
    · first
      | exact stop (fun c => absurd c (by omega)) _ _
      | exact stop (fun _ r => by have r1 := r.1; omega) _ _
    · refine ev_aloadn_1 i51_73 ?_
      refine ev_getA i51_74 g51_74 (she_I hq) (she_P hq) (by omega) ?_
      refine ev_iloadn_3 i51_77 ?_
      refine ew_laload i51_78 (she_A hq) (by omega) (by omega) (by omega) ((hSJ.it hq h0 (by omega))) (fun b78 => ?_)
      refine ew_l2i i51_79 ?_
      have hbb := hby b h0 (by omega)
      refine ev_istore_4 i51_80 rfl ?_
      refine ev_aloadn_0 i51_82 ?_
      refine ev_getA i51_83 g51_83 rfl rfl (by decide) ?_
      refine ev_iloadn_3 i51_86 ?_
      refine ev_virt1 i51_87 g51_87 rfl (by decide +kernel) (Nat.le_of_ble_eq_true rfl) (x_manOf hXJ (by omega) ?_)
      have mr : ((if 0 < f_men f ∧ 0 ≤ b then b % f_men f else -2) = -2 ∧ f_men f = 0) ∨ ((if 0 < f_men f ∧ 0 ≤ b then b % f_men f else -2) = b % f_men f ∧ 0 < f_men f ∧ 0 ≤ b % f_men f ∧ b % f_men f < f_men f) := by
        by_cases q : 0 < f_men f
        · have q1 := Int.emod_nonneg b (show ¬ f_men f = 0 by omega)
          have q2 := Int.emod_lt_of_pos b q
          exact Or.inr ⟨if_pos ⟨q, h0⟩, q, q1, q2⟩
        · exact Or.inl ⟨if_neg (fun r => q r.1), by omega⟩
      generalize hmm : (if 0 < f_men f ∧ 0 ≤ b then b % f_men f else -2) = mm at *
      refine ev_istore_5 i51_90 rfl ?_
      refine ev_iload_5 i51_92 ?_
      refine ew_bipush i51_94 (by decide) ?_
      refine ew_icmpeq i51_96 (by omega) (fun c96 => ?_) (fun c96 => ?_)
      · first
        | exact stop (fun c => absurd c (by omega)) _ _
        | exact stop (fun _ r => by have r1 := r.1; omega) _ _
      · refine ev_iload_4 i51_99 ?_
        refine ew_bipush i51_101 (by decide) ?_
        refine ew_icmpeq i51_103 (by omega) (fun c103 => ?_) (fun c103 => ?_)
        · obtain rfl : mm = b % f_men f := by omega
          have ok : g_pok f (s.2.2 q) b := by
            refine ⟨by omega, ?_⟩
            first
            | exact Or.inl c103
            | exact Or.inr ⟨c117.2.2.1, c117.2.2.2.1, c117.2.2.2.2⟩
          have pcs := pcn_s (f := f) (it := s.2.2 q) h0
          refine ev_aloadn_0 i51_123 ?_
          refine ev_getA i51_124 g51_124 rfl rfl (by decide) ?_
          refine ev_iloadn_3 i51_127 ?_
          refine ev_iload_4 i51_128 ?_
          refine ew_bipush i51_130 (by decide) ?_
          refine ew_icmpne i51_132 (by omega) (fun c132 => ?_) (fun c132 => ?_)
          · refine ev_aloadn_0 i51_140 ?_
            refine ev_iload_5 i51_141 ?_
            refine ev_iload_4 i51_143 ?_
            refine ev_iloadn_3 i51_145 ?_
            refine ev_virt3 i51_146 g51_146 rfl (by decide +kernel) (Nat.le_of_ble_eq_true rfl) (x_toneHeard hXJ hWJ hO hR.2.2.2.2.1 hR.2.2.1 ⟨by omega, by omega⟩ ⟨by have := ok.2; omega, by have := ok.2; omega⟩ (by omega) (fun J1 q0 q1 q2 q3 q4 q5 q6 => ?_))
            first
            | (rw [if_pos c132] at pcs
               rw [show (-2 : Int) = g_hd f w (s.2.2 q) b from (if_pos c132).symm]
               exact fin (by omega) ok J _ _ hJ hR.2.2.2.2.2 hR.1 hR.2.1 hR.2.2.2.1 (by rw [pcs]; exact hR.2.2.2.2.1) (by unfold g_pc; rw [pcs]; exact hR.2.2.1))
            | (rw [if_neg c132] at pcs
               have e := fin (by omega) ok J1 (.int (zI (s.2.2 q b))) (.int (zI (b % f_men f))) (fr_tr hJ q0) (ar_co hR.2.2.2.2.2 q1) (by rw [q2]; exact hR.1) (by rw [q3]; exact hR.2.1) (by rw [q4]; exact hR.2.2.2.1) (by rw [pcs]; exact q5) (by unfold g_pc; rw [pcs]; exact q6)
               rw [show g_hd f w (s.2.2 q) b = _ from if_neg c132] at e
               exact e)
          · refine ew_bipush i51_135 (by decide) ?_
            refine ev_goto i51_137 ?_
            first
            | (rw [if_pos c132] at pcs
               rw [show (-2 : Int) = g_hd f w (s.2.2 q) b from (if_pos c132).symm]
               exact fin (by omega) ok J _ _ hJ hR.2.2.2.2.2 hR.1 hR.2.1 hR.2.2.2.1 (by rw [pcs]; exact hR.2.2.2.2.1) (by unfold g_pc; rw [pcs]; exact hR.2.2.1))
            | (rw [if_neg c132] at pcs
               have e := fin (by omega) ok J1 (.int (zI (s.2.2 q b))) (.int (zI (b % f_men f))) (fr_tr hJ q0) (ar_co hR.2.2.2.2.2 q1) (by rw [q2]; exact hR.1) (by rw [q3]; exact hR.2.1) (by rw [q4]; exact hR.2.2.2.1) (by rw [pcs]; exact q5) (by unfold g_pc; rw [pcs]; exact q6)
               rw [show g_hd f w (s.2.2 q) b = _ from if_neg c132] at e
               exact e)
        · refine ev_aloadn_0 i51_106 ?_
          refine ev_getA i51_107 g51_107 rfl rfl (by decide) ?_
          refine ev_iload_5 i51_110 ?_
          refine ev_iload_4 i51_112 ?_
          refine ev_virt2 i51_114 g51_114 rfl (by decide +kernel) (Nat.le_of_ble_eq_true rfl) (x_canStrikeG hXJ (by omega) (by omega) ?_)
          first
          | refine ew_ifneB i51_117 (fun c117 => ?_) (fun c117 => ?_)
          | refine ew_ifne i51_117 (by omega) (fun c117 => ?_) (fun c117 => ?_)
          · obtain rfl : mm = b % f_men f := by omega
            have ok : g_pok f (s.2.2 q) b := by
              refine ⟨by omega, ?_⟩
              first
              | exact Or.inl c103
              | exact Or.inr ⟨c117.2.2.1, c117.2.2.2.1, c117.2.2.2.2⟩
            have pcs := pcn_s (f := f) (it := s.2.2 q) h0
            refine ev_aloadn_0 i51_123 ?_
            refine ev_getA i51_124 g51_124 rfl rfl (by decide) ?_
            refine ev_iloadn_3 i51_127 ?_
            refine ev_iload_4 i51_128 ?_
            refine ew_bipush i51_130 (by decide) ?_
            refine ew_icmpne i51_132 (by omega) (fun c132 => ?_) (fun c132 => ?_)
            · refine ev_aloadn_0 i51_140 ?_
              refine ev_iload_5 i51_141 ?_
              refine ev_iload_4 i51_143 ?_
              refine ev_iloadn_3 i51_145 ?_
              refine ev_virt3 i51_146 g51_146 rfl (by decide +kernel) (Nat.le_of_ble_eq_true rfl) (x_toneHeard hXJ hWJ hO hR.2.2.2.2.1 hR.2.2.1 ⟨by omega, by omega⟩ ⟨by have := ok.2; omega, by have := ok.2; omega⟩ (by omega) (fun J1 q0 q1 q2 q3 q4 q5 q6 => ?_))
              first
              | (rw [if_pos c132] at pcs
                 rw [show (-2 : Int) = g_hd f w (s.2.2 q) b from (if_pos c132).symm]
                 exact fin (by omega) ok J _ _ hJ hR.2.2.2.2.2 hR.1 hR.2.1 hR.2.2.2.1 (by rw [pcs]; exact hR.2.2.2.2.1) (by unfold g_pc; rw [pcs]; exact hR.2.2.1))
              | (rw [if_neg c132] at pcs
                 have e := fin (by omega) ok J1 (.int (zI (s.2.2 q b))) (.int (zI (b % f_men f))) (fr_tr hJ q0) (ar_co hR.2.2.2.2.2 q1) (by rw [q2]; exact hR.1) (by rw [q3]; exact hR.2.1) (by rw [q4]; exact hR.2.2.2.1) (by rw [pcs]; exact q5) (by unfold g_pc; rw [pcs]; exact q6)
                 rw [show g_hd f w (s.2.2 q) b = _ from if_neg c132] at e
                 exact e)
            · refine ew_bipush i51_135 (by decide) ?_
              refine ev_goto i51_137 ?_
              first
              | (rw [if_pos c132] at pcs
                 rw [show (-2 : Int) = g_hd f w (s.2.2 q) b from (if_pos c132).symm]
                 exact fin (by omega) ok J _ _ hJ hR.2.2.2.2.2 hR.1 hR.2.1 hR.2.2.2.1 (by rw [pcs]; exact hR.2.2.2.2.1) (by unfold g_pc; rw [pcs]; exact hR.2.2.1))
              | (rw [if_neg c132] at pcs
                 have e := fin (by omega) ok J1 (.int (zI (s.2.2 q b))) (.int (zI (b % f_men f))) (fr_tr hJ q0) (ar_co hR.2.2.2.2.2 q1) (by rw [q2]; exact hR.1) (by rw [q3]; exact hR.2.1) (by rw [q4]; exact hR.2.2.2.1) (by rw [pcs]; exact q5) (by unfold g_pc; rw [pcs]; exact q6)
                 rw [show g_hd f w (s.2.2 q) b = _ from if_neg c132] at e
                 exact e)
          · refine ev_goto i51_120 ?_
            refine stop (fun _ r => ?_) _ _
            obtain rfl : mm = b % f_men f := by omega
            rcases r.2 with r2 | r2
            · exact c103 r2
            · exact c117 ⟨by omega, by omega, r2.1, r2.2.1, r2.2.2⟩
  refine ev_enter (lv := [.ref 37, .ref (60 + 2 * q), .null, .null, .null, .null]) l51 rfl (Nat.le_of_ble_eq_true rfl) ?_
  refine ev_aloadn_0 i51_0 ?_
  refine ev_getA i51_1 g51_1 rfl rfl (by decide) ?_
  refine ev_getA i51_4 g51_4 rfl rfl (by decide) ?_
  refine ew_iconst i51_7 ?_
  refine ev_aloadn_0 i51_8 ?_
  refine ev_getA i51_9 g51_9 rfl rfl (by decide) ?_
  refine ew_iconst i51_12 ?_
  refine ew_bipush i51_13 (by decide) ?_
  refine ew_copyI i51_15 g51_15 rfl rfl (by omega) (by omega) (by omega) (by omega) (by omega) (Nat.le_of_ble_eq_true rfl) ?_
  refine ev_aloadn_0 i51_18 ?_
  refine ew_iconst i51_19 ?_
  refine ev_putI i51_20 g51_20 rfl ?_
  refine ev_aloadn_0 i51_23 ?_
  refine ew_iconst i51_24 ?_
  refine ev_putI i51_25 g51_25 rfl ?_
  refine ev_aloadn_0 i51_28 ?_
  refine ev_aloadn_0 i51_29 ?_
  refine ev_getA i51_30 g51_30 rfl rfl (by decide) ?_
  refine ev_virt0 i51_33 g51_33 rfl (by decide +kernel) (Nat.le_of_ble_eq_true rfl) (x_cornOfAll (RX.fpx hX (fr_up (fr_up (fr_cp (fr_rfl _ _) (fun k => by omega)) (by omega)) (by omega))) (fun z0 z1 => ?_))
  refine ev_putI i51_36 g51_36 rfl ?_
  refine ev_aloadn_0 i51_39 ?_
  refine ev_aloadn_0 i51_40 ?_
  refine ew_getI i51_41 g51_41 rfl ((rd_zI (lo := 0) (hi := 144) (v := zsum (f_corn f) 16) (by omega))) (fun b41 => ?_)
  first
  | refine ew_ifneB i51_44 (fun c44 => ?_) (fun c44 => ?_)
  | refine ew_ifne i51_44 (by omega) (fun c44 => ?_) (fun c44 => ?_)
  · refine ew_bipush i51_51 (by decide) ?_
    refine ev_putI i51_53 g51_53 rfl ?_
    refine ew_bipush i51_56 (by decide) ?_
    refine ev_aloadn_1 i51_58 ?_
    refine ew_getI i51_59 g51_59 (she_I hq) ((by rw [ts_up_na (by omega), ts_up_na (by omega), ts_up_na (by omega), ts_up_na (by omega), ts_cp_na (by omega)]; exact hS.size hq)) (fun b59 => ?_)
    refine ew_mmin i51_62 g51_62 (Nat.le_of_ble_eq_true rfl) (by omega) ?_
    refine ev_istoren_2 i51_65 rfl ?_
    refine ew_iconst i51_66 ?_
    refine ev_istoren_3 i51_67 rfl ?_
    rw [show (if s.2.1 q < 40 then s.2.1 q else 40) = g_pm s q from rfl]
    have ept : g_pt f (s.2.2 q) 0 = if zsum (f_corn f) 16 = 0 then 0 else -2 := by
      unfold g_pt
      rw [zfd_1 (by decide), zfd_0 (by decide)]
      rfl
    have a4 : ar (ts_cp I 4 0 38 0 16) 38 16 0 9 (f_corn f) := ar_cp (N := 16) hX.corn rfl
    first
    | (have e := loop 0 (by decide) hm.1 (ts_up (ts_up (ts_up (ts_up (ts_cp I 4 0 38 0 16) 37 3 (zI 0)) 37 4 (zI 0)) 37 5 (zI (zsum (f_corn f) 16))) 37 6 (zI 0)) .null .null (fr_up (fr_up (fr_up (fr_up (fr_cp (fr_rfl _ _) (fun k => by omega)) (by omega)) (by omega)) (by omega)) (by omega)) ⟨rd_zI (by decide), (show rd (zI 0) 0 40 (g_ph f w (s.2.2 q) 0) from ⟨rfl, (by decide : (0 : Int) ≤ 0), (by decide : (0 : Int) ≤ 40)⟩), rd_zI (v := g_pc f (s.2.2 q) 0) ⟨z0, z1⟩, by rw [ept, if_pos c44]; exact rd_zI (by decide), ar_co a4 rfl, fun p p0 p1 => by omega⟩ rfl
       exact e)
    | (have e := loop 0 (by decide) hm.1 (ts_up (ts_up (ts_up (ts_up (ts_cp I 4 0 38 0 16) 37 3 (zI 0)) 37 4 (zI 0)) 37 5 (zI (zsum (f_corn f) 16))) 37 6 (zI (-2))) .null .null (fr_up (fr_up (fr_up (fr_up (fr_cp (fr_rfl _ _) (fun k => by omega)) (by omega)) (by omega)) (by omega)) (by omega)) ⟨rd_zI (by decide), (show rd (zI 0) 0 40 (g_ph f w (s.2.2 q) 0) from ⟨rfl, (by decide : (0 : Int) ≤ 0), (by decide : (0 : Int) ≤ 40)⟩), rd_zI (v := g_pc f (s.2.2 q) 0) ⟨z0, z1⟩, by rw [ept, if_neg c44]; exact rd_zI (by decide), ar_co a4 rfl, fun p p0 p1 => by omega⟩ rfl
       exact e)
  · refine ew_iconst i51_47 ?_
    refine ev_goto i51_48 ?_
    refine ev_putI i51_53 g51_53 rfl ?_
    refine ew_bipush i51_56 (by decide) ?_
    refine ev_aloadn_1 i51_58 ?_
    refine ew_getI i51_59 g51_59 (she_I hq) ((by rw [ts_up_na (by omega), ts_up_na (by omega), ts_up_na (by omega), ts_up_na (by omega), ts_cp_na (by omega)]; exact hS.size hq)) (fun b59 => ?_)
    refine ew_mmin i51_62 g51_62 (Nat.le_of_ble_eq_true rfl) (by omega) ?_
    refine ev_istoren_2 i51_65 rfl ?_
    refine ew_iconst i51_66 ?_
    refine ev_istoren_3 i51_67 rfl ?_
    rw [show (if s.2.1 q < 40 then s.2.1 q else 40) = g_pm s q from rfl]
    have ept : g_pt f (s.2.2 q) 0 = if zsum (f_corn f) 16 = 0 then 0 else -2 := by
      unfold g_pt
      rw [zfd_1 (by decide), zfd_0 (by decide)]
      rfl
    have a4 : ar (ts_cp I 4 0 38 0 16) 38 16 0 9 (f_corn f) := ar_cp (N := 16) hX.corn rfl
    first
    | (have e := loop 0 (by decide) hm.1 (ts_up (ts_up (ts_up (ts_up (ts_cp I 4 0 38 0 16) 37 3 (zI 0)) 37 4 (zI 0)) 37 5 (zI (zsum (f_corn f) 16))) 37 6 (zI 0)) .null .null (fr_up (fr_up (fr_up (fr_up (fr_cp (fr_rfl _ _) (fun k => by omega)) (by omega)) (by omega)) (by omega)) (by omega)) ⟨rd_zI (by decide), (show rd (zI 0) 0 40 (g_ph f w (s.2.2 q) 0) from ⟨rfl, (by decide : (0 : Int) ≤ 0), (by decide : (0 : Int) ≤ 40)⟩), rd_zI (v := g_pc f (s.2.2 q) 0) ⟨z0, z1⟩, by rw [ept, if_pos c44]; exact rd_zI (by decide), ar_co a4 rfl, fun p p0 p1 => by omega⟩ rfl
       exact e)
    | (have e := loop 0 (by decide) hm.1 (ts_up (ts_up (ts_up (ts_up (ts_cp I 4 0 38 0 16) 37 3 (zI 0)) 37 4 (zI 0)) 37 5 (zI (zsum (f_corn f) 16))) 37 6 (zI (-2))) .null .null (fr_up (fr_up (fr_up (fr_up (fr_cp (fr_rfl _ _) (fun k => by omega)) (by omega)) (by omega)) (by omega)) (by omega)) ⟨rd_zI (by decide), (show rd (zI 0) 0 40 (g_ph f w (s.2.2 q) 0) from ⟨rfl, (by decide : (0 : Int) ≤ 0), (by decide : (0 : Int) ≤ 40)⟩), rd_zI (v := g_pc f (s.2.2 q) 0) ⟨z0, z1⟩, by rw [ept, if_neg c44]; exact rd_zI (by decide), ar_co a4 rfl, fun p p0 p1 => by omega⟩ rfl
       exact e)
end WA
