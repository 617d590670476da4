theorem i184_0 : ts_ins 184 0 = some (.aload_n 0, 1, 0) := by decide +kernel
theorem i184_1 : ts_ins 184 1 = some (.iload_n 1, 2, 0) := by decide +kernel
theorem i184_2 : ts_ins 184 2 = some (.i2l, 3, 0) := by decide +kernel
theorem i184_3 : ts_ins 184 3 = some (.invokevirtual 131, 6, 0) := by decide +kernel
theorem g184_3 : ts_cal (ts_mc 184) 131 = some (0, 150, 1) := by decide +kernel
theorem i184_6 : ts_ins 184 6 = some (.ifCond .eq 7, 9, 13) := by decide +kernel
theorem i184_9 : ts_ins 184 9 = some (.iload_n 2, 10, 0) := by decide +kernel
theorem i184_10 : ts_ins 184 10 = some (.ifCond .ge 5, 13, 15) := by decide +kernel
theorem i184_13 : ts_ins 184 13 = some (.iconst (-1), 14, 0) := by decide +kernel
theorem i184_14 : ts_ins 184 14 = some (.ireturn, 15, 0) := by decide +kernel
theorem i184_15 : ts_ins 184 15 = some (.aload_n 0, 16, 0) := by decide +kernel
theorem i184_16 : ts_ins 184 16 = some (.iload_n 1, 17, 0) := by decide +kernel
theorem i184_17 : ts_ins 184 17 = some (.invokevirtual 229, 20, 0) := by decide +kernel
theorem g184_17 : ts_cal (ts_mc 184) 229 = some (0, 183, 1) := by decide +kernel
theorem i184_20 : ts_ins 184 20 = some (.ifCond .eq 22, 23, 42) := by decide +kernel
theorem i184_23 : ts_ins 184 23 = some (.iload_n 2, 24, 0) := by decide +kernel
theorem i184_24 : ts_ins 184 24 = some (.aload_n 0, 25, 0) := by decide +kernel
theorem i184_25 : ts_ins 184 25 = some (.getfield 22, 28, 0) := by decide +kernel
theorem g184_25 : ts_fm 184 22 = some (12, 8, 2) := by decide +kernel
theorem i184_28 : ts_ins 184 28 = some (.iload_n 1, 29, 0) := by decide +kernel
theorem i184_29 : ts_ins 184 29 = some (.iaload, 30, 0) := by decide +kernel
theorem i184_30 : ts_ins 184 30 = some (.if_icmp .ge 12, 33, 42) := by decide +kernel
theorem i184_33 : ts_ins 184 33 = some (.aload_n 0, 34, 0) := by decide +kernel
theorem i184_34 : ts_ins 184 34 = some (.getfield 43, 37, 0) := by decide +kernel
theorem g184_34 : ts_fm 184 43 = some (12, 23, 2) := by decide +kernel
theorem i184_37 : ts_ins 184 37 = some (.iload_n 2, 38, 0) := by decide +kernel
theorem i184_38 : ts_ins 184 38 = some (.iaload, 39, 0) := by decide +kernel
theorem i184_39 : ts_ins 184 39 = some (.goto 5, 42, 44) := by decide +kernel
theorem i184_42 : ts_ins 184 42 = some (.bipush (-2), 44, 0) := by decide +kernel
theorem i184_44 : ts_ins 184 44 = some (.ireturn, 45, 0) := by decide +kernel
theorem r184 : ts_rt 184 = ((some .int), 0, 0) := by decide +kernel
theorem l184 : ts_ml 184 = 3 := by decide +kernel
theorem i185_0 : ts_ins 185 0 = some (.iconst 0, 1, 0) := by decide +kernel
theorem i185_1 : ts_ins 185 1 = some (.istore_n 1, 2, 0) := by decide +kernel
theorem i185_2 : ts_ins 185 2 = some (.iconst 0, 3, 0) := by decide +kernel
theorem i185_3 : ts_ins 185 3 = some (.istore_n 2, 4, 0) := by decide +kernel
theorem i185_4 : ts_ins 185 4 = some (.iload_n 2, 5, 0) := by decide +kernel
theorem i185_5 : ts_ins 185 5 = some (.aload_n 0, 6, 0) := by decide +kernel
theorem i185_6 : ts_ins 185 6 = some (.getfield 102, 9, 0) := by decide +kernel
theorem g185_6 : ts_fm 185 102 = some (12, 7, 0) := by decide +kernel
theorem i185_9 : ts_ins 185 9 = some (.if_icmp .ge 27, 12, 36) := by decide +kernel
theorem i185_12 : ts_ins 185 12 = some (.iload_n 1, 13, 0) := by decide +kernel
theorem i185_13 : ts_ins 185 13 = some (.aload_n 0, 14, 0) := by decide +kernel
theorem i185_14 : ts_ins 185 14 = some (.iload_n 2, 15, 0) := by decide +kernel
theorem i185_15 : ts_ins 185 15 = some (.invokevirtual 229, 18, 0) := by decide +kernel
theorem g185_15 : ts_cal (ts_mc 185) 229 = some (0, 183, 1) := by decide +kernel
theorem i185_18 : ts_ins 185 18 = some (.ifCond .eq 9, 21, 27) := by decide +kernel
theorem i185_21 : ts_ins 185 21 = some (.iconst 1, 22, 0) := by decide +kernel
theorem i185_22 : ts_ins 185 22 = some (.iload_n 2, 23, 0) := by decide +kernel
theorem i185_23 : ts_ins 185 23 = some (.ishl, 24, 0) := by decide +kernel
theorem i185_24 : ts_ins 185 24 = some (.goto 4, 27, 28) := by decide +kernel
theorem i185_27 : ts_ins 185 27 = some (.iconst 0, 28, 0) := by decide +kernel
theorem i185_28 : ts_ins 185 28 = some (.ior, 29, 0) := by decide +kernel
theorem i185_29 : ts_ins 185 29 = some (.istore_n 1, 30, 0) := by decide +kernel
theorem i185_30 : ts_ins 185 30 = some (.iinc 2 1, 33, 0) := by decide +kernel
theorem i185_33 : ts_ins 185 33 = some (.goto (-29), 36, 4) := by decide +kernel
theorem i185_36 : ts_ins 185 36 = some (.iload_n 1, 37, 0) := by decide +kernel
theorem i185_37 : ts_ins 185 37 = some (.ireturn, 38, 0) := by decide +kernel
theorem r185 : ts_rt 185 = ((some .int), 0, 0) := by decide +kernel
theorem l185 : ts_ml 185 = 3 := by decide +kernel
theorem i190_0 : ts_ins 190 0 = some (.iload_n 1, 1, 0) := by decide +kernel
theorem i190_1 : ts_ins 190 1 = some (.i2l, 2, 0) := by decide +kernel
theorem i190_2 : ts_ins 190 2 = some (.lconst 0, 3, 0) := by decide +kernel
theorem i190_3 : ts_ins 190 3 = some (.lconst 1, 4, 0) := by decide +kernel
theorem i190_4 : ts_ins 190 4 = some (.invokestatic 95, 7, 0) := by decide +kernel
theorem g190_4 : ts_cal (ts_mc 190) 95 = some (1, 143, 3) := by decide +kernel
theorem i190_7 : ts_ins 190 7 = some (.ifCond .ne 5, 10, 12) := by decide +kernel
theorem i190_10 : ts_ins 190 10 = some (.iconst (-1), 11, 0) := by decide +kernel
theorem i190_11 : ts_ins 190 11 = some (.ireturn, 12, 0) := by decide +kernel
theorem i190_12 : ts_ins 190 12 = some (.iconst 0, 13, 0) := by decide +kernel
theorem i190_13 : ts_ins 190 13 = some (.istore_n 2, 14, 0) := by decide +kernel
theorem i190_14 : ts_ins 190 14 = some (.iconst (-1), 15, 0) := by decide +kernel
theorem i190_15 : ts_ins 190 15 = some (.istore_n 3, 16, 0) := by decide +kernel
theorem i190_16 : ts_ins 190 16 = some (.iconst 0, 17, 0) := by decide +kernel
theorem i190_17 : ts_ins 190 17 = some (.istore 4, 19, 0) := by decide +kernel
theorem i190_19 : ts_ins 190 19 = some (.iload 4, 21, 0) := by decide +kernel
theorem i190_21 : ts_ins 190 21 = some (.bipush 16, 23, 0) := by decide +kernel
theorem i190_23 : ts_ins 190 23 = some (.if_icmp .ge 109, 26, 132) := by decide +kernel
theorem i190_26 : ts_ins 190 26 = some (.aload_n 0, 27, 0) := by decide +kernel
theorem i190_27 : ts_ins 190 27 = some (.getfield 9, 30, 0) := by decide +kernel
theorem g190_27 : ts_fm 190 9 = some (12, 0, 2) := by decide +kernel
theorem i190_30 : ts_ins 190 30 = some (.iload 4, 32, 0) := by decide +kernel
theorem i190_32 : ts_ins 190 32 = some (.iaload, 33, 0) := by decide +kernel
theorem i190_33 : ts_ins 190 33 = some (.istore 5, 35, 0) := by decide +kernel
theorem i190_35 : ts_ins 190 35 = some (.iconst 0, 36, 0) := by decide +kernel
theorem i190_36 : ts_ins 190 36 = some (.istore 6, 38, 0) := by decide +kernel
theorem i190_38 : ts_ins 190 38 = some (.iload 6, 40, 0) := by decide +kernel
theorem i190_40 : ts_ins 190 40 = some (.bipush 8, 42, 0) := by decide +kernel
theorem i190_42 : ts_ins 190 42 = some (.if_icmp .ge 75, 45, 117) := by decide +kernel
theorem i190_45 : ts_ins 190 45 = some (.aload_n 0, 46, 0) := by decide +kernel
theorem i190_46 : ts_ins 190 46 = some (.getfield 9, 49, 0) := by decide +kernel
theorem g190_46 : ts_fm 190 9 = some (12, 0, 2) := by decide +kernel
theorem i190_49 : ts_ins 190 49 = some (.iload 4, 51, 0) := by decide +kernel
theorem i190_51 : ts_ins 190 51 = some (.iload 6, 53, 0) := by decide +kernel
theorem i190_53 : ts_ins 190 53 = some (.iastore, 54, 0) := by decide +kernel
theorem i190_54 : ts_ins 190 54 = some (.aload_n 0, 55, 0) := by decide +kernel
theorem i190_55 : ts_ins 190 55 = some (.invokevirtual 244, 58, 0) := by decide +kernel
theorem g190_55 : ts_cal (ts_mc 190) 244 = some (0, 185, 0) := by decide +kernel
theorem i190_58 : ts_ins 190 58 = some (.istore 7, 60, 0) := by decide +kernel
theorem i190_60 : ts_ins 190 60 = some (.iconst 0, 61, 0) := by decide +kernel
theorem i190_61 : ts_ins 190 61 = some (.istore 8, 63, 0) := by decide +kernel
theorem i190_63 : ts_ins 190 63 = some (.iconst 0, 64, 0) := by decide +kernel
theorem i190_64 : ts_ins 190 64 = some (.istore 9, 66, 0) := by decide +kernel
theorem i190_66 : ts_ins 190 66 = some (.iload 9, 68, 0) := by decide +kernel
theorem i190_68 : ts_ins 190 68 = some (.aload_n 0, 69, 0) := by decide +kernel
theorem i190_69 : ts_ins 190 69 = some (.getfield 102, 72, 0) := by decide +kernel
theorem g190_69 : ts_fm 190 102 = some (12, 7, 0) := by decide +kernel
theorem i190_72 : ts_ins 190 72 = some (.if_icmp .ge 21, 75, 93) := by decide +kernel
theorem i190_75 : ts_ins 190 75 = some (.iload 8, 77, 0) := by decide +kernel
theorem i190_77 : ts_ins 190 77 = some (.iload 7, 79, 0) := by decide +kernel
theorem i190_79 : ts_ins 190 79 = some (.iload 9, 81, 0) := by decide +kernel
theorem i190_81 : ts_ins 190 81 = some (.ishr, 82, 0) := by decide +kernel
theorem i190_82 : ts_ins 190 82 = some (.iconst 1, 83, 0) := by decide +kernel
theorem i190_83 : ts_ins 190 83 = some (.iand, 84, 0) := by decide +kernel
theorem i190_84 : ts_ins 190 84 = some (.iadd, 85, 0) := by decide +kernel
theorem i190_85 : ts_ins 190 85 = some (.istore 8, 87, 0) := by decide +kernel
theorem i190_87 : ts_ins 190 87 = some (.iinc 9 1, 90, 0) := by decide +kernel
theorem i190_90 : ts_ins 190 90 = some (.goto (-24), 93, 66) := by decide +kernel
theorem i190_93 : ts_ins 190 93 = some (.iload 8, 95, 0) := by decide +kernel
theorem i190_95 : ts_ins 190 95 = some (.iload_n 3, 96, 0) := by decide +kernel
theorem i190_96 : ts_ins 190 96 = some (.if_icmp .le 15, 99, 111) := by decide +kernel
theorem i190_99 : ts_ins 190 99 = some (.bipush 8, 101, 0) := by decide +kernel
theorem i190_101 : ts_ins 190 101 = some (.iload 4, 103, 0) := by decide +kernel
theorem i190_103 : ts_ins 190 103 = some (.imul, 104, 0) := by decide +kernel
theorem i190_104 : ts_ins 190 104 = some (.iload 6, 106, 0) := by decide +kernel
theorem i190_106 : ts_ins 190 106 = some (.iadd, 107, 0) := by decide +kernel
theorem i190_107 : ts_ins 190 107 = some (.istore_n 2, 108, 0) := by decide +kernel
theorem i190_108 : ts_ins 190 108 = some (.iload 8, 110, 0) := by decide +kernel
theorem i190_110 : ts_ins 190 110 = some (.istore_n 3, 111, 0) := by decide +kernel
theorem i190_111 : ts_ins 190 111 = some (.iinc 6 1, 114, 0) := by decide +kernel
theorem i190_114 : ts_ins 190 114 = some (.goto (-76), 117, 38) := by decide +kernel
theorem i190_117 : ts_ins 190 117 = some (.aload_n 0, 118, 0) := by decide +kernel
theorem i190_118 : ts_ins 190 118 = some (.getfield 9, 121, 0) := by decide +kernel
theorem g190_118 : ts_fm 190 9 = some (12, 0, 2) := by decide +kernel
theorem i190_121 : ts_ins 190 121 = some (.iload 4, 123, 0) := by decide +kernel
theorem i190_123 : ts_ins 190 123 = some (.iload 5, 125, 0) := by decide +kernel
theorem i190_125 : ts_ins 190 125 = some (.iastore, 126, 0) := by decide +kernel
theorem i190_126 : ts_ins 190 126 = some (.iinc 4 1, 129, 0) := by decide +kernel
theorem i190_129 : ts_ins 190 129 = some (.goto (-110), 132, 19) := by decide +kernel
theorem i190_132 : ts_ins 190 132 = some (.iload_n 1, 133, 0) := by decide +kernel
theorem i190_133 : ts_ins 190 133 = some (.ifCond .ne 7, 136, 140) := by decide +kernel
theorem i190_136 : ts_ins 190 136 = some (.iload_n 2, 137, 0) := by decide +kernel
theorem i190_137 : ts_ins 190 137 = some (.goto 4, 140, 141) := by decide +kernel
theorem i190_140 : ts_ins 190 140 = some (.iload_n 3, 141, 0) := by decide +kernel
theorem i190_141 : ts_ins 190 141 = some (.ireturn, 142, 0) := by decide +kernel
theorem r190 : ts_rt 190 = ((some .int), 0, 0) := by decide +kernel
theorem l190 : ts_ml 190 = 10 := by decide +kernel
/-! SAY, CAN, TUNE in the reference -/
def g_spA (f : ts_Fl) (w : ts_Lw) (x k : Int) : Int := if 0 ≤ x ∧ x < f_told f ∧ 0 ≤ k then (if k < f_len f x ∧ g_sp f w x = f_len f x then g_pk f w x k else -2) else -1
def g_canB (f : ts_Fl) (w : ts_Lw) : Int := zbits (fun x => g_sp f w x = f_len f x) (f_told f).toNat
abbrev f_tn (f : ts_Fl) (p t : Int) : ts_Fl := fs_tone f (zu (f_tone f) p t)
def g_tnn (f : ts_Fl) (w : ts_Lw) (p t : Int) : Int := zcnt (fun x => g_sp (f_tn f p t) w x = f_len f x) (f_told f).toNat
/-- the best of the first: how many, where -/
def g_bst (f : ts_Fl) (w : ts_Lw) : Nat → Int × Int
  | 0 => (-1, 0)
  | n + 1 => if (g_bst f w n).1 < g_tnn f w ((n : Int) / 8) ((n : Int) % 8) then (g_tnn f w ((n : Int) / 8) ((n : Int) % 8), (n : Int)) else g_bst f w n
theorem g_bst_s {f : ts_Fl} {w : ts_Lw} {i : Int} (h : 0 ≤ i) : g_bst f w (i + 1).toNat = if (g_bst f w i.toNat).1 < g_tnn f w (i / 8) (i % 8) then (g_tnn f w (i / 8) (i % 8), i) else g_bst f w i.toNat := by
  obtain ⟨n, rfl⟩ := Int.eq_ofNat_of_zero_le h
  rfl
theorem g_tnn_r (f : ts_Fl) (w : ts_Lw) (p t : Int) (h : 0 ≤ f_told f ∧ f_told f ≤ 8) : 0 ≤ g_tnn f w p t ∧ g_tnn f w p t ≤ 8 := by
  have r := zcnt_r (fun x => g_sp (f_tn f p t) w x = f_len f x) (f_told f).toNat
  unfold g_tnn
  omega
theorem g_bst_r (f : ts_Fl) (w : ts_Lw) (h : 0 ≤ f_told f ∧ f_told f ≤ 8) : ∀ n : Nat, -1 ≤ (g_bst f w n).1 ∧ (g_bst f w n).1 ≤ 8 ∧ 0 ≤ (g_bst f w n).2 ∧ (g_bst f w n).2 ≤ n := by
  intro n
  induction n with
  | zero => exact ⟨(by decide : (-1 : Int) ≤ -1), (by decide : (-1 : Int) ≤ 8), (by decide : (0 : Int) ≤ 0), (by decide : (0 : Int) ≤ 0)⟩
  | succ n ih =>
    have r := g_tnn_r f w ((n : Int) / 8) ((n : Int) % 8) h
    show -1 ≤ (if _ then _ else _ : Int × Int).1 ∧ (if _ then _ else _ : Int × Int).1 ≤ 8 ∧ 0 ≤ (if _ then _ else _ : Int × Int).2 ∧ (if _ then _ else _ : Int × Int).2 ≤ ((n + 1 : Nat) : Int)
    split
    · exact ⟨by show -1 ≤ g_tnn f w ((n : Int) / 8) ((n : Int) % 8); omega, r.2, by show (0 : Int) ≤ n; omega, by show (n : Int) ≤ ((n + 1 : Nat) : Int); omega⟩
    · omega
def g_tuneA (f : ts_Fl) (w : ts_Lw) (v : Int) : Int := if 0 ≤ v ∧ v ≤ 1 then (if v = 0 then (g_bst f w 128).2 else (g_bst f w 128).1) else -1
section SMM
variable {X : ts_X} {I J : Nat → Nat → Int32} {L : Nat → Nat → Int64} {sw : Bool} {K : Option Value → ts_H → Prop} {d : Nat} {f : ts_Fl} {w : ts_Lw}
theorem m_say (hM : RM I f) (hW : RMw I w) (hO : ROw w) {x k : Int} (hx : -2147483648 ≤ x ∧ x ≤ 2147483647) (hk : -2147483648 ≤ k ∧ k ≤ 2147483647) (hK : ∀ J, fr fcs I J → K (some (.int (zI (g_spA f w x k)))) (J, L, ts_P0 sw, ts_S0)) : ts_Cal X (d + 83) 184 [.ref 72, .int (zI (x)), .int (zI (k))] (I, L, ts_P0 sw, ts_S0) K := by
  have b1 := hM.told.2
  unfold g_spA at hK
  refine ev_enter (lv := [.ref 72, .int (zI (x)), .int (zI (k))]) l184 rfl (Nat.le_of_ble_eq_true rfl) ?_
  refine ev_aloadn_0 i184_0 ?_
  refine ev_iloadn_1 i184_1 ?_
  refine ew_i2l i184_2 (by omega) ?_
  refine ev_virt1 i184_3 g184_3 rfl (by decide +kernel) (Nat.le_of_ble_eq_true rfl) (m_isSaying hM (by omega) ?_)
  first
  | refine ew_ifeqB i184_6 (fun c6 => ?_) (fun c6 => ?_)
  | refine ew_ifeq i184_6 (by omega) (fun c6 => ?_) (fun c6 => ?_)
  · refine ew_iconst i184_13 ?_
    refine ev_ireturn i184_14 r184 ?_
    rw [if_neg (by omega)] at hK
    exact hK I (fr_rfl _ _)
  · refine ev_iloadn_2 i184_9 ?_
    refine ew_ifge i184_10 (by omega) (fun c10 => ?_) (fun c10 => ?_)
    · rw [if_pos (by omega)] at hK
      refine ev_aloadn_0 i184_15 ?_
      refine ev_iloadn_1 i184_16 ?_
      refine ev_virt1 i184_17 g184_17 rfl (by decide +kernel) (Nat.le_of_ble_eq_true rfl) (m_canSay hM hW hO (by omega) (fun J h1 h2 => ?_))
      have hMJ := hM.fcs h1
      have b2 := (hMJ.len x (by omega) (by omega)).2
      first
      | refine ew_ifeqB i184_20 (fun c20 => ?_) (fun c20 => ?_)
      | refine ew_ifeq i184_20 (by omega) (fun c20 => ?_) (fun c20 => ?_)
      · refine ew_bipush i184_42 (by decide) ?_
        refine ev_ireturn i184_44 r184 ?_
        first
        | (rw [if_pos (by omega)] at hK; exact hK J h1)
        | (rw [if_neg (by omega)] at hK; exact zK (hK J h1) (by omega))
      · refine ev_iloadn_2 i184_23 ?_
        refine ev_aloadn_0 i184_24 ?_
        refine ev_getA i184_25 g184_25 rfl rfl (by decide) ?_
        refine ev_iloadn_1 i184_28 ?_
        refine ew_iaload i184_29 rfl (by omega) (by omega) (by omega) ((hMJ.len x (by omega) (by omega))) (fun b29 => ?_)
        refine ew_icmpge i184_30 (by omega) (fun c30 => ?_) (fun c30 => ?_)
        · refine ew_bipush i184_42 (by decide) ?_
          refine ev_ireturn i184_44 r184 ?_
          first
          | (rw [if_pos (by omega)] at hK; exact hK J h1)
          | (rw [if_neg (by omega)] at hK; exact zK (hK J h1) (by omega))
        · have a2 := h2 (by omega)
          refine ev_aloadn_0 i184_33 ?_
          refine ev_getA i184_34 g184_34 rfl rfl (by decide) ?_
          refine ev_iloadn_2 i184_37 ?_
          refine ew_iaload i184_38 rfl (by omega) (by omega) (by omega) ((a2 k (by omega) (by omega))) (fun b38 => ?_)
          refine ev_goto i184_39 ?_
          refine ev_ireturn i184_44 r184 ?_
          first
          | (rw [if_pos (by omega)] at hK; exact hK J h1)
          | (rw [if_neg (by omega)] at hK; exact zK (hK J h1) (by omega))
    · refine ew_iconst i184_13 ?_
      refine ev_ireturn i184_14 r184 ?_
      rw [if_neg (by omega)] at hK
      exact hK I (fr_rfl _ _)
theorem m_can (hM : RM I f) (hW : RMw I w) (hO : ROw w) (hK : ∀ J, fr fcs I J → K (some (.int (zI (g_canB f w)))) (J, L, ts_P0 sw, ts_S0)) : ts_Cal X (d + 83) 185 [.ref 72] (I, L, ts_P0 sw, ts_S0) K := by
  have b1 := hM.told.2
  have loop : ∀ j : Int, 0 ≤ j → j ≤ f_told f → ∀ J, fr fcs I J → ts_Ev X (ts_Cal X (d + 82)) 185 ts_S0 K 4 [.ref 72, .int (zI (zbits (fun x => g_sp f w x = f_len f x) j.toNat)), .int (zI (j))] [] (J, L, ts_P0 sw, ts_S0) := by
    refine ts_ind (f_told f) (fun j ih j0 jn J hJ => ?_)
    have hMJ := hM.fcs hJ
    by_cases cj : j < f_told f
    · refine ev_iloadn_2 i185_4 ?_
      refine ev_aloadn_0 i185_5 ?_
      refine ew_getI i185_6 g185_6 rfl (by first | exact hMJ.told | exact hM.men | exact hM.told | exact hM.road | exact hM.stand _ (by omega) (by omega) | exact hM.reach _ (by omega) (by omega) | exact hM.arm _ (by omega) (by omega) | exact hM.late _ (by omega) (by omega) | exact hM.len _ (by omega) (by omega) | exact hM.corn _ (by omega) (by omega) | exact hM.say (by omega) (by omega) _ (by omega) (by omega) | exact hM.tone _ (by omega) (by omega)) (fun b6 => ?_)
      refine ew_icmpge i185_9 (by omega) (fun c9 => ?_) (fun c9 => ?_)
      · exfalso; omega
      · refine ev_iloadn_1 i185_12 ?_
        refine ev_aloadn_0 i185_13 ?_
        refine ev_iloadn_2 i185_14 ?_
        refine ev_virt1 i185_15 g185_15 rfl (by decide +kernel) (Nat.le_of_ble_eq_true rfl) (m_canSay hMJ (hW.fcs hJ) hO ⟨j0, cj⟩ (fun N h1 h2 => ?_))
        first
        | refine ew_ifeqB i185_18 (fun c18 => ?_) (fun c18 => ?_)
        | refine ew_ifeq i185_18 (by omega) (fun c18 => ?_) (fun c18 => ?_)
        · refine ew_iconst i185_27 ?_
          refine ew_ior i185_28 ?_
          refine ev_istoren_1 i185_29 rfl ?_
          refine ew_iinc_2 i185_30 rfl ?_
          refine ev_goto i185_33 ?_
          have e := ih (by omega) (by omega) (by omega) N (fr_tr hJ h1)
          rw [zbits_s j0] at e
          first
            | (rw [if_neg (by omega)] at e; rw [zor_0 (zbits_r _ _)]; exact e)
            | (rw [if_pos (by omega)] at e; exact e)
        · refine ew_iconst i185_21 ?_
          refine ev_iloadn_2 i185_22 ?_
          refine ew_ishl i185_23 ?_
          refine ev_goto i185_24 ?_
          refine ew_ior i185_28 ?_
          refine ev_istoren_1 i185_29 rfl ?_
          refine ew_iinc_2 i185_30 rfl ?_
          refine ev_goto i185_33 ?_
          have e := ih (by omega) (by omega) (by omega) N (fr_tr hJ h1)
          rw [zbits_s j0] at e
          first
            | (rw [if_neg (by omega)] at e; rw [zor_0 (zbits_r _ _)]; exact e)
            | (rw [if_pos (by omega)] at e; exact e)
    · obtain rfl : j = f_told f := by omega
      refine ev_iloadn_2 i185_4 ?_
      refine ev_aloadn_0 i185_5 ?_
      refine ew_getI i185_6 g185_6 rfl (by first | exact hMJ.told | exact hM.men | exact hM.told | exact hM.road | exact hM.stand _ (by omega) (by omega) | exact hM.reach _ (by omega) (by omega) | exact hM.arm _ (by omega) (by omega) | exact hM.late _ (by omega) (by omega) | exact hM.len _ (by omega) (by omega) | exact hM.corn _ (by omega) (by omega) | exact hM.say (by omega) (by omega) _ (by omega) (by omega) | exact hM.tone _ (by omega) (by omega)) (fun b6 => ?_)
      refine ew_icmpge i185_9 (by omega) (fun c9 => ?_) (fun c9 => ?_)
      · refine ev_iloadn_1 i185_36 ?_
        refine ev_ireturn i185_37 r185 ?_
        exact hK J hJ
      · exfalso; omega
  refine ev_enter (lv := [.ref 72, .null, .null]) l185 rfl (Nat.le_of_ble_eq_true rfl) ?_
  refine ew_iconst i185_0 ?_
  refine ev_istoren_1 i185_1 rfl ?_
  refine ew_iconst i185_2 ?_
  refine ev_istoren_2 i185_3 rfl ?_
  exact loop 0 (by decide) (by omega) I (fr_rfl _ _)
abbrev ftz : Nat → Nat → Prop := fun a k => (a = 72 ∧ 13 ≤ k ∧ k ≤ 17) ∨ a = 80 ∨ a = 81 ∨ a = 84 ∨ (a = 73 ∧ k < 16)
theorem RM.tn {p o t : Int} (h : RM J (f_tn f p o)) (hp : 0 ≤ p ∧ p < 16) (ht : 0 ≤ t ∧ t ≤ 7) : RM (ts_up J 73 p.toNat (zI t)) (f_tn f p t) := by
  have r := h.sTone hp ht
  have e : zu (zu (f_tone f) p o) p t = zu (f_tone f) p t := funext (fun q => by unfold zu; split <;> rfl)
  have r2 : RM (ts_up J 73 p.toNat (zI t)) (fs_tone (f_tn f p o) (zu (zu (f_tone f) p o) p t)) := r
  rw [e] at r2
  exact r2
theorem f_tn_id (f : ts_Fl) (p : Int) : f_tn f p (f_tone f p) = f := by
  have e : zu (f_tone f) p (f_tone f p) = f_tone f := funext (fun q => by unfold zu; split <;> simp_all)
  show fs_tone f (zu (f_tone f) p (f_tone f p)) = f
  rw [e]
theorem RMw.ftz (h : RMw I w) (e : fr ftz I J) : RMw J w := h.co (e 72 12 (by omega)) (fr_row e (fun k => by omega))
theorem m_tune (hM : RM I f) (hW : RMw I w) (hO : ROw w) {v : Int} (hv : -2147483648 ≤ v ∧ v ≤ 2147483647) (hK : ∀ J, fr ftz I J → RM J f → K (some (.int (zI (g_tuneA f w v)))) (J, L, ts_P0 sw, ts_S0)) : ts_Cal X (d + 84) 190 [.ref 72, .int (zI (v))] (I, L, ts_P0 sw, ts_S0) K := by
  have b1 := hM.told.2
  have br := g_bst_r f w b1
  unfold g_tuneA at hK
  have outer : 0 ≤ v ∧ v ≤ 1 → ∀ p : Int, 0 ≤ p → p ≤ 16 → ∀ J, fr ftz I J → RM J f → ∀ o5 o6 o7 o8 o9, ts_Ev X (ts_Cal X (d + 83)) 190 ts_S0 K 19 [.ref 72, .int (zI (v)), .int (zI ((g_bst f w (8 * p).toNat).2)), .int (zI ((g_bst f w (8 * p).toNat).1)), .int (zI (p)), o5, o6, o7, o8, o9] [] (J, L, ts_P0 sw, ts_S0) := by
    intro hv1
    rw [if_pos hv1] at hK
    refine ts_ind 16 (fun p ih p0 pn J hJ hMJ o5 o6 o7 o8 o9 => ?_)
    by_cases cp : p < 16
    · have bt := (hMJ.tone p p0 cp).2
      have inner : ∀ t : Int, 0 ≤ t → t ≤ 8 → ∀ N, fr ftz I N → ∀ o, RM N (f_tn f p o) → ∀ o7 o8 o9, ts_Ev X (ts_Cal X (d + 83)) 190 ts_S0 K 38 [.ref 72, .int (zI (v)), .int (zI ((g_bst f w (8 * p + t).toNat).2)), .int (zI ((g_bst f w (8 * p + t).toNat).1)), .int (zI (p)), .int (zI (f_tone f p)), .int (zI (t)), o7, o8, o9] [] (N, L, ts_P0 sw, ts_S0) := by
        refine ts_ind 8 (fun t ih2 t0 tn N hN o hMN o7 o8 o9 => ?_)
        have r1 := br (8 * p + t).toNat
        by_cases ct : t < 8
        · have cnt : ∀ M, fr ftz I M → RM M (f_tn f p t) → ∀ k : Int, 0 ≤ k → k ≤ f_told f → ts_Ev X (ts_Cal X (d + 83)) 190 ts_S0 K 66 [.ref 72, .int (zI (v)), .int (zI ((g_bst f w (8 * p + t).toNat).2)), .int (zI ((g_bst f w (8 * p + t).toNat).1)), .int (zI (p)), .int (zI (f_tone f p)), .int (zI (t)), .int (zI (g_canB (f_tn f p t) w)), .int (zI (zcnt (fun x => g_sp (f_tn f p t) w x = f_len f x) k.toNat)), .int (zI (k))] [] (M, L, ts_P0 sw, ts_S0) := by
            intro M hM1 hMM
            refine ts_ind (f_told f) (fun k ih3 k0 kn => ?_)
            have hto : rd (M 72 7) 0 8 (f_told f) := hMM.told
            have rk := zcnt_r (fun x => g_sp (f_tn f p t) w x = f_len f x) k.toNat
            by_cases ck : k < f_told f
            · refine ev_iload_9 i190_66 ?_
              refine ev_aloadn_0 i190_68 ?_
              refine ew_getI i190_69 g190_69 rfl (by first | exact hto | exact hM.men | exact hM.told | exact hM.road | exact hM.stand _ (by omega) (by omega) | exact hM.reach _ (by omega) (by omega) | exact hM.arm _ (by omega) (by omega) | exact hM.late _ (by omega) (by omega) | exact hM.len _ (by omega) (by omega) | exact hM.corn _ (by omega) (by omega) | exact hM.say (by omega) (by omega) _ (by omega) (by omega) | exact hM.tone _ (by omega) (by omega)) (fun b69 => ?_)
              refine ew_icmpge i190_72 (by omega) (fun c72 => ?_) (fun c72 => ?_)
              · exfalso; omega
              · refine ev_iload_8 i190_75 ?_
                refine ev_iload_7 i190_77 ?_
                refine ev_iload_9 i190_79 ?_
                refine ew_ishr i190_81 ?_
                refine ew_iconst i190_82 ?_
                refine ew_iand i190_83 ?_
                refine ew_iadd i190_84 ?_
                refine ev_istore_8 i190_85 rfl ?_
                refine ew_iinc_9 i190_87 rfl ?_
                refine ev_goto i190_90 ?_
                have e := ih3 ck (by omega) (by omega)
                have e2 : zand (zshr (g_canB (f_tn f p t) w) k) 1 = if g_sp (f_tn f p t) w k = f_len f k ∧ k < ((f_told f).toNat : Int) then 1 else 0 := zbits_bit (fun x => g_sp (f_tn f p t) w x = f_len f x) (n := (f_told f).toNat) (by omega) k0 (by omega)
                have zs : zcnt (fun x => g_sp (f_tn f p t) w x = f_len f x) (k + 1).toNat = zcnt (fun x => g_sp (f_tn f p t) w x = f_len f x) k.toNat + (if g_sp (f_tn f p t) w k = f_len f k then 1 else 0) := zsum_s k0
                rw [zs] at e
                rw [e2]
                by_cases q : g_sp (f_tn f p t) w k = f_len f k
                · rw [if_pos ⟨q, by omega⟩]
                  rw [if_pos q] at e
                  exact e
                · rw [if_neg (fun r => q r.1)]
                  rw [if_neg q] at e
                  exact e
            · obtain rfl : k = f_told f := by omega
              refine ev_iload_9 i190_66 ?_
              refine ev_aloadn_0 i190_68 ?_
              refine ew_getI i190_69 g190_69 rfl (by first | exact hto | exact hM.men | exact hM.told | exact hM.road | exact hM.stand _ (by omega) (by omega) | exact hM.reach _ (by omega) (by omega) | exact hM.arm _ (by omega) (by omega) | exact hM.late _ (by omega) (by omega) | exact hM.len _ (by omega) (by omega) | exact hM.corn _ (by omega) (by omega) | exact hM.say (by omega) (by omega) _ (by omega) (by omega) | exact hM.tone _ (by omega) (by omega)) (fun b69 => ?_)
              refine ew_icmpge i190_72 (by omega) (fun c72 => ?_) (fun c72 => ?_)
              · refine ev_iload_8 i190_93 ?_
                refine ev_iloadn_3 i190_95 ?_
                refine ew_icmple i190_96 (by omega) (fun c96 => ?_) (fun c96 => ?_)
                · refine ew_iinc_6 i190_111 rfl ?_
                  refine ev_goto i190_114 ?_
                  have e := ih2 ct (by omega) (by omega) M hM1 t hMM
                  have sb := g_bst_s (f := f) (w := w) (i := 8 * p + t) (by omega)
                  rw [show (8 * p + t) / 8 = p from by omega, show (8 * p + t) % 8 = t from by omega] at sb
                  rw [show 8 * p + (t + 1) = 8 * p + t + 1 from by omega, sb] at e
                  have gt : g_tnn f w p t = zcnt (fun x => g_sp (f_tn f p t) w x = f_len f x) (f_told f).toNat := rfl
                  first
                  | (rw [if_pos (by omega)] at e; exact e _ _ _)
                  | (rw [if_neg (by omega)] at e; exact e _ _ _)
                · refine ew_bipush i190_99 (by decide) ?_
                  refine ev_iload_4 i190_101 ?_
                  refine ew_imul i190_103 ?_
                  refine ev_iload_6 i190_104 ?_
                  refine ew_iadd i190_106 ?_
                  refine ev_istoren_2 i190_107 rfl ?_
                  refine ev_iload_8 i190_108 ?_
                  refine ev_istoren_3 i190_110 rfl ?_
                  refine ew_iinc_6 i190_111 rfl ?_
                  refine ev_goto i190_114 ?_
                  have e := ih2 ct (by omega) (by omega) M hM1 t hMM
                  have sb := g_bst_s (f := f) (w := w) (i := 8 * p + t) (by omega)
                  rw [show (8 * p + t) / 8 = p from by omega, show (8 * p + t) % 8 = t from by omega] at sb
                  rw [show 8 * p + (t + 1) = 8 * p + t + 1 from by omega, sb] at e
                  have gt : g_tnn f w p t = zcnt (fun x => g_sp (f_tn f p t) w x = f_len f x) (f_told f).toNat := rfl
                  first
                  | (rw [if_pos (by omega)] at e; exact e _ _ _)
                  | (rw [if_neg (by omega)] at e; exact e _ _ _)
              · exfalso; omega
          refine ev_iload_6 i190_38 ?_
          refine ew_bipush i190_40 (by decide) ?_
          refine ew_icmpge i190_42 (by omega) (fun c42 => ?_) (fun c42 => ?_)
          · exfalso; omega
          · refine ev_aloadn_0 i190_45 ?_
            refine ev_getA i190_46 g190_46 rfl rfl (by decide) ?_
            refine ev_iload_4 i190_49 ?_
            refine ev_iload_6 i190_51 ?_
            refine ew_iastore i190_53 rfl (by omega) (by omega) (by omega) ?_
            refine ev_aloadn_0 i190_54 ?_
            refine ev_virt0 i190_55 g190_55 rfl (by decide +kernel) (Nat.le_of_ble_eq_true rfl) (m_can (hMN.tn ⟨p0, cp⟩ (by omega)) ((hW.ftz hN).co rfl rfl) hO (fun M h1 => ?_))
            refine ev_istore_7 i190_58 rfl ?_
            refine ew_iconst i190_60 ?_
            refine ev_istore_8 i190_61 rfl ?_
            refine ew_iconst i190_63 ?_
            refine ev_istore_9 i190_64 rfl ?_
            exact cnt M (fr_tr (fr_up hN (show ftz 73 p.toNat by omega)) (fr_mo h1 (fun a k (q : fcs a k) => (show ftz a k by omega)))) ((hMN.tn ⟨p0, cp⟩ (by omega)).fcs h1) 0 (by decide) (by omega)
        · obtain rfl : t = 8 := by omega
          refine ev_iload_6 i190_38 ?_
          refine ew_bipush i190_40 (by decide) ?_
          refine ew_icmpge i190_42 (by omega) (fun c42 => ?_) (fun c42 => ?_)
          · refine ev_aloadn_0 i190_117 ?_
            refine ev_getA i190_118 g190_118 rfl rfl (by decide) ?_
            refine ev_iload_4 i190_121 ?_
            refine ev_iload_5 i190_123 ?_
            refine ew_iastore i190_125 rfl (by omega) (by omega) (by omega) ?_
            refine ew_iinc_4 i190_126 rfl ?_
            refine ev_goto i190_129 ?_
            have q := hMN.tn (t := f_tone f p) ⟨p0, cp⟩ bt
            rw [f_tn_id] at q
            have e := ih cp (by omega) (by omega) _ (fr_up hN (by omega)) q
            rw [show 8 * (p + 1) = 8 * p + 8 from by omega] at e
            exact e _ _ _ _ _
          · exfalso; omega
      refine ev_iload_4 i190_19 ?_
      refine ew_bipush i190_21 (by decide) ?_
      refine ew_icmpge i190_23 (by omega) (fun c23 => ?_) (fun c23 => ?_)
      · exfalso; omega
      · refine ev_aloadn_0 i190_26 ?_
        refine ev_getA i190_27 g190_27 rfl rfl (by decide) ?_
        refine ev_iload_4 i190_30 ?_
        refine ew_iaload i190_32 rfl (by omega) (by omega) (by omega) ((hMJ.tone p p0 cp)) (fun b32 => ?_)
        refine ev_istore_5 i190_33 rfl ?_
        refine ew_iconst i190_35 ?_
        refine ev_istore_6 i190_36 rfl ?_
        have e := inner 0 (by decide) (by decide) J hJ (f_tone f p) (by rw [f_tn_id]; exact hMJ)
        rw [show 8 * p + 0 = 8 * p from by omega] at e
        exact e _ _ _
    · obtain rfl : p = 16 := by omega
      have r1 := br 128
      refine ev_iload_4 i190_19 ?_
      refine ew_bipush i190_21 (by decide) ?_
      refine ew_icmpge i190_23 (by omega) (fun c23 => ?_) (fun c23 => ?_)
      · refine ev_iloadn_1 i190_132 ?_
        first
        | refine ew_ifneB i190_133 (fun c133 => ?_) (fun c133 => ?_)
        | refine ew_ifne i190_133 (by omega) (fun c133 => ?_) (fun c133 => ?_)
        · refine ev_iloadn_3 i190_140 ?_
          refine ev_ireturn i190_141 r190 ?_
          first
          | (rw [if_pos (by omega)] at hK; exact zK (hK J hJ hMJ) rfl)
          | (rw [if_neg (by omega)] at hK; exact zK (hK J hJ hMJ) rfl)
        · refine ev_iloadn_2 i190_136 ?_
          refine ev_goto i190_137 ?_
          refine ev_ireturn i190_141 r190 ?_
          first
          | (rw [if_pos (by omega)] at hK; exact zK (hK J hJ hMJ) rfl)
          | (rw [if_neg (by omega)] at hK; exact zK (hK J hJ hMJ) rfl)
      · exfalso; omega
  refine ev_enter (lv := [.ref 72, .int (zI (v)), .null, .null, .null, .null, .null, .null, .null, .null]) l190 rfl (Nat.le_of_ble_eq_true rfl) ?_
  refine ev_iloadn_1 i190_0 ?_
  refine ew_i2l i190_1 (by omega) ?_
  refine ew_lconst (z := 0) i190_2 (by decide) ?_
  refine ew_lconst (z := 1) i190_3 (by decide) ?_
  refine ev_stat3 i190_4 g190_4 (by decide +kernel) (Nat.le_of_ble_eq_true rfl) (m_within (by omega) (by omega) (by omega) ?_)
  first
  | refine ew_ifneB i190_7 (fun c7 => ?_) (fun c7 => ?_)
  | refine ew_ifne i190_7 (by omega) (fun c7 => ?_) (fun c7 => ?_)
  · refine ew_iconst i190_12 ?_
    refine ev_istoren_2 i190_13 rfl ?_
    refine ew_iconst i190_14 ?_
    refine ev_istoren_3 i190_15 rfl ?_
    refine ew_iconst i190_16 ?_
    refine ev_istore_4 i190_17 rfl ?_
    exact outer (by omega) 0 (by decide) (by decide) I (fr_rfl _ _) hM _ _ _ _ _
  · refine ew_iconst i190_10 ?_
    refine ev_ireturn i190_11 r190 ?_
    rw [if_neg (by omega)] at hK
    have e := hK I (fr_rfl _ _) hM
    exact e
end SMM
