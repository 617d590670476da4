theorem i83_0 : ts_ins 83 0 = some (.aload_n 0, 1, 0) := by decide +kernel
theorem i83_1 : ts_ins 83 1 = some (.getfield 18, 4, 0) := by decide +kernel
theorem g83_1 : ts_fm 83 18 = some (9, 3, 2) := by decide +kernel
theorem i83_4 : ts_ins 83 4 = some (.iload_n 2, 5, 0) := by decide +kernel
theorem i83_5 : ts_ins 83 5 = some (.dup2, 6, 0) := by decide +kernel
theorem i83_6 : ts_ins 83 6 = some (.iaload, 7, 0) := by decide +kernel
theorem i83_7 : ts_ins 83 7 = some (.iconst 1, 8, 0) := by decide +kernel
theorem i83_8 : ts_ins 83 8 = some (.iload_n 1, 9, 0) := by decide +kernel
theorem i83_9 : ts_ins 83 9 = some (.ishl, 10, 0) := by decide +kernel
theorem i83_10 : ts_ins 83 10 = some (.iconst (-1), 11, 0) := by decide +kernel
theorem i83_11 : ts_ins 83 11 = some (.ixor, 12, 0) := by decide +kernel
theorem i83_12 : ts_ins 83 12 = some (.iand, 13, 0) := by decide +kernel
theorem i83_13 : ts_ins 83 13 = some (.iastore, 14, 0) := by decide +kernel
theorem i83_14 : ts_ins 83 14 = some (.aload_n 0, 15, 0) := by decide +kernel
theorem i83_15 : ts_ins 83 15 = some (.getfield 18, 18, 0) := by decide +kernel
theorem g83_15 : ts_fm 83 18 = some (9, 3, 2) := by decide +kernel
theorem i83_18 : ts_ins 83 18 = some (.iload_n 3, 19, 0) := by decide +kernel
theorem i83_19 : ts_ins 83 19 = some (.dup2, 20, 0) := by decide +kernel
theorem i83_20 : ts_ins 83 20 = some (.iaload, 21, 0) := by decide +kernel
theorem i83_21 : ts_ins 83 21 = some (.iconst 1, 22, 0) := by decide +kernel
theorem i83_22 : ts_ins 83 22 = some (.iload_n 1, 23, 0) := by decide +kernel
theorem i83_23 : ts_ins 83 23 = some (.ishl, 24, 0) := by decide +kernel
theorem i83_24 : ts_ins 83 24 = some (.ior, 25, 0) := by decide +kernel
theorem i83_25 : ts_ins 83 25 = some (.iastore, 26, 0) := by decide +kernel
theorem i83_26 : ts_ins 83 26 = some (.return_, 27, 0) := by decide +kernel
theorem r83 : ts_rt 83 = (none, 0, 0) := by decide +kernel
theorem l83 : ts_ml 83 = 4 := by decide +kernel
theorem i104_0 : ts_ins 104 0 = some (.aload_n 0, 1, 0) := by decide +kernel
theorem i104_1 : ts_ins 104 1 = some (.getfield 10, 4, 0) := by decide +kernel
theorem g104_1 : ts_fm 104 10 = some (11, 0, 2) := by decide +kernel
theorem i104_4 : ts_ins 104 4 = some (.iload_n 1, 5, 0) := by decide +kernel
theorem i104_5 : ts_ins 104 5 = some (.invokevirtual 129, 8, 0) := by decide +kernel
theorem g104_5 : ts_cal (ts_mc 104) 129 = some (0, 20, 1) := by decide +kernel
theorem i104_8 : ts_ins 104 8 = some (.ifCond .eq 7, 11, 15) := by decide +kernel
theorem i104_11 : ts_ins 104 11 = some (.iload_n 2, 12, 0) := by decide +kernel
theorem i104_12 : ts_ins 104 12 = some (.ifCond .ge 5, 15, 17) := by decide +kernel
theorem i104_15 : ts_ins 104 15 = some (.iconst (-1), 16, 0) := by decide +kernel
theorem i104_16 : ts_ins 104 16 = some (.ireturn, 17, 0) := by decide +kernel
theorem i104_17 : ts_ins 104 17 = some (.iload_n 2, 18, 0) := by decide +kernel
theorem i104_18 : ts_ins 104 18 = some (.aload_n 0, 19, 0) := by decide +kernel
theorem i104_19 : ts_ins 104 19 = some (.getfield 10, 22, 0) := by decide +kernel
theorem g104_19 : ts_fm 104 10 = some (11, 0, 2) := by decide +kernel
theorem i104_22 : ts_ins 104 22 = some (.getfield 132, 25, 0) := by decide +kernel
theorem g104_22 : ts_fm 104 132 = some (3, 7, 2) := by decide +kernel
theorem i104_25 : ts_ins 104 25 = some (.iload_n 1, 26, 0) := by decide +kernel
theorem i104_26 : ts_ins 104 26 = some (.iaload, 27, 0) := by decide +kernel
theorem i104_27 : ts_ins 104 27 = some (.if_icmp .lt 6, 30, 33) := by decide +kernel
theorem i104_30 : ts_ins 104 30 = some (.bipush (-2), 32, 0) := by decide +kernel
theorem i104_32 : ts_ins 104 32 = some (.ireturn, 33, 0) := by decide +kernel
theorem i104_33 : ts_ins 104 33 = some (.aload_n 0, 34, 0) := by decide +kernel
theorem i104_34 : ts_ins 104 34 = some (.getfield 28, 37, 0) := by decide +kernel
theorem g104_34 : ts_fm 104 28 = some (11, 2, 2) := by decide +kernel
theorem i104_37 : ts_ins 104 37 = some (.invokevirtual 192, 40, 0) := by decide +kernel
theorem g104_37 : ts_cal (ts_mc 104) 192 = some (0, 78, 0) := by decide +kernel
theorem i104_40 : ts_ins 104 40 = some (.aload_n 0, 41, 0) := by decide +kernel
theorem i104_41 : ts_ins 104 41 = some (.getfield 28, 44, 0) := by decide +kernel
theorem g104_41 : ts_fm 104 28 = some (11, 2, 2) := by decide +kernel
theorem i104_44 : ts_ins 104 44 = some (.iload_n 1, 45, 0) := by decide +kernel
theorem i104_45 : ts_ins 104 45 = some (.invokevirtual 195, 48, 0) := by decide +kernel
theorem g104_45 : ts_cal (ts_mc 104) 195 = some (0, 79, 1) := by decide +kernel
theorem i104_48 : ts_ins 104 48 = some (.ifCond .eq 15, 51, 63) := by decide +kernel
theorem i104_51 : ts_ins 104 51 = some (.aload_n 0, 52, 0) := by decide +kernel
theorem i104_52 : ts_ins 104 52 = some (.getfield 28, 55, 0) := by decide +kernel
theorem g104_52 : ts_fm 104 28 = some (11, 2, 2) := by decide +kernel
theorem i104_55 : ts_ins 104 55 = some (.getfield 198, 58, 0) := by decide +kernel
theorem g104_55 : ts_fm 104 198 = some (9, 2, 2) := by decide +kernel
theorem i104_58 : ts_ins 104 58 = some (.iload_n 2, 59, 0) := by decide +kernel
theorem i104_59 : ts_ins 104 59 = some (.iaload, 60, 0) := by decide +kernel
theorem i104_60 : ts_ins 104 60 = some (.goto 5, 63, 65) := by decide +kernel
theorem i104_63 : ts_ins 104 63 = some (.bipush (-2), 65, 0) := by decide +kernel
theorem i104_65 : ts_ins 104 65 = some (.ireturn, 66, 0) := by decide +kernel
theorem r104 : ts_rt 104 = ((some .int), 0, 0) := by decide +kernel
theorem l104 : ts_ml 104 = 3 := by decide +kernel
theorem i105_0 : ts_ins 105 0 = some (.aload_n 0, 1, 0) := by decide +kernel
theorem i105_1 : ts_ins 105 1 = some (.getfield 28, 4, 0) := by decide +kernel
theorem g105_1 : ts_fm 105 28 = some (11, 2, 2) := by decide +kernel
theorem i105_4 : ts_ins 105 4 = some (.invokevirtual 192, 7, 0) := by decide +kernel
theorem g105_4 : ts_cal (ts_mc 105) 192 = some (0, 78, 0) := by decide +kernel
theorem i105_7 : ts_ins 105 7 = some (.aload_n 0, 8, 0) := by decide +kernel
theorem i105_8 : ts_ins 105 8 = some (.getfield 28, 11, 0) := by decide +kernel
theorem g105_8 : ts_fm 105 28 = some (11, 2, 2) := by decide +kernel
theorem i105_11 : ts_ins 105 11 = some (.invokevirtual 201, 14, 0) := by decide +kernel
theorem g105_11 : ts_cal (ts_mc 105) 201 = some (0, 82, 0) := by decide +kernel
theorem i105_14 : ts_ins 105 14 = some (.ireturn, 15, 0) := by decide +kernel
theorem r105 : ts_rt 105 = ((some .int), 0, 0) := by decide +kernel
theorem l105 : ts_ml 105 = 1 := by decide +kernel
theorem i108_0 : ts_ins 108 0 = some (.iload_n 1, 1, 0) := by decide +kernel
theorem i108_1 : ts_ins 108 1 = some (.invokestatic 217, 4, 0) := by decide +kernel
theorem g108_1 : ts_cal (ts_mc 108) 217 = some (1, 140, 1) := by decide +kernel
theorem i108_4 : ts_ins 108 4 = some (.ifCond .ne 5, 7, 9) := by decide +kernel
theorem i108_7 : ts_ins 108 7 = some (.iconst (-1), 8, 0) := by decide +kernel
theorem i108_8 : ts_ins 108 8 = some (.ireturn, 9, 0) := by decide +kernel
theorem i108_9 : ts_ins 108 9 = some (.aload_n 0, 10, 0) := by decide +kernel
theorem i108_10 : ts_ins 108 10 = some (.getfield 28, 13, 0) := by decide +kernel
theorem g108_10 : ts_fm 108 28 = some (11, 2, 2) := by decide +kernel
theorem i108_13 : ts_ins 108 13 = some (.invokevirtual 192, 16, 0) := by decide +kernel
theorem g108_13 : ts_cal (ts_mc 108) 192 = some (0, 78, 0) := by decide +kernel
theorem i108_16 : ts_ins 108 16 = some (.iconst 0, 17, 0) := by decide +kernel
theorem i108_17 : ts_ins 108 17 = some (.istore_n 2, 18, 0) := by decide +kernel
theorem i108_18 : ts_ins 108 18 = some (.iconst (-1), 19, 0) := by decide +kernel
theorem i108_19 : ts_ins 108 19 = some (.istore_n 3, 20, 0) := by decide +kernel
theorem i108_20 : ts_ins 108 20 = some (.iconst 0, 21, 0) := by decide +kernel
theorem i108_21 : ts_ins 108 21 = some (.istore 4, 23, 0) := by decide +kernel
theorem i108_23 : ts_ins 108 23 = some (.iload 4, 25, 0) := by decide +kernel
theorem i108_25 : ts_ins 108 25 = some (.sipush 128, 28, 0) := by decide +kernel
theorem i108_28 : ts_ins 108 28 = some (.if_icmp .ge 89, 31, 117) := by decide +kernel
theorem i108_31 : ts_ins 108 31 = some (.iload 4, 33, 0) := by decide +kernel
theorem i108_33 : ts_ins 108 33 = some (.bipush 8, 35, 0) := by decide +kernel
theorem i108_35 : ts_ins 108 35 = some (.idiv, 36, 0) := by decide +kernel
theorem i108_36 : ts_ins 108 36 = some (.istore 5, 38, 0) := by decide +kernel
theorem i108_38 : ts_ins 108 38 = some (.iload 4, 40, 0) := by decide +kernel
theorem i108_40 : ts_ins 108 40 = some (.bipush 8, 42, 0) := by decide +kernel
theorem i108_42 : ts_ins 108 42 = some (.irem, 43, 0) := by decide +kernel
theorem i108_43 : ts_ins 108 43 = some (.istore 6, 45, 0) := by decide +kernel
theorem i108_45 : ts_ins 108 45 = some (.aload_n 0, 46, 0) := by decide +kernel
theorem i108_46 : ts_ins 108 46 = some (.getfield 28, 49, 0) := by decide +kernel
theorem g108_46 : ts_fm 108 28 = some (11, 2, 2) := by decide +kernel
theorem i108_49 : ts_ins 108 49 = some (.iload 5, 51, 0) := by decide +kernel
theorem i108_51 : ts_ins 108 51 = some (.aload_n 0, 52, 0) := by decide +kernel
theorem i108_52 : ts_ins 108 52 = some (.getfield 10, 55, 0) := by decide +kernel
theorem g108_52 : ts_fm 108 10 = some (11, 0, 2) := by decide +kernel
theorem i108_55 : ts_ins 108 55 = some (.getfield 220, 58, 0) := by decide +kernel
theorem g108_55 : ts_fm 108 220 = some (3, 0, 2) := by decide +kernel
theorem i108_58 : ts_ins 108 58 = some (.iload 5, 60, 0) := by decide +kernel
theorem i108_60 : ts_ins 108 60 = some (.iaload, 61, 0) := by decide +kernel
theorem i108_61 : ts_ins 108 61 = some (.iload 6, 63, 0) := by decide +kernel
theorem i108_63 : ts_ins 108 63 = some (.invokevirtual 223, 66, 0) := by decide +kernel
theorem g108_63 : ts_cal (ts_mc 108) 223 = some (0, 83, 3) := by decide +kernel
theorem i108_66 : ts_ins 108 66 = some (.aload_n 0, 67, 0) := by decide +kernel
theorem i108_67 : ts_ins 108 67 = some (.getfield 28, 70, 0) := by decide +kernel
theorem g108_67 : ts_fm 108 28 = some (11, 2, 2) := by decide +kernel
theorem i108_70 : ts_ins 108 70 = some (.invokevirtual 201, 73, 0) := by decide +kernel
theorem g108_70 : ts_cal (ts_mc 108) 201 = some (0, 82, 0) := by decide +kernel
theorem i108_73 : ts_ins 108 73 = some (.invokestatic 226, 76, 0) := by decide +kernel
theorem g108_73 : ts_cal (ts_mc 108) 226 = some (1, 239, 1) := by decide +kernel
theorem i108_76 : ts_ins 108 76 = some (.istore 7, 78, 0) := by decide +kernel
theorem i108_78 : ts_ins 108 78 = some (.aload_n 0, 79, 0) := by decide +kernel
theorem i108_79 : ts_ins 108 79 = some (.getfield 28, 82, 0) := by decide +kernel
theorem g108_79 : ts_fm 108 28 = some (11, 2, 2) := by decide +kernel
theorem i108_82 : ts_ins 108 82 = some (.iload 5, 84, 0) := by decide +kernel
theorem i108_84 : ts_ins 108 84 = some (.iload 6, 86, 0) := by decide +kernel
theorem i108_86 : ts_ins 108 86 = some (.aload_n 0, 87, 0) := by decide +kernel
theorem i108_87 : ts_ins 108 87 = some (.getfield 10, 90, 0) := by decide +kernel
theorem g108_87 : ts_fm 108 10 = some (11, 0, 2) := by decide +kernel
theorem i108_90 : ts_ins 108 90 = some (.getfield 220, 93, 0) := by decide +kernel
theorem g108_90 : ts_fm 108 220 = some (3, 0, 2) := by decide +kernel
theorem i108_93 : ts_ins 108 93 = some (.iload 5, 95, 0) := by decide +kernel
theorem i108_95 : ts_ins 108 95 = some (.iaload, 96, 0) := by decide +kernel
theorem i108_96 : ts_ins 108 96 = some (.invokevirtual 223, 99, 0) := by decide +kernel
theorem g108_96 : ts_cal (ts_mc 108) 223 = some (0, 83, 3) := by decide +kernel
theorem i108_99 : ts_ins 108 99 = some (.iload 7, 101, 0) := by decide +kernel
theorem i108_101 : ts_ins 108 101 = some (.iload_n 3, 102, 0) := by decide +kernel
theorem i108_102 : ts_ins 108 102 = some (.if_icmp .le 9, 105, 111) := by decide +kernel
theorem i108_105 : ts_ins 108 105 = some (.iload 7, 107, 0) := by decide +kernel
theorem i108_107 : ts_ins 108 107 = some (.istore_n 3, 108, 0) := by decide +kernel
theorem i108_108 : ts_ins 108 108 = some (.iload 4, 110, 0) := by decide +kernel
theorem i108_110 : ts_ins 108 110 = some (.istore_n 2, 111, 0) := by decide +kernel
theorem i108_111 : ts_ins 108 111 = some (.iinc 4 1, 114, 0) := by decide +kernel
theorem i108_114 : ts_ins 108 114 = some (.goto (-91), 117, 23) := by decide +kernel
theorem i108_117 : ts_ins 108 117 = some (.iload_n 1, 118, 0) := by decide +kernel
theorem i108_118 : ts_ins 108 118 = some (.ifCond .ne 7, 121, 125) := by decide +kernel
theorem i108_121 : ts_ins 108 121 = some (.iload_n 2, 122, 0) := by decide +kernel
theorem i108_122 : ts_ins 108 122 = some (.goto 4, 125, 126) := by decide +kernel
theorem i108_125 : ts_ins 108 125 = some (.iload_n 3, 126, 0) := by decide +kernel
theorem i108_126 : ts_ins 108 126 = some (.ireturn, 127, 0) := by decide +kernel
theorem r108 : ts_rt 108 = ((some .int), 0, 0) := by decide +kernel
theorem l108 : ts_ml 108 = 8 := by decide +kernel
/-! SAY, CAN, TUNE in the class -/
section ST
variable {X : ts_X} {I J : Nat → Nat → Int32} {L : Nat → Nat → Int64} {sw : Bool} {K : Option Value → ts_H → Prop} {d : Nat} {f : ts_Fl} {w : ts_Lw} {tn : Int → Int}
theorem x_retune (hm : RXm I (fs_tone f tn)) {p o t : Int} (hp : 0 ≤ p ∧ p < 16) (ho : o = tn p) (hoo : 0 ≤ o ∧ o < 8) (ht : 0 ≤ t ∧ t < 8) (hK : ∀ J, fr fx34 I J → RXm J (fs_tone f (zu tn p t)) → K none (J, L, ts_P0 sw, ts_S0)) : ts_Cal X (d + 1) 83 [.ref 31, .int (zI (p)), .int (zI (o)), .int (zI (t))] (I, L, ts_P0 sw, ts_S0) K := by
  have m1 : ar I 34 8 (-2147483648) 2147483647 (fun x => zbits (fun q => tn q = x) 16) := hm.1
  have m1o : rd (I 34 o.toNat) (-2147483648) 2147483647 (zbits (fun q => tn q = o) 16) := m1 o hoo.1 hoo.2
  have z1 := zbits_r (fun q => tn q = o) 16
  refine ev_enter (lv := [.ref 31, .int (zI (p)), .int (zI (o)), .int (zI (t))]) l83 rfl (Nat.le_of_ble_eq_true rfl) ?_
  refine ev_aloadn_0 i83_0 ?_
  refine ev_getA i83_1 g83_1 rfl rfl (by decide) ?_
  refine ev_iloadn_2 i83_4 ?_
  refine ev_dup2 i83_5 ?_
  refine ew_iaload i83_6 rfl (by omega) (by omega) (by omega) (m1o) (fun b6 => ?_)
  refine ew_iconst i83_7 ?_
  refine ev_iloadn_1 i83_8 ?_
  refine ew_ishl i83_9 ?_
  refine ew_iconst i83_10 ?_
  refine ew_ixor i83_11 ?_
  refine ew_iand i83_12 ?_
  refine ew_iastore i83_13 rfl (by omega) (by omega) (by omega) ?_
  have m2 : ar (ts_up I 34 o.toNat (zI (zand (zbits (fun q => tn q = o) 16) (zxor (zshl 1 p) (-1))))) 34 8 (-2147483648) 2147483647 (fun x => zbits (fun q => tn q = x ∧ ¬ q = p) 16) := by
    refine ar_cg (ar_up m1 hoo.1 (zand_r _ _)) (fun x x0 x1 => ?_)
    by_cases c : x = o
    · rw [c, zu_e]
      exact zbits_off _ (Nat.le_refl _) ⟨hp.1, hp.2⟩
    · rw [zu_n c]
      exact zbits_e 16 (fun q q0 q1 => ⟨fun r => ⟨r, fun e => c (by rw [← r, e, ho])⟩, fun r => r.1⟩)
  have m2t : rd (ts_up I 34 o.toNat (zI (zand (zbits (fun q => tn q = o) 16) (zxor (zshl 1 p) (-1)))) 34 t.toNat) (-2147483648) 2147483647 (zbits (fun q => tn q = t ∧ ¬ q = p) 16) := m2 t ht.1 ht.2
  refine ev_aloadn_0 i83_14 ?_
  refine ev_getA i83_15 g83_15 rfl rfl (by decide) ?_
  refine ev_iloadn_3 i83_18 ?_
  refine ev_dup2 i83_19 ?_
  refine ew_iaload i83_20 rfl (by omega) (by omega) (by omega) (m2t) (fun b20 => ?_)
  refine ew_iconst i83_21 ?_
  refine ev_iloadn_1 i83_22 ?_
  refine ew_ishl i83_23 ?_
  refine ew_ior i83_24 ?_
  refine ew_iastore i83_25 rfl (by omega) (by omega) (by omega) ?_
  refine ev_return i83_26 r83 ?_
  refine hK _ (fr_up (fr_up (fr_rfl _ _) rfl) rfl) ⟨ar_cg (ar_up m2 ht.1 (zor_r _ _)) (fun x x0 x1 => ?_), ar_co hm.2 ((ts_up_na (by decide)).trans (ts_up_na (by decide)))⟩
  by_cases c : x = t
  · rw [c, zu_e]
    refine (zbits_on _ (Nat.le_refl _) ⟨hp.1, hp.2⟩).trans (zbits_e 16 (fun q q0 q1 => ?_))
    show _ ↔ zu tn p t q = t
    by_cases e : q = p
    · rw [e, zu_e]
      exact ⟨fun _ => rfl, fun _ => Or.inr rfl⟩
    · rw [zu_n e]
      exact ⟨fun r => r.elim (fun s => s.1) (fun s => absurd s e), fun r => Or.inl ⟨r, e⟩⟩
  · rw [zu_n c]
    refine zbits_e 16 (fun q q0 q1 => ?_)
    show _ ↔ zu tn p t q = x
    by_cases e : q = p
    · rw [e, zu_e]
      exact ⟨fun r => absurd rfl r.2, fun r => absurd r.symm c⟩
    · rw [zu_n e]
      exact ⟨fun r => r.1, fun r => ⟨r, e⟩⟩
theorem x_say (hX : RX I f) (hW : RXw I sw w) (hO : ROw w) {x k : Int} (hx : -2147483648 ≤ x ∧ x ≤ 2147483647) (hk : -2147483648 ≤ k ∧ k ≤ 2147483647) (hK : ∀ J, fr fxb I J → K (some (.int (zI (g_spA f w x k)))) (J, L, ts_P0 sw, ts_S0)) : ts_Cal X (d + 7) 104 [.ref 1, .int (zI (x)), .int (zI (k))] (I, L, ts_P0 sw, ts_S0) K := by
  have b1 := hX.told.2
  unfold g_spA at hK
  refine ev_enter (lv := [.ref 1, .int (zI (x)), .int (zI (k))]) l104 rfl (Nat.le_of_ble_eq_true rfl) ?_
  refine ev_aloadn_0 i104_0 ?_
  refine ev_getA i104_1 g104_1 rfl rfl (by decide) ?_
  refine ev_iloadn_1 i104_4 ?_
  refine ev_virt1 i104_5 g104_5 rfl (by decide +kernel) (Nat.le_of_ble_eq_true rfl) (x_hasSaying hX (by omega) ?_)
  first
  | refine ew_ifeqB i104_8 (fun c8 => ?_) (fun c8 => ?_)
  | refine ew_ifeq i104_8 (by omega) (fun c8 => ?_) (fun c8 => ?_)
  · refine ew_iconst i104_15 ?_
    refine ev_ireturn i104_16 r104 ?_
    rw [if_neg (by omega)] at hK
    exact hK I (fr_rfl _ _)
  · refine ev_iloadn_2 i104_11 ?_
    refine ew_ifge i104_12 (by omega) (fun c12 => ?_) (fun c12 => ?_)
    · refine ev_iloadn_2 i104_17 ?_
      refine ev_aloadn_0 i104_18 ?_
      refine ev_getA i104_19 g104_19 rfl rfl (by decide) ?_
      refine ev_getA i104_22 g104_22 rfl rfl (by decide) ?_
      refine ev_iloadn_1 i104_25 ?_
      refine ew_iaload i104_26 rfl (by omega) (by omega) (by omega) ((hX.len x (by omega) (by omega))) (fun b26 => ?_)
      refine ew_icmplt i104_27 (by omega) (fun c27 => ?_) (fun c27 => ?_)
      · rw [if_pos (show 0 ≤ x ∧ x < f_told f ∧ 0 ≤ k by omega)] at hK
        refine ev_aloadn_0 i104_33 ?_
        refine ev_getA i104_34 g104_34 rfl rfl (by decide) ?_
        refine ev_virt0 i104_37 g104_37 rfl (by decide +kernel) (Nat.le_of_ble_eq_true rfl) (x_begin (w := w) hX (fun J h1 h2 h3 => ?_))
        refine ev_aloadn_0 i104_40 ?_
        refine ev_getA i104_41 g104_41 rfl rfl (by decide) ?_
        refine ev_iloadn_1 i104_44 ?_
        refine ev_virt1 i104_45 g104_45 rfl (by decide +kernel) (Nat.le_of_ble_eq_true rfl) (x_speak (f := f) (w := w) (tn := f_tone f) (hX.fxb h1) (hW.fxb h1) hO h2 h3 (by omega) (fun N h4 h5 h6 => ?_))
        have e : fs_tone f (f_tone f) = f := rfl
        rw [e] at h6 ⊢
        have hJN : fr fxb I N := fr_tr h1 (fr_mo h4 (fun a k q => by omega))
        first
        | refine ew_ifeqB i104_48 (fun c48 => ?_) (fun c48 => ?_)
        | refine ew_ifeq i104_48 (by omega) (fun c48 => ?_) (fun c48 => ?_)
        · refine ew_bipush i104_63 (by decide) ?_
          refine ev_ireturn i104_65 r104 ?_
          first
          | (rw [if_pos (by omega)] at hK; exact hK N hJN)
          | (rw [if_neg (by omega)] at hK; exact zK (hK N hJN) (by omega))
        · have a2 := h6 (by omega)
          refine ev_aloadn_0 i104_51 ?_
          refine ev_getA i104_52 g104_52 rfl rfl (by decide) ?_
          refine ev_getA i104_55 g104_55 rfl rfl (by decide) ?_
          refine ev_iloadn_2 i104_58 ?_
          refine ew_iaload i104_59 rfl (by omega) (by omega) (by omega) ((a2 k (by omega) (by omega))) (fun b59 => ?_)
          refine ev_goto i104_60 ?_
          refine ev_ireturn i104_65 r104 ?_
          first
          | (rw [if_pos (by omega)] at hK; exact hK N hJN)
          | (rw [if_neg (by omega)] at hK; exact zK (hK N hJN) (by omega))
      · refine ew_bipush i104_30 (by decide) ?_
        refine ev_ireturn i104_32 r104 ?_
        rw [if_pos (by omega), if_neg (by omega)] at hK
        exact hK I (fr_rfl _ _)
    · refine ew_iconst i104_15 ?_
      refine ev_ireturn i104_16 r104 ?_
      rw [if_neg (by omega)] at hK
      exact hK I (fr_rfl _ _)
theorem x_can (hX : RX I f) (hW : RXw I sw w) (hO : ROw w) (hK : ∀ J, fr fxb I J → K (some (.int (zI (g_canB f w)))) (J, L, ts_P0 sw, ts_S0)) : ts_Cal X (d + 8) 105 [.ref 1] (I, L, ts_P0 sw, ts_S0) K := by
  refine ev_enter (lv := [.ref 1]) l105 rfl (Nat.le_of_ble_eq_true rfl) ?_
  refine ev_aloadn_0 i105_0 ?_
  refine ev_getA i105_1 g105_1 rfl rfl (by decide) ?_
  refine ev_virt0 i105_4 g105_4 rfl (by decide +kernel) (Nat.le_of_ble_eq_true rfl) (x_begin (w := w) hX (fun J h1 h2 h3 => ?_))
  refine ev_aloadn_0 i105_7 ?_
  refine ev_getA i105_8 g105_8 rfl rfl (by decide) ?_
  refine ev_virt0 i105_11 g105_11 rfl (by decide +kernel) (Nat.le_of_ble_eq_true rfl) (x_sayableBits (f := f) (w := w) (tn := f_tone f) (hX.fxb h1) (hW.fxb h1) hO h2 h3 (fun N h4 h5 => ?_))
  refine ev_ireturn i105_14 r105 ?_
  exact hK N (fr_tr h1 (fr_mo h4 (fun a k q => by omega)))
theorem g_canB_bc (hb : 0 ≤ f_told f ∧ f_told f ≤ 8) (p t : Int) : zbc (g_canB (f_tn f p t) w) = g_tnn f w p t := zbits_bc (fun x => g_sp (f_tn f p t) w x = f_len f x) (n := (f_told f).toNat) (by omega)
theorem zu_zu (g : Int → Int) (p t : Int) : zu (zu g p t) p (g p) = g := by
  funext q
  by_cases c : q = p
  · rw [c, zu_e]
  · rw [zu_n c, zu_n c]
theorem x_tune (hX : RX I f) (hW : RXw I sw w) (hO : ROw w) {v : Int} (hv : -2147483648 ≤ v ∧ v ≤ 2147483647) (hK : ∀ J, fr fxb I J → K (some (.int (zI (g_tuneA f w v)))) (J, L, ts_P0 sw, ts_S0)) : ts_Cal X (d + 8) 108 [.ref 1, .int (zI (v))] (I, L, ts_P0 sw, ts_S0) K := by
  have b1 := hX.told.2
  have br := g_bst_r f w b1
  unfold g_tuneA at hK
  have loop : 0 ≤ v ∧ v ≤ 1 → ∀ i : Int, 0 ≤ i → i ≤ 128 → ∀ J, fr fxb I J → RXa J f w → RXm J f → ∀ o5 o6 o7, ts_Ev X (ts_Cal X (d + 7)) 108 ts_S0 K 23 [.ref 1, .int (zI (v)), .int (zI ((g_bst f w i.toNat).2)), .int (zI ((g_bst f w i.toNat).1)), .int (zI (i)), o5, o6, o7] [] (J, L, ts_P0 sw, ts_S0) := by
    intro hv1
    rw [if_pos hv1] at hK
    refine ts_ind 128 (fun i ih i0 iN J hJ hAJ hmJ o5 o6 o7 => ?_)
    have hXJ := hX.fxb hJ
    have r1 := br i.toNat
    by_cases ci : i < 128
    · have bt := (hXJ.tone (i / 8) (by omega) (by omega)).2
      refine ev_iload_4 i108_23 ?_
      refine ew_sipush i108_25 (by decide) ?_
      refine ew_icmpge i108_28 (by omega) (fun c28 => ?_) (fun c28 => ?_)
      · exfalso; omega
      · refine ev_iload_4 i108_31 ?_
        refine ew_bipush i108_33 (by decide) ?_
        refine ew_idiv i108_35 (by omega) (by omega) ?_
        refine ev_istore_5 i108_36 rfl ?_
        refine ev_iload_4 i108_38 ?_
        refine ew_bipush i108_40 (by decide) ?_
        refine ew_irem i108_42 (by omega) (by omega) ?_
        refine ev_istore_6 i108_43 rfl ?_
        refine ev_aloadn_0 i108_45 ?_
        refine ev_getA i108_46 g108_46 rfl rfl (by decide) ?_
        refine ev_iload_5 i108_49 ?_
        refine ev_aloadn_0 i108_51 ?_
        refine ev_getA i108_52 g108_52 rfl rfl (by decide) ?_
        refine ev_getA i108_55 g108_55 rfl rfl (by decide) ?_
        refine ev_iload_5 i108_58 ?_
        refine ew_iaload i108_60 rfl (by omega) (by omega) (by omega) ((hXJ.tone (i / 8) (by omega) (by omega))) (fun b60 => ?_)
        refine ev_iload_6 i108_61 ?_
        refine ev_virt3 i108_63 g108_63 rfl (by decide +kernel) (Nat.le_of_ble_eq_true rfl) (x_retune (f := f) (tn := f_tone f) hmJ (p := i / 8) (by omega) rfl (by omega) (by omega) (fun M h1 h2 => ?_))
        have hJM : fr fxb I M := fr_tr hJ (fr_mo h1 (fun a k q => by omega))
        have hXM := hX.fxb hJM
        have hAM : RXa M f w := by
          obtain ⟨g, hg, ho⟩ := hAJ
          exact ⟨g, ar_co hg (fr_row h1 (fun k => by omega)), ho⟩
        refine ev_aloadn_0 i108_66 ?_
        refine ev_getA i108_67 g108_67 rfl rfl (by decide) ?_
        refine ev_virt0 i108_70 g108_70 rfl (by decide +kernel) (Nat.le_of_ble_eq_true rfl) (x_sayableBits (f := f) (w := w) (tn := zu (f_tone f) (i / 8) (i % 8)) hXM (hW.fxb hJM) hO hAM h2 (fun N h4 h5 => ?_))
        refine ev_stat1 i108_73 g108_73 (by decide +kernel) (Nat.le_of_ble_eq_true rfl) (x_bitCount ?_)
        have gb := g_canB_bc (w := w) b1 (i / 8) (i % 8)
        rw [gb]
        have gr := g_tnn_r f w (i / 8) (i % 8) b1
        have hJN : fr fxb I N := fr_tr hJM (fr_mo h4 (fun a k q => by omega))
        have hXN := hX.fxb hJN
        have hmN := h2.fxq h4
        refine ev_istore_7 i108_76 rfl ?_
        refine ev_aloadn_0 i108_78 ?_
        refine ev_getA i108_79 g108_79 rfl rfl (by decide) ?_
        refine ev_iload_5 i108_82 ?_
        refine ev_iload_6 i108_84 ?_
        refine ev_aloadn_0 i108_86 ?_
        refine ev_getA i108_87 g108_87 rfl rfl (by decide) ?_
        refine ev_getA i108_90 g108_90 rfl rfl (by decide) ?_
        refine ev_iload_5 i108_93 ?_
        refine ew_iaload i108_95 rfl (by omega) (by omega) (by omega) ((hXN.tone (i / 8) (by omega) (by omega))) (fun b95 => ?_)
        refine ev_virt3 i108_96 g108_96 rfl (by decide +kernel) (Nat.le_of_ble_eq_true rfl) (x_retune (f := f) (tn := zu (f_tone f) (i / 8) (i % 8)) hmN (p := i / 8) (by omega) (zu_e _ _ _).symm (by omega) (by omega) (fun M2 h6 h7 => ?_))
        refine ev_iload_7 i108_99 ?_
        refine ev_iloadn_3 i108_101 ?_
        refine ew_icmple i108_102 (by omega) (fun c102 => ?_) (fun c102 => ?_)
        · refine ew_iinc_4 i108_111 rfl ?_
          refine ev_goto i108_114 ?_
          rw [zu_zu] at h7
          have hAN : RXa M2 f w := by
            obtain ⟨g, hg, ho⟩ := h5
            exact ⟨g, ar_co hg (fr_row h6 (fun k => by omega)), ho⟩
          have e := ih ci (by omega) (by omega) M2 (fr_tr hJN (fr_mo h6 (fun a k q => by omega))) hAN h7
          have sb := g_bst_s (f := f) (w := w) i0
          rw [sb] at e
          first
          | (rw [if_pos (by omega)] at e; exact e _ _ _)
          | (rw [if_neg (by omega)] at e; exact e _ _ _)
        · refine ev_iload_7 i108_105 ?_
          refine ev_istoren_3 i108_107 rfl ?_
          refine ev_iload_4 i108_108 ?_
          refine ev_istoren_2 i108_110 rfl ?_
          refine ew_iinc_4 i108_111 rfl ?_
          refine ev_goto i108_114 ?_
          rw [zu_zu] at h7
          have hAN : RXa M2 f w := by
            obtain ⟨g, hg, ho⟩ := h5
            exact ⟨g, ar_co hg (fr_row h6 (fun k => by omega)), ho⟩
          have e := ih ci (by omega) (by omega) M2 (fr_tr hJN (fr_mo h6 (fun a k q => by omega))) hAN h7
          have sb := g_bst_s (f := f) (w := w) i0
          rw [sb] at e
          first
          | (rw [if_pos (by omega)] at e; exact e _ _ _)
          | (rw [if_neg (by omega)] at e; exact e _ _ _)
    · obtain rfl : i = 128 := by omega
      refine ev_iload_4 i108_23 ?_
      refine ew_sipush i108_25 (by decide) ?_
      refine ew_icmpge i108_28 (by omega) (fun c28 => ?_) (fun c28 => ?_)
      · refine ev_iloadn_1 i108_117 ?_
        first
        | refine ew_ifneB i108_118 (fun c118 => ?_) (fun c118 => ?_)
        | refine ew_ifne i108_118 (by omega) (fun c118 => ?_) (fun c118 => ?_)
        · refine ev_iloadn_3 i108_125 ?_
          refine ev_ireturn i108_126 r108 ?_
          first
          | (rw [if_pos (by omega)] at hK; exact zK (hK J hJ) rfl)
          | (rw [if_neg (by omega)] at hK; exact zK (hK J hJ) rfl)
        · refine ev_iloadn_2 i108_121 ?_
          refine ev_goto i108_122 ?_
          refine ev_ireturn i108_126 r108 ?_
          first
          | (rw [if_pos (by omega)] at hK; exact zK (hK J hJ) rfl)
          | (rw [if_neg (by omega)] at hK; exact zK (hK J hJ) rfl)
      · exfalso; omega
  refine ev_enter (lv := [.ref 1, .int (zI (v)), .null, .null, .null, .null, .null, .null]) l108 rfl (Nat.le_of_ble_eq_true rfl) ?_
  refine ev_iloadn_1 i108_0 ?_
  refine ev_stat1 i108_1 g108_1 (by decide +kernel) (Nat.le_of_ble_eq_true rfl) (x_isPart (by omega) ?_)
  first
  | refine ew_ifneB i108_4 (fun c4 => ?_) (fun c4 => ?_)
  | refine ew_ifne i108_4 (by omega) (fun c4 => ?_) (fun c4 => ?_)
  · refine ev_aloadn_0 i108_9 ?_
    refine ev_getA i108_10 g108_10 rfl rfl (by decide) ?_
    refine ev_virt0 i108_13 g108_13 rfl (by decide +kernel) (Nat.le_of_ble_eq_true rfl) (x_begin (w := w) hX (fun J h1 h2 h3 => ?_))
    refine ew_iconst i108_16 ?_
    refine ev_istoren_2 i108_17 rfl ?_
    refine ew_iconst i108_18 ?_
    refine ev_istoren_3 i108_19 rfl ?_
    refine ew_iconst i108_20 ?_
    refine ev_istore_4 i108_21 rfl ?_
    exact loop (by omega) 0 (by decide) (by decide) J h1 h2 h3 _ _ _
  · refine ew_iconst i108_7 ?_
    refine ev_ireturn i108_8 r108 ?_
    rw [if_neg (by omega)] at hK
    exact hK I (fr_rfl _ _)
end ST
