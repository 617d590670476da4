theorem i17_0 : ts_ins 17 0 = some (.aload_n 0, 1, 0) := by decide +kernel
theorem i17_1 : ts_ins 17 1 = some (.getfield 38, 4, 0) := by decide +kernel
theorem g17_1 : ts_fm 17 38 = some (3, 8, 0) := by decide +kernel
theorem i17_4 : ts_ins 17 4 = some (.iconst 4, 5, 0) := by decide +kernel
theorem i17_5 : ts_ins 17 5 = some (.if_icmp .lt 6, 8, 11) := by decide +kernel
theorem i17_8 : ts_ins 17 8 = some (.bipush (-3), 10, 0) := by decide +kernel
theorem i17_10 : ts_ins 17 10 = some (.ireturn, 11, 0) := by decide +kernel
theorem i17_11 : ts_ins 17 11 = some (.aload_n 0, 12, 0) := by decide +kernel
theorem i17_12 : ts_ins 17 12 = some (.getfield 18, 15, 0) := by decide +kernel
theorem g17_12 : ts_fm 17 18 = some (3, 2, 2) := by decide +kernel
theorem i17_15 : ts_ins 17 15 = some (.aload_n 0, 16, 0) := by decide +kernel
theorem i17_16 : ts_ins 17 16 = some (.getfield 38, 19, 0) := by decide +kernel
theorem g17_16 : ts_fm 17 38 = some (3, 8, 0) := by decide +kernel
theorem i17_19 : ts_ins 17 19 = some (.iload_n 1, 20, 0) := by decide +kernel
theorem i17_20 : ts_ins 17 20 = some (.iastore, 21, 0) := by decide +kernel
theorem i17_21 : ts_ins 17 21 = some (.aload_n 0, 22, 0) := by decide +kernel
theorem i17_22 : ts_ins 17 22 = some (.getfield 21, 25, 0) := by decide +kernel
theorem g17_22 : ts_fm 17 21 = some (3, 3, 2) := by decide +kernel
theorem i17_25 : ts_ins 17 25 = some (.aload_n 0, 26, 0) := by decide +kernel
theorem i17_26 : ts_ins 17 26 = some (.getfield 38, 29, 0) := by decide +kernel
theorem g17_26 : ts_fm 17 38 = some (3, 8, 0) := by decide +kernel
theorem i17_29 : ts_ins 17 29 = some (.iconst 2, 30, 0) := by decide +kernel
theorem i17_30 : ts_ins 17 30 = some (.iastore, 31, 0) := by decide +kernel
theorem i17_31 : ts_ins 17 31 = some (.aload_n 0, 32, 0) := by decide +kernel
theorem i17_32 : ts_ins 17 32 = some (.getfield 24, 35, 0) := by decide +kernel
theorem g17_32 : ts_fm 17 24 = some (3, 4, 2) := by decide +kernel
theorem i17_35 : ts_ins 17 35 = some (.aload_n 0, 36, 0) := by decide +kernel
theorem i17_36 : ts_ins 17 36 = some (.getfield 38, 39, 0) := by decide +kernel
theorem g17_36 : ts_fm 17 38 = some (3, 8, 0) := by decide +kernel
theorem i17_39 : ts_ins 17 39 = some (.bipush 12, 41, 0) := by decide +kernel
theorem i17_41 : ts_ins 17 41 = some (.iastore, 42, 0) := by decide +kernel
theorem i17_42 : ts_ins 17 42 = some (.aload_n 0, 43, 0) := by decide +kernel
theorem i17_43 : ts_ins 17 43 = some (.getfield 27, 46, 0) := by decide +kernel
theorem g17_43 : ts_fm 17 27 = some (3, 5, 2) := by decide +kernel
theorem i17_46 : ts_ins 17 46 = some (.aload_n 0, 47, 0) := by decide +kernel
theorem i17_47 : ts_ins 17 47 = some (.getfield 38, 50, 0) := by decide +kernel
theorem g17_47 : ts_fm 17 38 = some (3, 8, 0) := by decide +kernel
theorem i17_50 : ts_ins 17 50 = some (.iconst 0, 51, 0) := by decide +kernel
theorem i17_51 : ts_ins 17 51 = some (.iastore, 52, 0) := by decide +kernel
theorem i17_52 : ts_ins 17 52 = some (.aload_n 0, 53, 0) := by decide +kernel
theorem i17_53 : ts_ins 17 53 = some (.dup, 54, 0) := by decide +kernel
theorem i17_54 : ts_ins 17 54 = some (.getfield 38, 57, 0) := by decide +kernel
theorem g17_54 : ts_fm 17 38 = some (3, 8, 0) := by decide +kernel
theorem i17_57 : ts_ins 17 57 = some (.iconst 1, 58, 0) := by decide +kernel
theorem i17_58 : ts_ins 17 58 = some (.iadd, 59, 0) := by decide +kernel
theorem i17_59 : ts_ins 17 59 = some (.putfield 38, 62, 0) := by decide +kernel
theorem g17_59 : ts_fmm 17 38 = some (3, 8, 0, false) := by decide +kernel
theorem i17_62 : ts_ins 17 62 = some (.aload_n 0, 63, 0) := by decide +kernel
theorem i17_63 : ts_ins 17 63 = some (.getfield 38, 66, 0) := by decide +kernel
theorem g17_63 : ts_fm 17 38 = some (3, 8, 0) := by decide +kernel
theorem i17_66 : ts_ins 17 66 = some (.iconst 1, 67, 0) := by decide +kernel
theorem i17_67 : ts_ins 17 67 = some (.isub, 68, 0) := by decide +kernel
theorem i17_68 : ts_ins 17 68 = some (.ireturn, 69, 0) := by decide +kernel
theorem r17 : ts_rt 17 = ((some .int), 0, 0) := by decide +kernel
theorem l17 : ts_ml 17 = 2 := by decide +kernel
theorem i94_0 : ts_ins 94 0 = some (.iload_n 1, 1, 0) := by decide +kernel
theorem i94_1 : ts_ins 94 1 = some (.invokestatic 92, 4, 0) := by decide +kernel
theorem g94_1 : ts_cal (ts_mc 94) 92 = some (1, 137, 1) := by decide +kernel
theorem i94_4 : ts_ins 94 4 = some (.ifCond .ne 5, 7, 9) := by decide +kernel
theorem i94_7 : ts_ins 94 7 = some (.iconst (-1), 8, 0) := by decide +kernel
theorem i94_8 : ts_ins 94 8 = some (.ireturn, 9, 0) := by decide +kernel
theorem i94_9 : ts_ins 94 9 = some (.aload_n 0, 10, 0) := by decide +kernel
theorem i94_10 : ts_ins 94 10 = some (.getfield 10, 13, 0) := by decide +kernel
theorem g94_10 : ts_fm 94 10 = some (11, 0, 2) := by decide +kernel
theorem i94_13 : ts_ins 94 13 = some (.iload_n 1, 14, 0) := by decide +kernel
theorem i94_14 : ts_ins 94 14 = some (.invokevirtual 96, 17, 0) := by decide +kernel
theorem g94_14 : ts_cal (ts_mc 94) 96 = some (0, 17, 1) := by decide +kernel
theorem i94_17 : ts_ins 94 17 = some (.ireturn, 18, 0) := by decide +kernel
theorem r94 : ts_rt 94 = ((some .int), 0, 0) := by decide +kernel
theorem l94 : ts_ml 94 = 2 := by decide +kernel
theorem i152_0 : ts_ins 152 0 = some (.iload_n 1, 1, 0) := by decide +kernel
theorem i152_1 : ts_ins 152 1 = some (.i2l, 2, 0) := by decide +kernel
theorem i152_2 : ts_ins 152 2 = some (.invokestatic 107, 5, 0) := by decide +kernel
theorem g152_2 : ts_cal (ts_mc 152) 107 = some (1, 148, 1) := by decide +kernel
theorem i152_5 : ts_ins 152 5 = some (.ifCond .ne 5, 8, 10) := by decide +kernel
theorem i152_8 : ts_ins 152 8 = some (.iconst (-1), 9, 0) := by decide +kernel
theorem i152_9 : ts_ins 152 9 = some (.ireturn, 10, 0) := by decide +kernel
theorem i152_10 : ts_ins 152 10 = some (.aload_n 0, 11, 0) := by decide +kernel
theorem i152_11 : ts_ins 152 11 = some (.getfield 99, 14, 0) := by decide +kernel
theorem g152_11 : ts_fm 152 99 = some (12, 6, 0) := by decide +kernel
theorem i152_14 : ts_ins 152 14 = some (.iconst 4, 15, 0) := by decide +kernel
theorem i152_15 : ts_ins 152 15 = some (.if_icmp .ne 6, 18, 21) := by decide +kernel
theorem i152_18 : ts_ins 152 18 = some (.bipush (-3), 20, 0) := by decide +kernel
theorem i152_20 : ts_ins 152 20 = some (.ireturn, 21, 0) := by decide +kernel
theorem i152_21 : ts_ins 152 21 = some (.aload_n 0, 22, 0) := by decide +kernel
theorem i152_22 : ts_ins 152 22 = some (.getfield 9, 25, 0) := by decide +kernel
theorem g152_22 : ts_fm 152 9 = some (12, 0, 2) := by decide +kernel
theorem i152_25 : ts_ins 152 25 = some (.bipush 32, 27, 0) := by decide +kernel
theorem i152_27 : ts_ins 152 27 = some (.aload_n 0, 28, 0) := by decide +kernel
theorem i152_28 : ts_ins 152 28 = some (.getfield 99, 31, 0) := by decide +kernel
theorem g152_28 : ts_fm 152 99 = some (12, 6, 0) := by decide +kernel
theorem i152_31 : ts_ins 152 31 = some (.iadd, 32, 0) := by decide +kernel
theorem i152_32 : ts_ins 152 32 = some (.iload_n 1, 33, 0) := by decide +kernel
theorem i152_33 : ts_ins 152 33 = some (.iastore, 34, 0) := by decide +kernel
theorem i152_34 : ts_ins 152 34 = some (.aload_n 0, 35, 0) := by decide +kernel
theorem i152_35 : ts_ins 152 35 = some (.getfield 9, 38, 0) := by decide +kernel
theorem g152_35 : ts_fm 152 9 = some (12, 0, 2) := by decide +kernel
theorem i152_38 : ts_ins 152 38 = some (.bipush 36, 40, 0) := by decide +kernel
theorem i152_40 : ts_ins 152 40 = some (.aload_n 0, 41, 0) := by decide +kernel
theorem i152_41 : ts_ins 152 41 = some (.getfield 99, 44, 0) := by decide +kernel
theorem g152_41 : ts_fm 152 99 = some (12, 6, 0) := by decide +kernel
theorem i152_44 : ts_ins 152 44 = some (.iadd, 45, 0) := by decide +kernel
theorem i152_45 : ts_ins 152 45 = some (.iconst 2, 46, 0) := by decide +kernel
theorem i152_46 : ts_ins 152 46 = some (.iastore, 47, 0) := by decide +kernel
theorem i152_47 : ts_ins 152 47 = some (.aload_n 0, 48, 0) := by decide +kernel
theorem i152_48 : ts_ins 152 48 = some (.getfield 9, 51, 0) := by decide +kernel
theorem g152_48 : ts_fm 152 9 = some (12, 0, 2) := by decide +kernel
theorem i152_51 : ts_ins 152 51 = some (.bipush 40, 53, 0) := by decide +kernel
theorem i152_53 : ts_ins 152 53 = some (.aload_n 0, 54, 0) := by decide +kernel
theorem i152_54 : ts_ins 152 54 = some (.getfield 99, 57, 0) := by decide +kernel
theorem g152_54 : ts_fm 152 99 = some (12, 6, 0) := by decide +kernel
theorem i152_57 : ts_ins 152 57 = some (.iadd, 58, 0) := by decide +kernel
theorem i152_58 : ts_ins 152 58 = some (.bipush 12, 60, 0) := by decide +kernel
theorem i152_60 : ts_ins 152 60 = some (.iastore, 61, 0) := by decide +kernel
theorem i152_61 : ts_ins 152 61 = some (.aload_n 0, 62, 0) := by decide +kernel
theorem i152_62 : ts_ins 152 62 = some (.dup, 63, 0) := by decide +kernel
theorem i152_63 : ts_ins 152 63 = some (.getfield 99, 66, 0) := by decide +kernel
theorem g152_63 : ts_fm 152 99 = some (12, 6, 0) := by decide +kernel
theorem i152_66 : ts_ins 152 66 = some (.iconst 1, 67, 0) := by decide +kernel
theorem i152_67 : ts_ins 152 67 = some (.iadd, 68, 0) := by decide +kernel
theorem i152_68 : ts_ins 152 68 = some (.putfield 99, 71, 0) := by decide +kernel
theorem g152_68 : ts_fmm 152 99 = some (12, 6, 0, false) := by decide +kernel
theorem i152_71 : ts_ins 152 71 = some (.aload_n 0, 72, 0) := by decide +kernel
theorem i152_72 : ts_ins 152 72 = some (.getfield 99, 75, 0) := by decide +kernel
theorem g152_72 : ts_fm 152 99 = some (12, 6, 0) := by decide +kernel
theorem i152_75 : ts_ins 152 75 = some (.iconst 1, 76, 0) := by decide +kernel
theorem i152_76 : ts_ins 152 76 = some (.isub, 77, 0) := by decide +kernel
theorem i152_77 : ts_ins 152 77 = some (.ireturn, 78, 0) := by decide +kernel
theorem r152 : ts_rt 152 = ((some .int), 0, 0) := by decide +kernel
theorem l152 : ts_ml 152 = 2 := by decide +kernel
/-! MEN -/
/-- the floor's places in the class, but for the law's -/
abbrev ffl : Nat → Nat → Prop := fun a k => 2 ≤ a ∧ a ≤ 18 ∧ ¬ (a = 2 ∧ 11 ≤ k)
/-- the floor's places in the reference -/
abbrev ffm : Nat → Nat → Prop := fun a k => (a = 72 ∧ 6 ≤ k ∧ k ≤ 7) ∨ a = 73 ∨ a = 77
def g_man (f : ts_Fl) (p : Int) : Int := if 0 ≤ p ∧ p < 16 then (if f_men f < 4 then f_men f else -3) else -1
def g_manF (f : ts_Fl) (p : Int) : ts_Fl := if (0 ≤ p ∧ p < 16) ∧ f_men f < 4 then fs_men (fs_late (fs_arm (fs_reach (fs_stand f (zu (f_stand f) (f_men f) p)) (zu (f_reach f) (f_men f) 2)) (zu (f_arm f) (f_men f) 12)) (zu (f_late f) (f_men f) 0)) (f_men f + 1) else f
section MAN
variable {X : ts_X} {I : Nat → Nat → Int32} {L : Nat → Nat → Int64} {sw : Bool} {K : Option Value → ts_H → Prop} {d : Nat} {f : ts_Fl}
theorem x_addMan (hX : RX I f) {p : Int} (hp : 0 ≤ p ∧ p < 16) (hK : ∀ J, fr ffl I J → RX J (g_manF f p) → K (some (.int (zI (g_man f p)))) (J, L, ts_P0 sw, ts_S0)) : ts_Cal X (d + 1) 17 [.ref 2, .int (zI (p))] (I, L, ts_P0 sw, ts_S0) K := by
  have b1 := hX.men.2
  unfold g_man g_manF at hK
  rw [if_pos hp] at hK
  refine ev_enter (lv := [.ref 2, .int (zI (p))]) l17 rfl (Nat.le_of_ble_eq_true rfl) ?_
  refine ev_aloadn_0 i17_0 ?_
  refine ew_getI i17_1 g17_1 rfl (by first | exact hX.men | exact hX.told | exact hX.road | exact hX.tone _ (by omega) (by omega) | exact hX.corn _ (by omega) (by omega) | exact hX.stand _ (by omega) (by omega) | exact hX.reach _ (by omega) (by omega) | exact hX.arm _ (by omega) (by omega) | exact hX.late _ (by omega) (by omega) | exact hX.len _ (by omega) (by omega) | exact hX.say (by omega) (by omega) _ (by omega) (by omega)) (fun b1 => ?_)
  refine ew_iconst i17_4 ?_
  refine ew_icmplt i17_5 (by omega) (fun c5 => ?_) (fun c5 => ?_)
  · refine ev_aloadn_0 i17_11 ?_
    refine ev_getA i17_12 g17_12 rfl rfl (by decide) ?_
    refine ev_aloadn_0 i17_15 ?_
    refine ew_getI i17_16 g17_16 rfl (by first | exact hX.men | exact hX.told | exact hX.road | exact hX.tone _ (by omega) (by omega) | exact hX.corn _ (by omega) (by omega) | exact hX.stand _ (by omega) (by omega) | exact hX.reach _ (by omega) (by omega) | exact hX.arm _ (by omega) (by omega) | exact hX.late _ (by omega) (by omega) | exact hX.len _ (by omega) (by omega) | exact hX.say (by omega) (by omega) _ (by omega) (by omega)) (fun b16 => ?_)
    refine ev_iloadn_1 i17_19 ?_
    refine ew_iastore i17_20 rfl (by omega) (by omega) (by omega) ?_
    refine ev_aloadn_0 i17_21 ?_
    refine ev_getA i17_22 g17_22 rfl rfl (by decide) ?_
    refine ev_aloadn_0 i17_25 ?_
    refine ew_getI i17_26 g17_26 rfl (by first | exact hX.men | exact hX.told | exact hX.road | exact hX.tone _ (by omega) (by omega) | exact hX.corn _ (by omega) (by omega) | exact hX.stand _ (by omega) (by omega) | exact hX.reach _ (by omega) (by omega) | exact hX.arm _ (by omega) (by omega) | exact hX.late _ (by omega) (by omega) | exact hX.len _ (by omega) (by omega) | exact hX.say (by omega) (by omega) _ (by omega) (by omega)) (fun b26 => ?_)
    refine ew_iconst i17_29 ?_
    refine ew_iastore i17_30 rfl (by omega) (by omega) (by omega) ?_
    refine ev_aloadn_0 i17_31 ?_
    refine ev_getA i17_32 g17_32 rfl rfl (by decide) ?_
    refine ev_aloadn_0 i17_35 ?_
    refine ew_getI i17_36 g17_36 rfl (by first | exact hX.men | exact hX.told | exact hX.road | exact hX.tone _ (by omega) (by omega) | exact hX.corn _ (by omega) (by omega) | exact hX.stand _ (by omega) (by omega) | exact hX.reach _ (by omega) (by omega) | exact hX.arm _ (by omega) (by omega) | exact hX.late _ (by omega) (by omega) | exact hX.len _ (by omega) (by omega) | exact hX.say (by omega) (by omega) _ (by omega) (by omega)) (fun b36 => ?_)
    refine ew_bipush i17_39 (by decide) ?_
    refine ew_iastore i17_41 rfl (by omega) (by omega) (by omega) ?_
    refine ev_aloadn_0 i17_42 ?_
    refine ev_getA i17_43 g17_43 rfl rfl (by decide) ?_
    refine ev_aloadn_0 i17_46 ?_
    refine ew_getI i17_47 g17_47 rfl (by first | exact hX.men | exact hX.told | exact hX.road | exact hX.tone _ (by omega) (by omega) | exact hX.corn _ (by omega) (by omega) | exact hX.stand _ (by omega) (by omega) | exact hX.reach _ (by omega) (by omega) | exact hX.arm _ (by omega) (by omega) | exact hX.late _ (by omega) (by omega) | exact hX.len _ (by omega) (by omega) | exact hX.say (by omega) (by omega) _ (by omega) (by omega)) (fun b47 => ?_)
    refine ew_iconst i17_50 ?_
    refine ew_iastore i17_51 rfl (by omega) (by omega) (by omega) ?_
    refine ev_aloadn_0 i17_52 ?_
    refine ev_dup i17_53 rfl ?_
    refine ew_getI i17_54 g17_54 rfl (by first | exact hX.men | exact hX.told | exact hX.road | exact hX.tone _ (by omega) (by omega) | exact hX.corn _ (by omega) (by omega) | exact hX.stand _ (by omega) (by omega) | exact hX.reach _ (by omega) (by omega) | exact hX.arm _ (by omega) (by omega) | exact hX.late _ (by omega) (by omega) | exact hX.len _ (by omega) (by omega) | exact hX.say (by omega) (by omega) _ (by omega) (by omega)) (fun b54 => ?_)
    refine ew_iconst i17_57 ?_
    refine ew_iadd i17_58 ?_
    refine ev_putI i17_59 g17_59 rfl ?_
    refine ev_aloadn_0 i17_62 ?_
    refine ew_getI i17_63 g17_63 rfl ((rd_zI (lo := 0) (hi := 4) (v := f_men f + 1) (by omega))) (fun b63 => ?_)
    refine ew_iconst i17_66 ?_
    refine ew_isub i17_67 ?_
    refine ev_ireturn i17_68 r17 ?_
    rw [if_pos (by omega), if_pos (by omega)] at hK
    have e := hK _ (by repeat' (first | exact fr_rfl _ _ | refine fr_up ?_ (by omega))) (((((hX.sStand b1.1 (v := p) (by omega)).sReach b1.1 (v := 2) (by omega)).sArm b1.1 (v := 12) (by omega)).sLate b1.1 (v := 0) (by omega)).sMen (v := f_men f + 1) (by omega))
    exact zK e (by omega)
  · refine ew_bipush i17_8 (by decide) ?_
    refine ev_ireturn i17_10 r17 ?_
    rw [if_neg (by omega), if_neg (by omega)] at hK
    exact hK I (fr_rfl _ _) hX
theorem x_man (hX : RX I f) {p : Int} (hp : -2147483648 ≤ p ∧ p ≤ 2147483647) (hK : ∀ J, fr ffl I J → RX J (g_manF f p) → K (some (.int (zI (g_man f p)))) (J, L, ts_P0 sw, ts_S0)) : ts_Cal X (d + 2) 94 [.ref 1, .int (zI (p))] (I, L, ts_P0 sw, ts_S0) K := by
  refine ev_enter (lv := [.ref 1, .int (zI (p))]) l94 rfl (Nat.le_of_ble_eq_true rfl) ?_
  refine ev_iloadn_1 i94_0 ?_
  refine ev_stat1 i94_1 g94_1 (by decide +kernel) (Nat.le_of_ble_eq_true rfl) (x_isPlank hp ?_)
  first
  | refine ew_ifneB i94_4 (fun c4 => ?_) (fun c4 => ?_)
  | refine ew_ifne i94_4 (by omega) (fun c4 => ?_) (fun c4 => ?_)
  · refine ev_aloadn_0 i94_9 ?_
    refine ev_getA i94_10 g94_10 rfl rfl (by decide) ?_
    refine ev_iloadn_1 i94_13 ?_
    refine ev_virt1 i94_14 g94_14 rfl (by decide +kernel) (Nat.le_of_ble_eq_true rfl) (x_addMan hX c4 (fun J h1 h2 => ?_))
    refine ev_ireturn i94_17 r94 ?_
    exact hK J h1 h2
  · refine ew_iconst i94_7 ?_
    refine ev_ireturn i94_8 r94 ?_
    unfold g_man g_manF at hK
    rw [if_neg (by omega), if_neg c4] at hK
    exact hK I (fr_rfl _ _) hX
theorem m_man (hM : RM I f) (hO : RO f) {p : Int} (hp : -2147483648 ≤ p ∧ p ≤ 2147483647) (hK : ∀ J, fr ffm I J → RM J (g_manF f p) → K (some (.int (zI (g_man f p)))) (J, L, ts_P0 sw, ts_S0)) : ts_Cal X (d + 3) 152 [.ref 72, .int (zI (p))] (I, L, ts_P0 sw, ts_S0) K := by
  have b1 := hM.men.2
  unfold g_man g_manF at hK
  refine ev_enter (lv := [.ref 72, .int (zI (p))]) l152 rfl (Nat.le_of_ble_eq_true rfl) ?_
  refine ev_iloadn_1 i152_0 ?_
  refine ew_i2l i152_1 (by omega) ?_
  refine ev_stat1 i152_2 g152_2 (by decide +kernel) (Nat.le_of_ble_eq_true rfl) (m_isPlank (by omega) ?_)
  first
  | refine ew_ifneB i152_5 (fun c5 => ?_) (fun c5 => ?_)
  | refine ew_ifne i152_5 (by omega) (fun c5 => ?_) (fun c5 => ?_)
  · refine ev_aloadn_0 i152_10 ?_
    refine ew_getI i152_11 g152_11 rfl (by first | exact hM.men | exact hM.told | exact hM.road | exact hM.stand _ (by omega) (by omega) | exact hM.reach _ (by omega) (by omega) | exact hM.arm _ (by omega) (by omega) | exact hM.late _ (by omega) (by omega) | exact hM.len _ (by omega) (by omega) | exact hM.corn _ (by omega) (by omega) | exact hM.say (by omega) (by omega) _ (by omega) (by omega) | exact hM.tone _ (by omega) (by omega)) (fun b11 => ?_)
    refine ew_iconst i152_14 ?_
    refine ew_icmpne i152_15 (by omega) (fun c15 => ?_) (fun c15 => ?_)
    · refine ev_aloadn_0 i152_21 ?_
      refine ev_getA i152_22 g152_22 rfl rfl (by decide) ?_
      refine ew_bipush i152_25 (by decide) ?_
      refine ev_aloadn_0 i152_27 ?_
      refine ew_getI i152_28 g152_28 rfl (by first | exact hM.men | exact hM.told | exact hM.road | exact hM.stand _ (by omega) (by omega) | exact hM.reach _ (by omega) (by omega) | exact hM.arm _ (by omega) (by omega) | exact hM.late _ (by omega) (by omega) | exact hM.len _ (by omega) (by omega) | exact hM.corn _ (by omega) (by omega) | exact hM.say (by omega) (by omega) _ (by omega) (by omega) | exact hM.tone _ (by omega) (by omega)) (fun b28 => ?_)
      refine ew_iadd i152_31 ?_
      refine ev_iloadn_1 i152_32 ?_
      refine ew_iastore i152_33 rfl (by omega) (by omega) (by omega) ?_
      refine ev_aloadn_0 i152_34 ?_
      refine ev_getA i152_35 g152_35 rfl rfl (by decide) ?_
      refine ew_bipush i152_38 (by decide) ?_
      refine ev_aloadn_0 i152_40 ?_
      refine ew_getI i152_41 g152_41 rfl (by first | exact hM.men | exact hM.told | exact hM.road | exact hM.stand _ (by omega) (by omega) | exact hM.reach _ (by omega) (by omega) | exact hM.arm _ (by omega) (by omega) | exact hM.late _ (by omega) (by omega) | exact hM.len _ (by omega) (by omega) | exact hM.corn _ (by omega) (by omega) | exact hM.say (by omega) (by omega) _ (by omega) (by omega) | exact hM.tone _ (by omega) (by omega)) (fun b41 => ?_)
      refine ew_iadd i152_44 ?_
      refine ew_iconst i152_45 ?_
      refine ew_iastore i152_46 rfl (by omega) (by omega) (by omega) ?_
      refine ev_aloadn_0 i152_47 ?_
      refine ev_getA i152_48 g152_48 rfl rfl (by decide) ?_
      refine ew_bipush i152_51 (by decide) ?_
      refine ev_aloadn_0 i152_53 ?_
      refine ew_getI i152_54 g152_54 rfl (by first | exact hM.men | exact hM.told | exact hM.road | exact hM.stand _ (by omega) (by omega) | exact hM.reach _ (by omega) (by omega) | exact hM.arm _ (by omega) (by omega) | exact hM.late _ (by omega) (by omega) | exact hM.len _ (by omega) (by omega) | exact hM.corn _ (by omega) (by omega) | exact hM.say (by omega) (by omega) _ (by omega) (by omega) | exact hM.tone _ (by omega) (by omega)) (fun b54 => ?_)
      refine ew_iadd i152_57 ?_
      refine ew_bipush i152_58 (by decide) ?_
      refine ew_iastore i152_60 rfl (by omega) (by omega) (by omega) ?_
      refine ev_aloadn_0 i152_61 ?_
      refine ev_dup i152_62 rfl ?_
      refine ew_getI i152_63 g152_63 rfl (by first | exact hM.men | exact hM.told | exact hM.road | exact hM.stand _ (by omega) (by omega) | exact hM.reach _ (by omega) (by omega) | exact hM.arm _ (by omega) (by omega) | exact hM.late _ (by omega) (by omega) | exact hM.len _ (by omega) (by omega) | exact hM.corn _ (by omega) (by omega) | exact hM.say (by omega) (by omega) _ (by omega) (by omega) | exact hM.tone _ (by omega) (by omega)) (fun b63 => ?_)
      refine ew_iconst i152_66 ?_
      refine ew_iadd i152_67 ?_
      refine ev_putI i152_68 g152_68 rfl ?_
      refine ev_aloadn_0 i152_71 ?_
      refine ew_getI i152_72 g152_72 rfl ((rd_zI (lo := 0) (hi := 4) (v := f_men f + 1) (by omega))) (fun b72 => ?_)
      refine ew_iconst i152_75 ?_
      refine ew_isub i152_76 ?_
      refine ev_ireturn i152_77 r152 ?_
      rw [if_pos (by omega), if_pos (by omega), if_pos (by omega)] at hK
      have h1 := (((hM.sStand (p := f_men f) (v := p) (by omega) (by omega)).sReach (p := f_men f) (v := 2) (by omega) (by omega)).sArm (p := f_men f) (v := 12) (by omega) (by omega)).sMen (v := f_men f + 1) (by omega)
      have e0 : zu (f_late f) (f_men f) 0 = f_late f := by
        funext q
        by_cases c : q = f_men f
        · subst c
          rw [zu_e]
          exact (hO.1 _ b1.1 (by omega) (Int.le_refl _)).symm
        · exact zu_n c
      rw [e0] at hK
      have e := hK _ (by repeat' (first | exact fr_rfl _ _ | refine fr_up ?_ (by omega))) h1
      exact zK e (by omega)
    · refine ew_bipush i152_18 (by decide) ?_
      refine ev_ireturn i152_20 r152 ?_
      rw [if_neg (by omega), if_pos (by omega), if_neg (by omega)] at hK
      exact hK I (fr_rfl _ _) hM
  · refine ew_iconst i152_8 ?_
    refine ev_ireturn i152_9 r152 ?_
    rw [if_neg (by omega), if_neg (by omega)] at hK
    exact hK I (fr_rfl _ _) hM
theorem RO.man (hO : RO f) (b1 : 0 ≤ f_men f) (p : Int) : RO (g_manF f p) := by
  unfold g_manF
  split
  · refine ⟨fun q h0 h1 h2 => ?_, hO.2⟩
    show zu (f_late f) (f_men f) 0 q = 0
    have h3 : f_men f + 1 ≤ q := h2
    rw [zu_n (by omega)]
    exact hO.1 q h0 h1 (by omega)
  · exact hO
end MAN
