theorem i81_0 : ts_ins 81 0 = some (.iload_n 1, 1, 0) := by decide +kernel
theorem i81_1 : ts_ins 81 1 = some (.bipush 8, 3, 0) := by decide +kernel
theorem i81_3 : ts_ins 81 3 = some (.imul, 4, 0) := by decide +kernel
theorem i81_4 : ts_ins 81 4 = some (.iload_n 2, 5, 0) := by decide +kernel
theorem i81_5 : ts_ins 81 5 = some (.iadd, 6, 0) := by decide +kernel
theorem i81_6 : ts_ins 81 6 = some (.bipush 10, 8, 0) := by decide +kernel
theorem i81_8 : ts_ins 81 8 = some (.imul, 9, 0) := by decide +kernel
theorem i81_9 : ts_ins 81 9 = some (.iload_n 3, 10, 0) := by decide +kernel
theorem i81_10 : ts_ins 81 10 = some (.iadd, 11, 0) := by decide +kernel
theorem i81_11 : ts_ins 81 11 = some (.istore 4, 13, 0) := by decide +kernel
theorem i81_13 : ts_ins 81 13 = some (.aload_n 0, 14, 0) := by decide +kernel
theorem i81_14 : ts_ins 81 14 = some (.getfield 24, 17, 0) := by decide +kernel
theorem g81_14 : ts_fm 81 24 = some (9, 5, 2) := by decide +kernel
theorem i81_17 : ts_ins 81 17 = some (.iload 4, 19, 0) := by decide +kernel
theorem i81_19 : ts_ins 81 19 = some (.iaload, 20, 0) := by decide +kernel
theorem i81_20 : ts_ins 81 20 = some (.ifCond .ne 48, 23, 68) := by decide +kernel
theorem i81_23 : ts_ins 81 23 = some (.aload_n 0, 24, 0) := by decide +kernel
theorem i81_24 : ts_ins 81 24 = some (.getfield 27, 27, 0) := by decide +kernel
theorem g81_24 : ts_fm 81 27 = some (9, 0, 2) := by decide +kernel
theorem i81_27 : ts_ins 81 27 = some (.aload_n 0, 28, 0) := by decide +kernel
theorem i81_28 : ts_ins 81 28 = some (.getfield 27, 31, 0) := by decide +kernel
theorem g81_28 : ts_fm 81 27 = some (9, 0, 2) := by decide +kernel
theorem i81_31 : ts_ins 81 31 = some (.iload_n 1, 32, 0) := by decide +kernel
theorem i81_32 : ts_ins 81 32 = some (.invokevirtual 42, 35, 0) := by decide +kernel
theorem g81_32 : ts_cal (ts_mc 81) 42 = some (0, 25, 1) := by decide +kernel
theorem i81_35 : ts_ins 81 35 = some (.iload_n 2, 36, 0) := by decide +kernel
theorem i81_36 : ts_ins 81 36 = some (.iload_n 3, 37, 0) := by decide +kernel
theorem i81_37 : ts_ins 81 37 = some (.iload_n 1, 38, 0) := by decide +kernel
theorem i81_38 : ts_ins 81 38 = some (.invokevirtual 76, 41, 0) := by decide +kernel
theorem g81_38 : ts_cal (ts_mc 81) 76 = some (0, 30, 4) := by decide +kernel
theorem i81_41 : ts_ins 81 41 = some (.ifCond .le 7, 44, 48) := by decide +kernel
theorem i81_44 : ts_ins 81 44 = some (.iconst 1, 45, 0) := by decide +kernel
theorem i81_45 : ts_ins 81 45 = some (.goto 4, 48, 49) := by decide +kernel
theorem i81_48 : ts_ins 81 48 = some (.iconst 0, 49, 0) := by decide +kernel
theorem i81_49 : ts_ins 81 49 = some (.istore 5, 51, 0) := by decide +kernel
theorem i81_51 : ts_ins 81 51 = some (.aload_n 0, 52, 0) := by decide +kernel
theorem i81_52 : ts_ins 81 52 = some (.getfield 24, 55, 0) := by decide +kernel
theorem g81_52 : ts_fm 81 24 = some (9, 5, 2) := by decide +kernel
theorem i81_55 : ts_ins 81 55 = some (.iload 4, 57, 0) := by decide +kernel
theorem i81_57 : ts_ins 81 57 = some (.iload 5, 59, 0) := by decide +kernel
theorem i81_59 : ts_ins 81 59 = some (.ifCond .eq 7, 62, 66) := by decide +kernel
theorem i81_62 : ts_ins 81 62 = some (.iconst 1, 63, 0) := by decide +kernel
theorem i81_63 : ts_ins 81 63 = some (.goto 4, 66, 67) := by decide +kernel
theorem i81_66 : ts_ins 81 66 = some (.iconst 2, 67, 0) := by decide +kernel
theorem i81_67 : ts_ins 81 67 = some (.iastore, 68, 0) := by decide +kernel
theorem i81_68 : ts_ins 81 68 = some (.aload_n 0, 69, 0) := by decide +kernel
theorem i81_69 : ts_ins 81 69 = some (.getfield 24, 72, 0) := by decide +kernel
theorem g81_69 : ts_fm 81 24 = some (9, 5, 2) := by decide +kernel
theorem i81_72 : ts_ins 81 72 = some (.iload 4, 74, 0) := by decide +kernel
theorem i81_74 : ts_ins 81 74 = some (.iaload, 75, 0) := by decide +kernel
theorem i81_75 : ts_ins 81 75 = some (.iconst 1, 76, 0) := by decide +kernel
theorem i81_76 : ts_ins 81 76 = some (.if_icmp .ne 7, 79, 83) := by decide +kernel
theorem i81_79 : ts_ins 81 79 = some (.iconst 1, 80, 0) := by decide +kernel
theorem i81_80 : ts_ins 81 80 = some (.goto 4, 83, 84) := by decide +kernel
theorem i81_83 : ts_ins 81 83 = some (.iconst 0, 84, 0) := by decide +kernel
theorem i81_84 : ts_ins 81 84 = some (.ireturn, 85, 0) := by decide +kernel
theorem r81 : ts_rt 81 = ((some .boolean), 0, 0) := by decide +kernel
theorem l81 : ts_ml 81 = 6 := by decide +kernel
/-! SPEECH in the class -/
abbrev g_hrd (f : ts_Fl) (w : ts_Lw) (b t c : Int) : Prop := 0 < g_ld w t c (f_road f) (b % f_men f) (f_arm f (b % f_men f)) (b % 4)
def AOK (f : ts_Fl) (w : ts_Lw) (g : Int → Int) : Prop := ∀ b t c, 0 ≤ b → b < 6 → 0 ≤ t → t < 8 → 0 ≤ c → c < 10 → g (((b * 8 + t) * 10 + c)) = 0 ∨ g (((b * 8 + t) * 10 + c)) = if g_hrd f w b t c then 1 else 2
def RXa (I : Nat → Nat → Int32) (f : ts_Fl) (w : ts_Lw) : Prop := ∃ g, ar I 36 480 0 2 g ∧ AOK f w g
abbrev fxq : Nat → Nat → Prop := fun a _ => a = 22 ∨ a = 23 ∨ a = 29 ∨ a = 30 ∨ a = 32 ∨ a = 33 ∨ a = 36
abbrev fxh : Nat → Nat → Prop := fun a _ => a = 22 ∨ a = 23 ∨ a = 29 ∨ a = 30 ∨ a = 36
theorem AOK.up {f : ts_Fl} {w : ts_Lw} {g : Int → Int} (h : AOK f w g) {b t c v : Int} (hb : 0 ≤ b ∧ b < 6) (ht : 0 ≤ t ∧ t < 8) (hc : 0 ≤ c ∧ c < 10) (hv : v = if g_hrd f w b t c then 1 else 2) : AOK f w (zu g (((b * 8 + t) * 10 + c)) v) := by
  intro b' t' c' h0 h1 h2 h3 h4 h5
  by_cases e : ((b' * 8 + t') * 10 + c') = ((b * 8 + t) * 10 + c)
  · obtain rfl : b' = b := by omega
    obtain rfl : t' = t := by omega
    obtain rfl : c' = c := by omega
    rw [zu_e]
    exact Or.inr hv
  · rw [zu_n e]
    exact h b' t' c' h0 h1 h2 h3 h4 h5
section SX
variable {X : ts_X} {I J : Nat → Nat → Int32} {L : Nat → Nat → Int64} {sw : Bool} {K : Option Value → ts_H → Prop} {d : Nat} {f : ts_Fl} {w : ts_Lw}
theorem RX.fxq (h : RX I f) (e : fr fxq I J) : RX J f := h.co (fun a p0 p1 => fr_row e (fun k => by omega))
theorem RXw.fxq (h : RXw I sw w) (e : fr fxq I J) : RXw J sw w := h.co (e 2 12 (by omega)) (fun a q => fr_row e (fun k => by omega))
theorem x_isHeard (hX : RX I f) (hW : RXw I sw w) (hO : ROw w) (hA : RXa I f w) (hm : 0 < f_men f) {b t c : Int} (hb : 0 ≤ b ∧ b < 6) (ht : 0 ≤ t ∧ t < 8) (hc : 0 ≤ c ∧ c < 10) (hK : ∀ J, fr fxh I J → RXa J f w → K (some (.int (zI (if g_hrd f w b t c then 1 else 0)))) (J, L, ts_P0 sw, ts_S0)) : ts_Cal X (d + 4) 81 [.ref 31, .int (zI (b)), .int (zI (t)), .int (zI (c))] (I, L, ts_P0 sw, ts_S0) K := by
  have bm := hX.men.2
  have q1 := Int.emod_nonneg b (show ¬ f_men f = 0 by omega)
  have q2 := Int.emod_lt_of_pos b hm
  have gl := g_ld_r w t c (f_road f) (b % f_men f) (f_arm f (b % f_men f)) (b % 4)
  obtain ⟨g, hg, ho⟩ := hA
  have fin : ∀ J, fr fxh I J → ∀ g, ar J 36 480 0 2 g → AOK f w g → g (((b * 8 + t) * 10 + c)) = (if g_hrd f w b t c then 1 else 2) → ∀ o5, ts_Ev X (ts_Cal X (d + 3)) 81 ts_S0 K 68 [.ref 31, .int (zI (b)), .int (zI (t)), .int (zI (c)), .int (zI (((b * 8 + t) * 10 + c))), o5] [] (J, L, ts_P0 sw, ts_S0) := by
    intro J hJ g hg ho hv o5
    have e := hK J hJ ⟨g, hg, ho⟩
    refine ev_aloadn_0 i81_68 ?_
    refine ev_getA i81_69 g81_69 rfl rfl (by decide) ?_
    refine ev_iload_4 i81_72 ?_
    refine ew_iaload i81_74 rfl (by omega) (by omega) (by omega) ((hg (((b * 8 + t) * 10 + c)) (by omega) (by omega))) (fun b74 => ?_)
    refine ew_iconst i81_75 ?_
    refine ew_icmpne i81_76 (by omega) (fun c76 => ?_) (fun c76 => ?_)
    · refine ew_iconst i81_83 ?_
      refine ew_zreturn i81_84 r81 ?_ e
      omega
    · refine ew_iconst i81_79 ?_
      refine ev_goto i81_80 ?_
      refine ew_zreturn i81_84 r81 ?_ e
      omega
  have a0 := (hg (((b * 8 + t) * 10 + c)) (by omega) (by omega)).2
  have a1 := ho b t c hb.1 hb.2 ht.1 ht.2 hc.1 hc.2
  refine ev_enter (lv := [.ref 31, .int (zI (b)), .int (zI (t)), .int (zI (c)), .null, .null]) l81 rfl (Nat.le_of_ble_eq_true rfl) ?_
  refine ev_iloadn_1 i81_0 ?_
  refine ew_bipush i81_1 (by decide) ?_
  refine ew_imul i81_3 ?_
  refine ev_iloadn_2 i81_4 ?_
  refine ew_iadd i81_5 ?_
  refine ew_bipush i81_6 (by decide) ?_
  refine ew_imul i81_8 ?_
  refine ev_iloadn_3 i81_9 ?_
  refine ew_iadd i81_10 ?_
  refine ev_istore_4 i81_11 rfl ?_
  refine ev_aloadn_0 i81_13 ?_
  refine ev_getA i81_14 g81_14 rfl rfl (by decide) ?_
  refine ev_iload_4 i81_17 ?_
  refine ew_iaload i81_19 rfl (by omega) (by omega) (by omega) ((hg (((b * 8 + t) * 10 + c)) (by omega) (by omega))) (fun b19 => ?_)
  first
  | refine ew_ifneB i81_20 (fun c20 => ?_) (fun c20 => ?_)
  | refine ew_ifne i81_20 (by omega) (fun c20 => ?_) (fun c20 => ?_)
  · first
    | exact fin I (fr_rfl _ _) g hg ho (by omega) _
    | exact fin _ (fr_up (fr_mo h1 (fun a k q => by omega)) (by omega)) _ (ar_up (ar_co hg (fr_row h1 (fun k => by omega))) (by omega) (by omega)) (ho.up hb ht hc (if_pos (by omega)).symm) (zu_e _ _ _ |>.trans (if_pos (by omega)).symm) _
    | exact fin _ (fr_up (fr_mo h1 (fun a k q => by omega)) (by omega)) _ (ar_up (ar_co hg (fr_row h1 (fun k => by omega))) (by omega) (by omega)) (ho.up hb ht hc (if_neg (by omega)).symm) (zu_e _ _ _ |>.trans (if_neg (by omega)).symm) _
  · refine ev_aloadn_0 i81_23 ?_
    refine ev_getA i81_24 g81_24 rfl rfl (by decide) ?_
    refine ev_aloadn_0 i81_27 ?_
    refine ev_getA i81_28 g81_28 rfl rfl (by decide) ?_
    refine ev_iloadn_1 i81_31 ?_
    refine ev_virt1 i81_32 g81_32 rfl (by decide +kernel) (Nat.le_of_ble_eq_true rfl) (x_manOf hX (by omega) ?_)
    rw [if_pos (by omega)]
    refine ev_iloadn_2 i81_35 ?_
    refine ev_iloadn_3 i81_36 ?_
    refine ev_iloadn_1 i81_37 ?_
    refine ev_virt4 i81_38 g81_38 rfl (by decide +kernel) (Nat.le_of_ble_eq_true rfl) (x_loudness hX hW hO ⟨by omega, by omega⟩ (by omega) (by omega) (by omega) (fun J h1 => ?_))
    refine ew_ifle i81_41 (by omega) (fun c41 => ?_) (fun c41 => ?_)
    · refine ew_iconst i81_48 ?_
      refine ev_istore_5 i81_49 rfl ?_
      refine ev_aloadn_0 i81_51 ?_
      refine ev_getA i81_52 g81_52 rfl rfl (by decide) ?_
      refine ev_iload_4 i81_55 ?_
      refine ev_iload_5 i81_57 ?_
      first
      | refine ew_ifeqB i81_59 (fun c59 => ?_) (fun c59 => ?_)
      | refine ew_ifeq i81_59 (by omega) (fun c59 => ?_) (fun c59 => ?_)
      · refine ew_iconst i81_66 ?_
        refine ew_iastore i81_67 rfl (by omega) (by omega) (by omega) ?_
        first
        | exact fin I (fr_rfl _ _) g hg ho (by omega) _
        | exact fin _ (fr_up (fr_mo h1 (fun a k q => by omega)) (by omega)) _ (ar_up (ar_co hg (fr_row h1 (fun k => by omega))) (by omega) (by omega)) (ho.up hb ht hc (if_pos (by omega)).symm) (zu_e _ _ _ |>.trans (if_pos (by omega)).symm) _
        | exact fin _ (fr_up (fr_mo h1 (fun a k q => by omega)) (by omega)) _ (ar_up (ar_co hg (fr_row h1 (fun k => by omega))) (by omega) (by omega)) (ho.up hb ht hc (if_neg (by omega)).symm) (zu_e _ _ _ |>.trans (if_neg (by omega)).symm) _
      · refine ew_iconst i81_62 ?_
        refine ev_goto i81_63 ?_
        refine ew_iastore i81_67 rfl (by omega) (by omega) (by omega) ?_
        first
        | exact fin I (fr_rfl _ _) g hg ho (by omega) _
        | exact fin _ (fr_up (fr_mo h1 (fun a k q => by omega)) (by omega)) _ (ar_up (ar_co hg (fr_row h1 (fun k => by omega))) (by omega) (by omega)) (ho.up hb ht hc (if_pos (by omega)).symm) (zu_e _ _ _ |>.trans (if_pos (by omega)).symm) _
        | exact fin _ (fr_up (fr_mo h1 (fun a k q => by omega)) (by omega)) _ (ar_up (ar_co hg (fr_row h1 (fun k => by omega))) (by omega) (by omega)) (ho.up hb ht hc (if_neg (by omega)).symm) (zu_e _ _ _ |>.trans (if_neg (by omega)).symm) _
    · refine ew_iconst i81_44 ?_
      refine ev_goto i81_45 ?_
      refine ev_istore_5 i81_49 rfl ?_
      refine ev_aloadn_0 i81_51 ?_
      refine ev_getA i81_52 g81_52 rfl rfl (by decide) ?_
      refine ev_iload_4 i81_55 ?_
      refine ev_iload_5 i81_57 ?_
      first
      | refine ew_ifeqB i81_59 (fun c59 => ?_) (fun c59 => ?_)
      | refine ew_ifeq i81_59 (by omega) (fun c59 => ?_) (fun c59 => ?_)
      · refine ew_iconst i81_66 ?_
        refine ew_iastore i81_67 rfl (by omega) (by omega) (by omega) ?_
        first
        | exact fin I (fr_rfl _ _) g hg ho (by omega) _
        | exact fin _ (fr_up (fr_mo h1 (fun a k q => by omega)) (by omega)) _ (ar_up (ar_co hg (fr_row h1 (fun k => by omega))) (by omega) (by omega)) (ho.up hb ht hc (if_pos (by omega)).symm) (zu_e _ _ _ |>.trans (if_pos (by omega)).symm) _
        | exact fin _ (fr_up (fr_mo h1 (fun a k q => by omega)) (by omega)) _ (ar_up (ar_co hg (fr_row h1 (fun k => by omega))) (by omega) (by omega)) (ho.up hb ht hc (if_neg (by omega)).symm) (zu_e _ _ _ |>.trans (if_neg (by omega)).symm) _
      · refine ew_iconst i81_62 ?_
        refine ev_goto i81_63 ?_
        refine ew_iastore i81_67 rfl (by omega) (by omega) (by omega) ?_
        first
        | exact fin I (fr_rfl _ _) g hg ho (by omega) _
        | exact fin _ (fr_up (fr_mo h1 (fun a k q => by omega)) (by omega)) _ (ar_up (ar_co hg (fr_row h1 (fun k => by omega))) (by omega) (by omega)) (ho.up hb ht hc (if_pos (by omega)).symm) (zu_e _ _ _ |>.trans (if_pos (by omega)).symm) _
        | exact fin _ (fr_up (fr_mo h1 (fun a k q => by omega)) (by omega)) _ (ar_up (ar_co hg (fr_row h1 (fun k => by omega))) (by omega) (by omega)) (ho.up hb ht hc (if_neg (by omega)).symm) (zu_e _ _ _ |>.trans (if_neg (by omega)).symm) _
end SX
