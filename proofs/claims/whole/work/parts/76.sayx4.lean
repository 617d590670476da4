theorem i82_0 : ts_ins 82 0 = some (.iconst 0, 1, 0) := by decide +kernel
theorem i82_1 : ts_ins 82 1 = some (.istore_n 1, 2, 0) := by decide +kernel
theorem i82_2 : ts_ins 82 2 = some (.iconst 0, 3, 0) := by decide +kernel
theorem i82_3 : ts_ins 82 3 = some (.istore_n 2, 4, 0) := by decide +kernel
theorem i82_4 : ts_ins 82 4 = some (.iload_n 2, 5, 0) := by decide +kernel
theorem i82_5 : ts_ins 82 5 = some (.aload_n 0, 6, 0) := by decide +kernel
theorem i82_6 : ts_ins 82 6 = some (.getfield 27, 9, 0) := by decide +kernel
theorem g82_6 : ts_fm 82 27 = some (9, 0, 2) := by decide +kernel
theorem i82_9 : ts_ins 82 9 = some (.getfield 80, 12, 0) := by decide +kernel
theorem g82_9 : ts_fm 82 80 = some (3, 9, 0) := by decide +kernel
theorem i82_12 : ts_ins 82 12 = some (.if_icmp .ge 23, 15, 35) := by decide +kernel
theorem i82_15 : ts_ins 82 15 = some (.aload_n 0, 16, 0) := by decide +kernel
theorem i82_16 : ts_ins 82 16 = some (.iload_n 2, 17, 0) := by decide +kernel
theorem i82_17 : ts_ins 82 17 = some (.invokevirtual 84, 20, 0) := by decide +kernel
theorem g82_17 : ts_cal (ts_mc 82) 84 = some (0, 79, 1) := by decide +kernel
theorem i82_20 : ts_ins 82 20 = some (.ifCond .eq 9, 23, 29) := by decide +kernel
theorem i82_23 : ts_ins 82 23 = some (.iload_n 1, 24, 0) := by decide +kernel
theorem i82_24 : ts_ins 82 24 = some (.iconst 1, 25, 0) := by decide +kernel
theorem i82_25 : ts_ins 82 25 = some (.iload_n 2, 26, 0) := by decide +kernel
theorem i82_26 : ts_ins 82 26 = some (.ishl, 27, 0) := by decide +kernel
theorem i82_27 : ts_ins 82 27 = some (.ior, 28, 0) := by decide +kernel
theorem i82_28 : ts_ins 82 28 = some (.istore_n 1, 29, 0) := by decide +kernel
theorem i82_29 : ts_ins 82 29 = some (.iinc 2 1, 32, 0) := by decide +kernel
theorem i82_32 : ts_ins 82 32 = some (.goto (-28), 35, 4) := by decide +kernel
theorem i82_35 : ts_ins 82 35 = some (.iload_n 1, 36, 0) := by decide +kernel
theorem i82_36 : ts_ins 82 36 = some (.ireturn, 37, 0) := by decide +kernel
theorem r82 : ts_rt 82 = ((some .int), 0, 0) := by decide +kernel
theorem l82 : ts_ml 82 = 3 := by decide +kernel
theorem i248_0 : ts_ins 248 0 = some (.iconst 0, 1, 0) := by decide +kernel
theorem i248_1 : ts_ins 248 1 = some (.istore_n 2, 2, 0) := by decide +kernel
theorem i248_2 : ts_ins 248 2 = some (.aload_n 0, 3, 0) := by decide +kernel
theorem i248_3 : ts_ins 248 3 = some (.arraylength, 4, 0) := by decide +kernel
theorem i248_4 : ts_ins 248 4 = some (.istore_n 3, 5, 0) := by decide +kernel
theorem i248_5 : ts_ins 248 5 = some (.iload_n 2, 6, 0) := by decide +kernel
theorem i248_6 : ts_ins 248 6 = some (.iload_n 3, 7, 0) := by decide +kernel
theorem i248_7 : ts_ins 248 7 = some (.if_icmp .ge 13, 10, 20) := by decide +kernel
theorem i248_10 : ts_ins 248 10 = some (.aload_n 0, 11, 0) := by decide +kernel
theorem i248_11 : ts_ins 248 11 = some (.iload_n 2, 12, 0) := by decide +kernel
theorem i248_12 : ts_ins 248 12 = some (.iload_n 1, 13, 0) := by decide +kernel
theorem i248_13 : ts_ins 248 13 = some (.iastore, 14, 0) := by decide +kernel
theorem i248_14 : ts_ins 248 14 = some (.iinc 2 1, 17, 0) := by decide +kernel
theorem i248_17 : ts_ins 248 17 = some (.goto (-12), 20, 5) := by decide +kernel
theorem i248_20 : ts_ins 248 20 = some (.return_, 21, 0) := by decide +kernel
theorem r248 : ts_rt 248 = (none, 0, 0) := by decide +kernel
theorem l248 : ts_ml 248 = 4 := by decide +kernel
theorem i78_0 : ts_ins 78 0 = some (.aload_n 0, 1, 0) := by decide +kernel
theorem i78_1 : ts_ins 78 1 = some (.getfield 24, 4, 0) := by decide +kernel
theorem g78_1 : ts_fm 78 24 = some (9, 5, 2) := by decide +kernel
theorem i78_4 : ts_ins 78 4 = some (.iconst 0, 5, 0) := by decide +kernel
theorem i78_5 : ts_ins 78 5 = some (.invokestatic 31, 8, 0) := by decide +kernel
theorem g78_5 : ts_cal (ts_mc 78) 31 = some (1, 248, 2) := by decide +kernel
theorem i78_8 : ts_ins 78 8 = some (.aload_n 0, 9, 0) := by decide +kernel
theorem i78_9 : ts_ins 78 9 = some (.getfield 18, 12, 0) := by decide +kernel
theorem g78_9 : ts_fm 78 18 = some (9, 3, 2) := by decide +kernel
theorem i78_12 : ts_ins 78 12 = some (.iconst 0, 13, 0) := by decide +kernel
theorem i78_13 : ts_ins 78 13 = some (.invokestatic 31, 16, 0) := by decide +kernel
theorem g78_13 : ts_cal (ts_mc 78) 31 = some (1, 248, 2) := by decide +kernel
theorem i78_16 : ts_ins 78 16 = some (.iconst 0, 17, 0) := by decide +kernel
theorem i78_17 : ts_ins 78 17 = some (.istore_n 1, 18, 0) := by decide +kernel
theorem i78_18 : ts_ins 78 18 = some (.iload_n 1, 19, 0) := by decide +kernel
theorem i78_19 : ts_ins 78 19 = some (.bipush 16, 21, 0) := by decide +kernel
theorem i78_21 : ts_ins 78 21 = some (.if_icmp .ge 29, 24, 50) := by decide +kernel
theorem i78_24 : ts_ins 78 24 = some (.aload_n 0, 25, 0) := by decide +kernel
theorem i78_25 : ts_ins 78 25 = some (.getfield 18, 28, 0) := by decide +kernel
theorem g78_25 : ts_fm 78 18 = some (9, 3, 2) := by decide +kernel
theorem i78_28 : ts_ins 78 28 = some (.aload_n 0, 29, 0) := by decide +kernel
theorem i78_29 : ts_ins 78 29 = some (.getfield 27, 32, 0) := by decide +kernel
theorem g78_29 : ts_fm 78 27 = some (9, 0, 2) := by decide +kernel
theorem i78_32 : ts_ins 78 32 = some (.getfield 37, 35, 0) := by decide +kernel
theorem g78_32 : ts_fm 78 37 = some (3, 0, 2) := by decide +kernel
theorem i78_35 : ts_ins 78 35 = some (.iload_n 1, 36, 0) := by decide +kernel
theorem i78_36 : ts_ins 78 36 = some (.iaload, 37, 0) := by decide +kernel
theorem i78_37 : ts_ins 78 37 = some (.dup2, 38, 0) := by decide +kernel
theorem i78_38 : ts_ins 78 38 = some (.iaload, 39, 0) := by decide +kernel
theorem i78_39 : ts_ins 78 39 = some (.iconst 1, 40, 0) := by decide +kernel
theorem i78_40 : ts_ins 78 40 = some (.iload_n 1, 41, 0) := by decide +kernel
theorem i78_41 : ts_ins 78 41 = some (.ishl, 42, 0) := by decide +kernel
theorem i78_42 : ts_ins 78 42 = some (.ior, 43, 0) := by decide +kernel
theorem i78_43 : ts_ins 78 43 = some (.iastore, 44, 0) := by decide +kernel
theorem i78_44 : ts_ins 78 44 = some (.iinc 1 1, 47, 0) := by decide +kernel
theorem i78_47 : ts_ins 78 47 = some (.goto (-29), 50, 18) := by decide +kernel
theorem i78_50 : ts_ins 78 50 = some (.iconst 0, 51, 0) := by decide +kernel
theorem i78_51 : ts_ins 78 51 = some (.istore_n 1, 52, 0) := by decide +kernel
theorem i78_52 : ts_ins 78 52 = some (.iload_n 1, 53, 0) := by decide +kernel
theorem i78_53 : ts_ins 78 53 = some (.bipush 6, 55, 0) := by decide +kernel
theorem i78_55 : ts_ins 78 55 = some (.if_icmp .ge 42, 58, 97) := by decide +kernel
theorem i78_58 : ts_ins 78 58 = some (.aload_n 0, 59, 0) := by decide +kernel
theorem i78_59 : ts_ins 78 59 = some (.getfield 27, 62, 0) := by decide +kernel
theorem g78_59 : ts_fm 78 27 = some (9, 0, 2) := by decide +kernel
theorem i78_62 : ts_ins 78 62 = some (.iload_n 1, 63, 0) := by decide +kernel
theorem i78_63 : ts_ins 78 63 = some (.invokevirtual 42, 66, 0) := by decide +kernel
theorem g78_63 : ts_cal (ts_mc 78) 42 = some (0, 25, 1) := by decide +kernel
theorem i78_66 : ts_ins 78 66 = some (.istore_n 2, 67, 0) := by decide +kernel
theorem i78_67 : ts_ins 78 67 = some (.aload_n 0, 68, 0) := by decide +kernel
theorem i78_68 : ts_ins 78 68 = some (.getfield 21, 71, 0) := by decide +kernel
theorem g78_68 : ts_fm 78 21 = some (9, 4, 2) := by decide +kernel
theorem i78_71 : ts_ins 78 71 = some (.iload_n 1, 72, 0) := by decide +kernel
theorem i78_72 : ts_ins 78 72 = some (.iload_n 2, 73, 0) := by decide +kernel
theorem i78_73 : ts_ins 78 73 = some (.bipush (-2), 75, 0) := by decide +kernel
theorem i78_75 : ts_ins 78 75 = some (.if_icmp .ne 7, 78, 82) := by decide +kernel
theorem i78_78 : ts_ins 78 78 = some (.iconst 0, 79, 0) := by decide +kernel
theorem i78_79 : ts_ins 78 79 = some (.goto 11, 82, 90) := by decide +kernel
theorem i78_82 : ts_ins 78 82 = some (.aload_n 0, 83, 0) := by decide +kernel
theorem i78_83 : ts_ins 78 83 = some (.getfield 27, 86, 0) := by decide +kernel
theorem g78_83 : ts_fm 78 27 = some (9, 0, 2) := by decide +kernel
theorem i78_86 : ts_ins 78 86 = some (.iload_n 2, 87, 0) := by decide +kernel
theorem i78_87 : ts_ins 78 87 = some (.invokevirtual 46, 90, 0) := by decide +kernel
theorem g78_87 : ts_cal (ts_mc 78) 46 = some (0, 27, 1) := by decide +kernel
theorem i78_90 : ts_ins 78 90 = some (.iastore, 91, 0) := by decide +kernel
theorem i78_91 : ts_ins 78 91 = some (.iinc 1 1, 94, 0) := by decide +kernel
theorem i78_94 : ts_ins 78 94 = some (.goto (-42), 97, 52) := by decide +kernel
theorem i78_97 : ts_ins 78 97 = some (.return_, 98, 0) := by decide +kernel
theorem r78 : ts_rt 78 = (none, 0, 0) := by decide +kernel
theorem l78 : ts_ml 78 = 3 := by decide +kernel
/-! SAY and CAN in the class -/
abbrev fxb : Nat → Nat → Prop := fun a _ => a = 22 ∨ a = 23 ∨ a = 29 ∨ a = 30 ∨ (32 ≤ a ∧ a ≤ 36)
abbrev fx36 : Nat → Nat → Prop := fun a _ => a = 36
abbrev fx34 : Nat → Nat → Prop := fun a _ => a = 34
section SX4
variable {X : ts_X} {I J : Nat → Nat → Int32} {L : Nat → Nat → Int64} {sw : Bool} {K : Option Value → ts_H → Prop} {d : Nat} {f : ts_Fl} {w : ts_Lw} {tn : Int → Int}
theorem RX.fxb (h : RX I f) (e : fr fxb I J) : RX J f := h.co (fun a p0 p1 => fr_row e (fun k => by omega))
theorem RXw.fxb (h : RXw I sw w) (e : fr fxb I J) : RXw J sw w := h.co (e 2 12 (by omega)) (fun a q => fr_row e (fun k => by omega))
theorem x_sayableBits (hX : RX I f) (hW : RXw I sw w) (hO : ROw w) (hA : RXa I f w) (hm : RXm I (fs_tone f tn)) (hK : ∀ J, fr fxq I J → RXa J f w → K (some (.int (zI (g_canB (fs_tone f tn) w)))) (J, L, ts_P0 sw, ts_S0)) : ts_Cal X (d + 7) 82 [.ref 31] (I, L, ts_P0 sw, ts_S0) K := by
  have b1 := hX.told.2
  have loop : ∀ j : Int, 0 ≤ j → j ≤ f_told f → ∀ J, fr fxq I J → RXa J f w → ts_Ev X (ts_Cal X (d + 6)) 82 ts_S0 K 4 [.ref 31, .int (zI (zbits (fun x => g_sp (fs_tone f tn) w x = f_len f x) j.toNat)), .int (zI (j))] [] (J, L, ts_P0 sw, ts_S0) := by
    refine ts_ind (f_told f) (fun j ih j0 jn J hJ hAJ => ?_)
    have hXJ := hX.fxq hJ
    by_cases cj : j < f_told f
    · refine ev_iloadn_2 i82_4 ?_
      refine ev_aloadn_0 i82_5 ?_
      refine ev_getA i82_6 g82_6 rfl rfl (by decide) ?_
      refine ew_getI i82_9 g82_9 rfl (by first | exact hXJ.told | exact hX.men | exact hX.told | exact hX.road | exact hX.tone _ (by omega) (by omega) | exact hX.corn _ (by omega) (by omega) | exact hX.stand _ (by omega) (by omega) | exact hX.reach _ (by omega) (by omega) | exact hX.arm _ (by omega) (by omega) | exact hX.late _ (by omega) (by omega) | exact hX.len _ (by omega) (by omega) | exact hX.say (by omega) (by omega) _ (by omega) (by omega)) (fun b9 => ?_)
      refine ew_icmpge i82_12 (by omega) (fun c12 => ?_) (fun c12 => ?_)
      · exfalso; omega
      · refine ev_aloadn_0 i82_15 ?_
        refine ev_iloadn_2 i82_16 ?_
        refine ev_virt1 i82_17 g82_17 rfl (by decide +kernel) (Nat.le_of_ble_eq_true rfl) (x_speak (tn := tn) hXJ (hW.fxq hJ) hO hAJ (hm.fxq hJ) ⟨j0, cj⟩ (fun N h1 h2 h3 => ?_))
        first
        | refine ew_ifeqB i82_20 (fun c20 => ?_) (fun c20 => ?_)
        | refine ew_ifeq i82_20 (by omega) (fun c20 => ?_) (fun c20 => ?_)
        · refine ew_iinc_2 i82_29 rfl ?_
          refine ev_goto i82_32 ?_
          have e := ih (by omega) (by omega) (by omega) N (fr_tr hJ h1) h2
          rw [zbits_s j0] at e
          first
            | (rw [if_neg (by omega)] at e; exact e)
            | (rw [if_pos (by omega)] at e; exact e)
        · refine ev_iloadn_1 i82_23 ?_
          refine ew_iconst i82_24 ?_
          refine ev_iloadn_2 i82_25 ?_
          refine ew_ishl i82_26 ?_
          refine ew_ior i82_27 ?_
          refine ev_istoren_1 i82_28 rfl ?_
          refine ew_iinc_2 i82_29 rfl ?_
          refine ev_goto i82_32 ?_
          have e := ih (by omega) (by omega) (by omega) N (fr_tr hJ h1) h2
          rw [zbits_s j0] at e
          first
            | (rw [if_neg (by omega)] at e; exact e)
            | (rw [if_pos (by omega)] at e; exact e)
    · obtain rfl : j = f_told f := by omega
      refine ev_iloadn_2 i82_4 ?_
      refine ev_aloadn_0 i82_5 ?_
      refine ev_getA i82_6 g82_6 rfl rfl (by decide) ?_
      refine ew_getI i82_9 g82_9 rfl (by first | exact hXJ.told | exact hX.men | exact hX.told | exact hX.road | exact hX.tone _ (by omega) (by omega) | exact hX.corn _ (by omega) (by omega) | exact hX.stand _ (by omega) (by omega) | exact hX.reach _ (by omega) (by omega) | exact hX.arm _ (by omega) (by omega) | exact hX.late _ (by omega) (by omega) | exact hX.len _ (by omega) (by omega) | exact hX.say (by omega) (by omega) _ (by omega) (by omega)) (fun b9 => ?_)
      refine ew_icmpge i82_12 (by omega) (fun c12 => ?_) (fun c12 => ?_)
      · refine ev_iloadn_1 i82_35 ?_
        refine ev_ireturn i82_36 r82 ?_
        exact hK J hJ hAJ
      · exfalso; omega
  refine ev_enter (lv := [.ref 31, .null, .null]) l82 rfl (Nat.le_of_ble_eq_true rfl) ?_
  refine ew_iconst i82_0 ?_
  refine ev_istoren_1 i82_1 rfl ?_
  refine ew_iconst i82_2 ?_
  refine ev_istoren_2 i82_3 rfl ?_
  exact loop 0 (by decide) (by omega) I (fr_rfl _ _) hA
theorem x_fillI {a n : Nat} (ha : ∀ Y : ts_X, ts_al Y ts_S0 a = some n) (hb : ts_sA ts_S0 a = some (0, n)) (hn : n ≤ 480) (hK : ∀ M, fr (fun b _ => b = a) I M → ar M a n 0 0 (fun _ => 0) → K none (M, L, ts_P0 sw, ts_S0)) : ts_Cal X (d + 1) 248 [.ref a, .int (zI (0))] (I, L, ts_P0 sw, ts_S0) K := by
  have loop : ∀ j : Int, 0 ≤ j → j ≤ n → ∀ M, fr (fun b _ => b = a) I M → ar M a j 0 0 (fun _ => 0) → ts_Ev X (ts_Cal X (d + 0)) 248 ts_S0 K 5 [.ref a, .int (zI (0)), .int (zI (j)), .int (zI (n))] [] (M, L, ts_P0 sw, ts_S0) := by
    refine ts_ind n (fun j ih h0 h1 M hM hz => ?_)
    refine ev_iloadn_2 i248_5 ?_
    refine ev_iloadn_3 i248_6 ?_
    refine ew_icmpge i248_7 (by omega) (fun c7 => ?_) (fun c7 => ?_)
    · refine ev_return i248_20 r248 ?_
      obtain rfl : j = n := by omega
      exact hK M hM hz
    · refine ev_aloadn_0 i248_10 ?_
      refine ev_iloadn_2 i248_11 ?_
      refine ev_iloadn_1 i248_12 ?_
      refine ew_iastore i248_13 hb (by omega) (by omega) (by omega) ?_
      refine ew_iinc_2 i248_14 rfl ?_
      refine ev_goto i248_17 ?_
      exact ih (by omega) (by omega) (by omega) _ (fr_up hM rfl) (ar_ext2 hz h0 ⟨by decide, by decide⟩)
  refine ev_enter (lv := [.ref a, .int (zI (0)), .null, .null]) l248 rfl (Nat.le_of_ble_eq_true rfl) ?_
  refine ew_iconst i248_0 ?_
  refine ev_istoren_2 i248_1 rfl ?_
  refine ev_aloadn_0 i248_2 ?_
  refine ew_alen i248_3 (ha _) ?_
  refine ev_istoren_3 i248_4 rfl ?_
  exact loop 0 (by decide) (by omega) I (fr_rfl _ _) (fun k k0 k1 => by omega)
theorem x_begin (hX : RX I f) (hK : ∀ J, fr fxb I J → RXa J f w → RXm J f → K none (J, L, ts_P0 sw, ts_S0)) : ts_Cal X (d + 4) 78 [.ref 31] (I, L, ts_P0 sw, ts_S0) K := by
  have bm := hX.men.2
  have l2 : ∀ b : Int, 0 ≤ b → b ≤ 6 → ∀ J, fr fxb I J → RXa J f w → ar J 34 8 (-2147483648) 2147483647 (fun t => zbits (fun p => f_tone f p = t) 16) → ar J 35 b (-2147483648) 2147483647 (fun b => if 0 < f_men f then zbits (f_can f (b % f_men f)) 16 else 0) → ∀ o, ts_Ev X (ts_Cal X (d + 3)) 78 ts_S0 K 52 [.ref 31, .int (zI (b)), o] [] (J, L, ts_P0 sw, ts_S0) := by
    refine ts_ind 6 (fun b ih b0 bn J hJ hAJ h34 h35 o => ?_)
    have hXJ := hX.fxb hJ
    by_cases h0 : 0 < f_men f
    · have q1 := Int.emod_nonneg b (show ¬ f_men f = 0 by omega)
      have q2 := Int.emod_lt_of_pos b h0
      have zr := zbits_r (f_can f (b % f_men f)) 16
      refine ev_iloadn_1 i78_52 ?_
      refine ew_bipush i78_53 (by decide) ?_
      refine ew_icmpge i78_55 (by omega) (fun c55 => ?_) (fun c55 => ?_)
      · refine ev_return i78_97 r78 ?_
        obtain rfl : b = 6 := by omega
        exact hK J hJ hAJ ⟨h34, h35⟩
      · refine ev_aloadn_0 i78_58 ?_
        refine ev_getA i78_59 g78_59 rfl rfl (by decide) ?_
        refine ev_iloadn_1 i78_62 ?_
        refine ev_virt1 i78_63 g78_63 rfl (by decide +kernel) (Nat.le_of_ble_eq_true rfl) (x_manOf hXJ (by omega) ?_)
        rw [if_pos ⟨h0, b0⟩]
        refine ev_istoren_2 i78_66 rfl ?_
        refine ev_aloadn_0 i78_67 ?_
        refine ev_getA i78_68 g78_68 rfl rfl (by decide) ?_
        refine ev_iloadn_1 i78_71 ?_
        refine ev_iloadn_2 i78_72 ?_
        refine ew_bipush i78_73 (by decide) ?_
        refine ew_icmpne i78_75 (by omega) (fun c75 => ?_) (fun c75 => ?_)
        · refine ev_aloadn_0 i78_82 ?_
          refine ev_getA i78_83 g78_83 rfl rfl (by decide) ?_
          refine ev_iloadn_2 i78_86 ?_
          refine ev_virt1 i78_87 g78_87 rfl (by decide +kernel) (Nat.le_of_ble_eq_true rfl) (x_reachBits hXJ (by omega) (by omega) ?_)
          refine ew_iastore i78_90 rfl (by omega) (by omega) (by omega) ?_
          refine ew_iinc_1 i78_91 rfl ?_
          refine ev_goto i78_94 ?_
          have e : zbits (f_can f (b % f_men f)) 16 = (fun b => if 0 < f_men f then zbits (f_can f (b % f_men f)) 16 else 0) b := (if_pos h0).symm
          rw [e]
          obtain ⟨g, hg, ho⟩ := hAJ
          exact ih (by omega) (by omega) (by omega) _ (fr_up hJ (by omega)) ⟨g, ar_co hg (ts_up_na (by decide)), ho⟩ (ar_co h34 (ts_up_na (by decide))) (ar_ext2 h35 b0 (by rw [if_pos h0]; exact zr)) _
        · exfalso; omega
    · refine ev_iloadn_1 i78_52 ?_
      refine ew_bipush i78_53 (by decide) ?_
      refine ew_icmpge i78_55 (by omega) (fun c55 => ?_) (fun c55 => ?_)
      · refine ev_return i78_97 r78 ?_
        obtain rfl : b = 6 := by omega
        exact hK J hJ hAJ ⟨h34, h35⟩
      · refine ev_aloadn_0 i78_58 ?_
        refine ev_getA i78_59 g78_59 rfl rfl (by decide) ?_
        refine ev_iloadn_1 i78_62 ?_
        refine ev_virt1 i78_63 g78_63 rfl (by decide +kernel) (Nat.le_of_ble_eq_true rfl) (x_manOf hXJ (by omega) ?_)
        rw [if_neg (fun r => h0 r.1)]
        refine ev_istoren_2 i78_66 rfl ?_
        refine ev_aloadn_0 i78_67 ?_
        refine ev_getA i78_68 g78_68 rfl rfl (by decide) ?_
        refine ev_iloadn_1 i78_71 ?_
        refine ev_iloadn_2 i78_72 ?_
        refine ew_bipush i78_73 (by decide) ?_
        refine ew_icmpne i78_75 (by omega) (fun c75 => ?_) (fun c75 => ?_)
        · exfalso; omega
        · refine ew_iconst i78_78 ?_
          refine ev_goto i78_79 ?_
          refine ew_iastore i78_90 rfl (by omega) (by omega) (by omega) ?_
          refine ew_iinc_1 i78_91 rfl ?_
          refine ev_goto i78_94 ?_
          have e : (0 : Int) = (fun b => if 0 < f_men f then zbits (f_can f (b % f_men f)) 16 else 0) b := (if_neg h0).symm
          rw [e]
          obtain ⟨g, hg, ho⟩ := hAJ
          exact ih (by omega) (by omega) (by omega) _ (fr_up hJ (by omega)) ⟨g, ar_co hg (ts_up_na (by decide)), ho⟩ (ar_co h34 (ts_up_na (by decide))) (ar_ext2 h35 b0 (by rw [if_neg h0]; decide)) _
  have l1 : ∀ p : Int, 0 ≤ p → p ≤ 16 → ∀ J, fr fxb I J → RXa J f w → ar J 34 8 (-2147483648) 2147483647 (fun t => zbits (fun q => f_tone f q = t) p.toNat) → ∀ o, ts_Ev X (ts_Cal X (d + 3)) 78 ts_S0 K 18 [.ref 31, .int (zI (p)), o] [] (J, L, ts_P0 sw, ts_S0) := by
    refine ts_ind 16 (fun p ih p0 pn J hJ hAJ h34 o => ?_)
    have hXJ := hX.fxb hJ
    by_cases cp : p < 16
    · have bt := (hXJ.tone p p0 cp).2
      refine ev_iloadn_1 i78_18 ?_
      refine ew_bipush i78_19 (by decide) ?_
      refine ew_icmpge i78_21 (by omega) (fun c21 => ?_) (fun c21 => ?_)
      · exfalso; omega
      · refine ev_aloadn_0 i78_24 ?_
        refine ev_getA i78_25 g78_25 rfl rfl (by decide) ?_
        refine ev_aloadn_0 i78_28 ?_
        refine ev_getA i78_29 g78_29 rfl rfl (by decide) ?_
        refine ev_getA i78_32 g78_32 rfl rfl (by decide) ?_
        refine ev_iloadn_1 i78_35 ?_
        refine ew_iaload i78_36 rfl (by omega) (by omega) (by omega) ((hXJ.tone p p0 cp)) (fun b36 => ?_)
        refine ev_dup2 i78_37 ?_
        refine ew_iaload i78_38 rfl (by omega) (by omega) (by omega) ((h34 _ (by omega) (by omega))) (fun b38 => ?_)
        refine ew_iconst i78_39 ?_
        refine ev_iloadn_1 i78_40 ?_
        refine ew_ishl i78_41 ?_
        refine ew_ior i78_42 ?_
        refine ew_iastore i78_43 rfl (by omega) (by omega) (by omega) ?_
        refine ew_iinc_1 i78_44 rfl ?_
        refine ev_goto i78_47 ?_
        obtain ⟨g, hg, ho⟩ := hAJ
        refine ih (by omega) (by omega) (by omega) _ (fr_up hJ (by omega)) ⟨g, ar_co hg (ts_up_na (by decide)), ho⟩ ?_ _
        refine ar_cg (ar_up h34 (by omega) (zor_r _ _)) (fun t t0 t1 => ?_)
        rw [zbits_s p0]
        by_cases c : t = f_tone f p
        · subst c
          rw [zu_e, if_pos rfl]
        · rw [zu_n c, if_neg (fun r => c r.symm)]
    · obtain rfl : p = 16 := by omega
      refine ev_iloadn_1 i78_18 ?_
      refine ew_bipush i78_19 (by decide) ?_
      refine ew_icmpge i78_21 (by omega) (fun c21 => ?_) (fun c21 => ?_)
      · refine ew_iconst i78_50 ?_
        refine ev_istoren_1 i78_51 rfl ?_
        exact l2 0 (by decide) (by decide) J hJ hAJ h34 (fun i i0 i1 => by omega) _
      · exfalso; omega
  refine ev_enter (lv := [.ref 31, .null, .null]) l78 rfl (Nat.le_of_ble_eq_true rfl) ?_
  refine ev_aloadn_0 i78_0 ?_
  refine ev_getA i78_1 g78_1 rfl rfl (by decide) ?_
  refine ew_iconst i78_4 ?_
  refine ev_stat2 i78_5 g78_5 (by decide +kernel) (Nat.le_of_ble_eq_true rfl) (x_fillI (n := 480) (fun _ => rfl) rfl (by decide) (fun J h1 h2 => ?_))
  refine ev_aloadn_0 i78_8 ?_
  refine ev_getA i78_9 g78_9 rfl rfl (by decide) ?_
  refine ew_iconst i78_12 ?_
  refine ev_stat2 i78_13 g78_13 (by decide +kernel) (Nat.le_of_ble_eq_true rfl) (x_fillI (n := 8) (fun _ => rfl) rfl (by decide) (fun N h3 h4 => ?_))
  refine ew_iconst i78_16 ?_
  refine ev_istoren_1 i78_17 rfl ?_
  refine l1 0 (by decide) (by decide) N (fr_tr (fr_mo h1 (fun a k q => by omega)) (fr_mo h3 (fun a k q => by omega))) ⟨fun _ => 0, fun i i0 i1 => ?_, fun b t c _ _ _ _ _ _ => Or.inl rfl⟩ (fun i i0 i1 => ?_) _
  · have q := ar_co h2 (fr_row h3 (fun k => by omega)) i i0 i1
    exact ⟨q.1, (by decide : (0 : Int) ≤ 0), (by decide : (0 : Int) ≤ 2)⟩
  · have q := h4 i i0 i1
    exact ⟨q.1, (by decide : (-2147483648 : Int) ≤ 0), (by decide : (0 : Int) ≤ 2147483647)⟩
end SX4
