theorem i82_0 : ts_ins 82 0 = some (.iconst 0, 1, 0) := by decide +kernel
theorem i82_1 : ts_ins 82 1 = some (.istore_n 1, 2, 0) := by decide +kernel
theorem i82_2 : ts_ins 82 2 = some (.iconst 0, 3, 0) := by decide +kernel
theorem i82_3 : ts_ins 82 3 = some (.istore_n 2, 4, 0) := by decide +kernel
theorem i82_4 : ts_ins 82 4 = some (.iload_n 2, 5, 0) := by decide +kernel
theorem i82_5 : ts_ins 82 5 = some (.aload_n 0, 6, 0) := by decide +kernel
theorem i82_6 : ts_ins 82 6 = some (.getfield 27, 9, 0) := by decide +kernel
theorem g82_6 : ts_fm 82 27 = some (9, 0, 2) := by decide +kernel
theorem i82_9 : ts_ins 82 9 = some (.getfield 80, 12, 0) := by decide +kernel
theorem g82_9 : ts_fm 82 80 = some (3, 9, 0) := by decide +kernel
theorem i82_12 : ts_ins 82 12 = some (.if_icmp .ge 23, 15, 35) := by decide +kernel
theorem i82_15 : ts_ins 82 15 = some (.aload_n 0, 16, 0) := by decide +kernel
theorem i82_16 : ts_ins 82 16 = some (.iload_n 2, 17, 0) := by decide +kernel
theorem i82_17 : ts_ins 82 17 = some (.invokevirtual 84, 20, 0) := by decide +kernel
theorem g82_17 : ts_cal (ts_mc 82) 84 = some (0, 79, 1) := by decide +kernel
theorem i82_20 : ts_ins 82 20 = some (.ifCond .eq 9, 23, 29) := by decide +kernel
theorem i82_23 : ts_ins 82 23 = some (.iload_n 1, 24, 0) := by decide +kernel
theorem i82_24 : ts_ins 82 24 = some (.iconst 1, 25, 0) := by decide +kernel
theorem i82_25 : ts_ins 82 25 = some (.iload_n 2, 26, 0) := by decide +kernel
theorem i82_26 : ts_ins 82 26 = some (.ishl, 27, 0) := by decide +kernel
theorem i82_27 : ts_ins 82 27 = some (.ior, 28, 0) := by decide +kernel
theorem i82_28 : ts_ins 82 28 = some (.istore_n 1, 29, 0) := by decide +kernel
theorem i82_29 : ts_ins 82 29 = some (.iinc 2 1, 32, 0) := by decide +kernel
theorem i82_32 : ts_ins 82 32 = some (.goto (-28), 35, 4) := by decide +kernel
theorem i82_35 : ts_ins 82 35 = some (.iload_n 1, 36, 0) := by decide +kernel
theorem i82_36 : ts_ins 82 36 = some (.ireturn, 37, 0) := by decide +kernel
theorem r82 : ts_rt 82 = ((some .int), 0, 0) := by decide +kernel
theorem l82 : ts_ml 82 = 3 := by decide +kernel
theorem i248_0 : ts_ins 248 0 = some (.iconst 0, 1, 0) := by decide +kernel
theorem i248_1 : ts_ins 248 1 = some (.istore_n 2, 2, 0) := by decide +kernel
theorem i248_2 : ts_ins 248 2 = some (.aload_n 0, 3, 0) := by decide +kernel
theorem i248_3 : ts_ins 248 3 = some (.arraylength, 4, 0) := by decide +kernel
theorem i248_4 : ts_ins 248 4 = some (.istore_n 3, 5, 0) := by decide +kernel
theorem i248_5 : ts_ins 248 5 = some (.iload_n 2, 6, 0) := by decide +kernel
theorem i248_6 : ts_ins 248 6 = some (.iload_n 3, 7, 0) := by decide +kernel
theorem i248_7 : ts_ins 248 7 = some (.if_icmp .ge 13, 10, 20) := by decide +kernel
theorem i248_10 : ts_ins 248 10 = some (.aload_n 0, 11, 0) := by decide +kernel
theorem i248_11 : ts_ins 248 11 = some (.iload_n 2, 12, 0) := by decide +kernel
theorem i248_12 : ts_ins 248 12 = some (.iload_n 1, 13, 0) := by decide +kernel
theorem i248_13 : ts_ins 248 13 = some (.iastore, 14, 0) := by decide +kernel
theorem i248_14 : ts_ins 248 14 = some (.iinc 2 1, 17, 0) := by decide +kernel
theorem i248_17 : ts_ins 248 17 = some (.goto (-12), 20, 5) := by decide +kernel
theorem i248_20 : ts_ins 248 20 = some (.return_, 21, 0) := by decide +kernel
theorem r248 : ts_rt 248 = (none, 0, 0) := by decide +kernel
theorem l248 : ts_ml 248 = 4 := by decide +kernel
/-! SAY and CAN in the class -/
abbrev fxb : Nat → Nat → Prop := fun a _ => a = 22 ∨ a = 23 ∨ a = 29 ∨ a = 30 ∨ (32 ≤ a ∧ a ≤ 36)
abbrev fx36 : Nat → Nat → Prop := fun a _ => a = 36
abbrev fx34 : Nat → Nat → Prop := fun a _ => a = 34
section SX4
variable {X : ts_X} {I J : Nat → Nat → Int32} {L : Nat → Nat → Int64} {sw : Bool} {K : Option Value → ts_H → Prop} {d : Nat} {f : ts_Fl} {w : ts_Lw} {tn : Int → Int}
theorem RX.fxb (h : RX I f) (e : fr fxb I J) : RX J f := h.co (fun a p0 p1 => fr_row e (fun k => by omega))
theorem RXw.fxb (h : RXw I sw w) (e : fr fxb I J) : RXw J sw w := h.co (e 2 12 (by omega)) (fun a q => fr_row e (fun k => by omega))
theorem x_sayableBits (hX : RX I f) (hW : RXw I sw w) (hO : ROw w) (hA : RXa I f w) (hm : RXm I (fs_tone f tn)) (hK : ∀ J, fr fxq I J → RXa J f w → K (some (.int (zI (g_canB (fs_tone f tn) w)))) (J, L, ts_P0 sw, ts_S0)) : ts_Cal X (d + 7) 82 [.ref 31] (I, L, ts_P0 sw, ts_S0) K := by
  have b1 := hX.told.2
  have loop : ∀ j : Int, 0 ≤ j → j ≤ f_told f → ∀ J, fr fxq I J → RXa J f w → ts_Ev X (ts_Cal X (d + 6)) 82 ts_S0 K 4 [.ref 31, .int (zI (zbits (fun x => g_sp (fs_tone f tn) w x = f_len f x) j.toNat)), .int (zI (j))] [] (J, L, ts_P0 sw, ts_S0) := by
    refine ts_ind (f_told f) (fun j ih j0 jn J hJ hAJ => ?_)
    have hXJ := hX.fxq hJ
    by_cases cj : j < f_told f
    · refine ev_iloadn_2 i82_4 ?_
      refine ev_aloadn_0 i82_5 ?_
      refine ev_getA i82_6 g82_6 rfl rfl (by decide) ?_
      refine ew_getI i82_9 g82_9 rfl (by first | exact hXJ.told | exact hX.men | exact hX.told | exact hX.road | exact hX.tone _ (by omega) (by omega) | exact hX.corn _ (by omega) (by omega) | exact hX.stand _ (by omega) (by omega) | exact hX.reach _ (by omega) (by omega) | exact hX.arm _ (by omega) (by omega) | exact hX.late _ (by omega) (by omega) | exact hX.len _ (by omega) (by omega) | exact hX.say (by omega) (by omega) _ (by omega) (by omega)) (fun b9 => ?_)
      refine ew_icmpge i82_12 (by omega) (fun c12 => ?_) (fun c12 => ?_)
      · exfalso; omega
      · refine ev_aloadn_0 i82_15 ?_
        refine ev_iloadn_2 i82_16 ?_
        refine ev_virt1 i82_17 g82_17 rfl (by decide +kernel) (Nat.le_of_ble_eq_true rfl) (x_speak (tn := tn) hXJ (hW.fxq hJ) hO hAJ (hm.fxq hJ) ⟨j0, cj⟩ (fun N h1 h2 h3 => ?_))
        first
        | refine ew_ifeqB i82_20 (fun c20 => ?_) (fun c20 => ?_)
        | refine ew_ifeq i82_20 (by omega) (fun c20 => ?_) (fun c20 => ?_)
        · refine ew_iinc_2 i82_29 rfl ?_
          refine ev_goto i82_32 ?_
          have e := ih (by omega) (by omega) (by omega) N (fr_tr hJ h1) h2
          rw [zbits_s j0] at e
          first
            | (rw [if_neg (by omega)] at e; exact e)
            | (rw [if_pos (by omega)] at e; exact e)
        · refine ev_iloadn_1 i82_23 ?_
          refine ew_iconst i82_24 ?_
          refine ev_iloadn_2 i82_25 ?_
          refine ew_ishl i82_26 ?_
          refine ew_ior i82_27 ?_
          refine ev_istoren_1 i82_28 rfl ?_
          refine ew_iinc_2 i82_29 rfl ?_
          refine ev_goto i82_32 ?_
          have e := ih (by omega) (by omega) (by omega) N (fr_tr hJ h1) h2
          rw [zbits_s j0] at e
          first
            | (rw [if_neg (by omega)] at e; exact e)
            | (rw [if_pos (by omega)] at e; exact e)
    · obtain rfl : j = f_told f := by omega
      refine ev_iloadn_2 i82_4 ?_
      refine ev_aloadn_0 i82_5 ?_
      refine ev_getA i82_6 g82_6 rfl rfl (by decide) ?_
      refine ew_getI i82_9 g82_9 rfl (by first | exact hXJ.told | exact hX.men | exact hX.told | exact hX.road | exact hX.tone _ (by omega) (by omega) | exact hX.corn _ (by omega) (by omega) | exact hX.stand _ (by omega) (by omega) | exact hX.reach _ (by omega) (by omega) | exact hX.arm _ (by omega) (by omega) | exact hX.late _ (by omega) (by omega) | exact hX.len _ (by omega) (by omega) | exact hX.say (by omega) (by omega) _ (by omega) (by omega)) (fun b9 => ?_)
      refine ew_icmpge i82_12 (by omega) (fun c12 => ?_) (fun c12 => ?_)
      · refine ev_iloadn_1 i82_35 ?_
        refine ev_ireturn i82_36 r82 ?_
        exact hK J hJ hAJ
      · exfalso; omega
  refine ev_enter (lv := [.ref 31, .null, .null]) l82 rfl (Nat.le_of_ble_eq_true rfl) ?_
  refine ew_iconst i82_0 ?_
  refine ev_istoren_1 i82_1 rfl ?_
  refine ew_iconst i82_2 ?_
  refine ev_istoren_2 i82_3 rfl ?_
  exact loop 0 (by decide) (by omega) I (fr_rfl _ _) hA
theorem x_fillI {a n : Nat} (ha : ∀ Y : ts_X, ts_al Y ts_S0 a = some n) (hb : ts_sA ts_S0 a = some (0, n)) (hn : n ≤ 480) (hK : ∀ M, fr (fun b _ => b = a) I M → ar M a n 0 0 (fun _ => 0) → K none (M, L, ts_P0 sw, ts_S0)) : ts_Cal X (d + 1) 248 [.ref a, .int (zI (0))] (I, L, ts_P0 sw, ts_S0) K := by
  have loop : ∀ j : Int, 0 ≤ j → j ≤ n → ∀ M, fr (fun b _ => b = a) I M → ar M a j 0 0 (fun _ => 0) → ts_Ev X (ts_Cal X (d + 0)) 248 ts_S0 K 5 [.ref a, .int (zI (0)), .int (zI (j)), .int (zI (n))] [] (M, L, ts_P0 sw, ts_S0) := by
    refine ts_ind n (fun j ih h0 h1 M hM hz => ?_)
    refine ev_iloadn_2 i248_5 ?_
    refine ev_iloadn_3 i248_6 ?_
    refine ew_icmpge i248_7 (by omega) (fun c7 => ?_) (fun c7 => ?_)
    · refine ev_return i248_20 r248 ?_
      obtain rfl : j = n := by omega
      exact hK M hM hz
    · refine ev_aloadn_0 i248_10 ?_
      refine ev_iloadn_2 i248_11 ?_
      refine ev_iloadn_1 i248_12 ?_
      refine ew_iastore i248_13 hb (by omega) (by omega) (by omega) ?_
      refine ew_iinc_2 i248_14 rfl ?_
      refine ev_goto i248_17 ?_
      exact ih (by omega) (by omega) (by omega) _ (fr_up hM rfl) (ar_ext2 hz h0 ⟨by decide, by decide⟩)
  refine ev_enter (lv := [.ref a, .int (zI (0)), .null, .null]) l248 rfl (Nat.le_of_ble_eq_true rfl) ?_
  refine ew_iconst i248_0 ?_
  refine ev_istoren_2 i248_1 rfl ?_
  refine ev_aloadn_0 i248_2 ?_
  refine ew_alen i248_3 (ha _) ?_
  refine ev_istoren_3 i248_4 rfl ?_
  exact loop 0 (by decide) (by omega) I (fr_rfl _ _) (fun k k0 k1 => by omega)
end SX4
