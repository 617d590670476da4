theorem i80_0 : ts_ins 80 0 = some (.aload_n 0, 1, 0) := by decide +kernel
theorem i80_1 : ts_ins 80 1 = some (.getfield 18, 4, 0) := by decide +kernel
theorem g80_1 : ts_fm 80 18 = some (9, 3, 2) := by decide +kernel
theorem i80_4 : ts_ins 80 4 = some (.iload_n 2, 5, 0) := by decide +kernel
theorem i80_5 : ts_ins 80 5 = some (.iaload, 6, 0) := by decide +kernel
theorem i80_6 : ts_ins 80 6 = some (.aload_n 0, 7, 0) := by decide +kernel
theorem i80_7 : ts_ins 80 7 = some (.getfield 21, 10, 0) := by decide +kernel
theorem g80_7 : ts_fm 80 21 = some (9, 4, 2) := by decide +kernel
theorem i80_10 : ts_ins 80 10 = some (.iload_n 1, 11, 0) := by decide +kernel
theorem i80_11 : ts_ins 80 11 = some (.iaload, 12, 0) := by decide +kernel
theorem i80_12 : ts_ins 80 12 = some (.iand, 13, 0) := by decide +kernel
theorem i80_13 : ts_ins 80 13 = some (.istore_n 3, 14, 0) := by decide +kernel
theorem i80_14 : ts_ins 80 14 = some (.iconst 0, 15, 0) := by decide +kernel
theorem i80_15 : ts_ins 80 15 = some (.istore 4, 17, 0) := by decide +kernel
theorem i80_17 : ts_ins 80 17 = some (.iload 4, 19, 0) := by decide +kernel
theorem i80_19 : ts_ins 80 19 = some (.bipush 16, 21, 0) := by decide +kernel
theorem i80_21 : ts_ins 80 21 = some (.if_icmp .ge 45, 24, 66) := by decide +kernel
theorem i80_24 : ts_ins 80 24 = some (.iload_n 3, 25, 0) := by decide +kernel
theorem i80_25 : ts_ins 80 25 = some (.iload 4, 27, 0) := by decide +kernel
theorem i80_27 : ts_ins 80 27 = some (.ishr, 28, 0) := by decide +kernel
theorem i80_28 : ts_ins 80 28 = some (.ifCond .eq 38, 31, 66) := by decide +kernel
theorem i80_31 : ts_ins 80 31 = some (.iload_n 3, 32, 0) := by decide +kernel
theorem i80_32 : ts_ins 80 32 = some (.iload 4, 34, 0) := by decide +kernel
theorem i80_34 : ts_ins 80 34 = some (.ishr, 35, 0) := by decide +kernel
theorem i80_35 : ts_ins 80 35 = some (.iconst 1, 36, 0) := by decide +kernel
theorem i80_36 : ts_ins 80 36 = some (.iand, 37, 0) := by decide +kernel
theorem i80_37 : ts_ins 80 37 = some (.iconst 1, 38, 0) := by decide +kernel
theorem i80_38 : ts_ins 80 38 = some (.if_icmp .ne 22, 41, 60) := by decide +kernel
theorem i80_41 : ts_ins 80 41 = some (.aload_n 0, 42, 0) := by decide +kernel
theorem i80_42 : ts_ins 80 42 = some (.iload_n 1, 43, 0) := by decide +kernel
theorem i80_43 : ts_ins 80 43 = some (.iload_n 2, 44, 0) := by decide +kernel
theorem i80_44 : ts_ins 80 44 = some (.aload_n 0, 45, 0) := by decide +kernel
theorem i80_45 : ts_ins 80 45 = some (.getfield 9, 48, 0) := by decide +kernel
theorem g80_45 : ts_fm 80 9 = some (9, 1, 2) := by decide +kernel
theorem i80_48 : ts_ins 80 48 = some (.iload 4, 50, 0) := by decide +kernel
theorem i80_50 : ts_ins 80 50 = some (.iaload, 51, 0) := by decide +kernel
theorem i80_51 : ts_ins 80 51 = some (.invokevirtual 72, 54, 0) := by decide +kernel
theorem g80_51 : ts_cal (ts_mc 80) 72 = some (0, 81, 3) := by decide +kernel
theorem i80_54 : ts_ins 80 54 = some (.ifCond .eq 6, 57, 60) := by decide +kernel
theorem i80_57 : ts_ins 80 57 = some (.iload 4, 59, 0) := by decide +kernel
theorem i80_59 : ts_ins 80 59 = some (.ireturn, 60, 0) := by decide +kernel
theorem i80_60 : ts_ins 80 60 = some (.iinc 4 1, 63, 0) := by decide +kernel
theorem i80_63 : ts_ins 80 63 = some (.goto (-46), 66, 17) := by decide +kernel
theorem i80_66 : ts_ins 80 66 = some (.bipush (-2), 68, 0) := by decide +kernel
theorem i80_68 : ts_ins 80 68 = some (.ireturn, 69, 0) := by decide +kernel
theorem r80 : ts_rt 80 = ((some .int), 0, 0) := by decide +kernel
theorem l80 : ts_ml 80 = 5 := by decide +kernel
/-! SPEECH in the class: the least plank, a saying -/
def RXm (I : Nat → Nat → Int32) (f : ts_Fl) : Prop := ar I 34 8 (-2147483648) 2147483647 (fun t => zbits (fun p => f_tone f p = t) 16) ∧ ar I 35 6 (-2147483648) 2147483647 (fun b => if 0 < f_men f then zbits (f_can f (b % f_men f)) 16 else 0)
section SX2
variable {X : ts_X} {I J : Nat → Nat → Int32} {L : Nat → Nat → Int64} {sw : Bool} {K : Option Value → ts_H → Prop} {d : Nat} {f : ts_Fl} {w : ts_Lw} {tn cn : Int → Int}
theorem zand_00 (a : Int) : zand a 0 = 0 := by
  show (zI a &&& 0).toInt = 0
  rw [Int32.and_zero]; rfl
theorem zshr_00 : zshr 0 0 = 0 := by decide
theorem x_leastPlank (hX : RX I f) (hW : RXw I sw w) (hO : ROw w) (hA : RXa I f w) (hm : RXm I (fs_tone f tn)) (hc : ar I 32 16 0 9 cn) {b t : Int} (hb : 0 ≤ b ∧ b < 6) (ht : 0 ≤ t ∧ t < 8) (hK : ∀ J, fr fxh I J → RXa J f w → K (some (.int (zI (g_lp (fs_tone f tn) w cn t b)))) (J, L, ts_P0 sw, ts_S0)) : ts_Cal X (d + 5) 80 [.ref 31, .int (zI (b)), .int (zI (t))] (I, L, ts_P0 sw, ts_S0) K := by
  have bm := hX.men.2
  have m1 := hm.1 t ht.1 ht.2
  have m2 := hm.2 b hb.1 hb.2
  by_cases h0 : 0 < f_men f
  · have e2 : rd (I 35 b.toNat) (-2147483648) 2147483647 (zbits (f_can f (b % f_men f)) 16) := by
      have q : (if 0 < f_men (fs_tone f tn) then zbits (f_can (fs_tone f tn) (b % f_men (fs_tone f tn))) 16 else 0) = zbits (f_can f (b % f_men f)) 16 := if_pos h0
      rw [← q]; exact m2
    have za : zand (zbits (fun p => tn p = t) 16) (zbits (f_can f (b % f_men f)) 16) = zbits (fun p => tn p = t ∧ f_can f (b % f_men f) p) 16 := zbits_and _ _ (Nat.le_refl _)
    have loop : ∀ p : Int, 0 ≤ p → p ≤ 16 → ∀ J, fr fxh I J → RXa J f w → zfd 16 (fun p => g_lpP (fs_tone f tn) w cn t b p) (-2) p = g_lp (fs_tone f tn) w cn t b → ts_Ev X (ts_Cal X (d + 4)) 80 ts_S0 K 17 [.ref 31, .int (zI (b)), .int (zI (t)), .int (zI (zbits (fun p => tn p = t ∧ f_can f (b % f_men f) p) 16)), .int (zI (p))] [] (J, L, ts_P0 sw, ts_S0) := by
      refine ts_ind 16 (fun p ih p0 pn J hJ hAJ hz => ?_)
      have zr := zshr_r (zbits (fun p => tn p = t ∧ f_can f (b % f_men f) p) 16) p
      by_cases cp : p < 16
      · have hz0 := hz
        rw [zfd_1 cp] at hz
        have bt := zbits_bt (fun p => tn p = t ∧ f_can f (b % f_men f) p) (n := 16) (Nat.le_refl _) (p := p) ⟨p0, cp⟩
        have hcJ := ar_co hc (fr_row hJ (fun k => by omega)) p p0 cp
        have nf : ∀ N, fr fxh I N → RXa N f w → ¬ g_lpP (fs_tone f tn) w cn t b p → ts_Ev X (ts_Cal X (d + 4)) 80 ts_S0 K 60 [.ref 31, .int (zI (b)), .int (zI (t)), .int (zI (zbits (fun p => tn p = t ∧ f_can f (b % f_men f) p) 16)), .int (zI (p))] [] (N, L, ts_P0 sw, ts_S0) := by
          intro N hN hAN hn
          rw [if_neg hn] at hz
          refine ew_iinc_4 i80_60 rfl ?_
          refine ev_goto i80_63 ?_
          exact ih cp (by omega) (by omega) N hN hAN hz
        refine ev_iload_4 i80_17 ?_
        refine ew_bipush i80_19 (by decide) ?_
        refine ew_icmpge i80_21 (by omega) (fun c21 => ?_) (fun c21 => ?_)
        · first
          | (exfalso; omega)
          | (have z0 := zbits_z0 (fun p => tn p = t ∧ f_can f (b % f_men f) p) (n := 16) (Nat.le_refl _) ⟨p0, cp⟩ (by omega)
             have zn : zfd 16 (fun p => g_lpP (fs_tone f tn) w cn t b p) (-2) p = -2 := zfd_no p (fun q q0 q1 r => z0 q q0 q1 ⟨r.2.1, r.2.2.1⟩)
             rw [hz0] at zn
             refine ew_bipush i80_66 (by decide) ?_
             refine ev_ireturn i80_68 r80 ?_
             exact zK (hK J hJ hAJ) (by omega)
            )
        · refine ev_iloadn_3 i80_24 ?_
          refine ev_iload_4 i80_25 ?_
          refine ew_ishr i80_27 ?_
          first
          | refine ew_ifeqB i80_28 (fun c28 => ?_) (fun c28 => ?_)
          | refine ew_ifeq i80_28 (by omega) (fun c28 => ?_) (fun c28 => ?_)
          · first
            | (exfalso; omega)
            | (have z0 := zbits_z0 (fun p => tn p = t ∧ f_can f (b % f_men f) p) (n := 16) (Nat.le_refl _) ⟨p0, cp⟩ (by omega)
               have zn : zfd 16 (fun p => g_lpP (fs_tone f tn) w cn t b p) (-2) p = -2 := zfd_no p (fun q q0 q1 r => z0 q q0 q1 ⟨r.2.1, r.2.2.1⟩)
               rw [hz0] at zn
               refine ew_bipush i80_66 (by decide) ?_
               refine ev_ireturn i80_68 r80 ?_
               exact zK (hK J hJ hAJ) (by omega)
              )
          · refine ev_iloadn_3 i80_31 ?_
            refine ev_iload_4 i80_32 ?_
            refine ew_ishr i80_34 ?_
            refine ew_iconst i80_35 ?_
            refine ew_iand i80_36 ?_
            rw [bt]
            refine ew_iconst i80_37 ?_
            refine ew_icmpne i80_38 (by omega) (fun c38 => ?_) (fun c38 => ?_)
            · first
              | exact nf N (fr_tr hJ h1) h2 (fun r => absurd (show g_hrd f w b t (cn p) from r.2.2.2) c54)
              | exact nf J hJ hAJ (fun r => by rw [if_pos ⟨r.2.1, r.2.2.1⟩] at c38; omega)
            · refine ev_aloadn_0 i80_41 ?_
              refine ev_iloadn_1 i80_42 ?_
              refine ev_iloadn_2 i80_43 ?_
              refine ev_aloadn_0 i80_44 ?_
              refine ev_getA i80_45 g80_45 rfl rfl (by decide) ?_
              refine ev_iload_4 i80_48 ?_
              refine ew_iaload i80_50 rfl (by omega) (by omega) (by omega) (hcJ) (fun b50 => ?_)
              refine ev_virt3 i80_51 g80_51 rfl (by decide +kernel) (Nat.le_of_ble_eq_true rfl) (x_isHeard (hX.fxq (fr_mo hJ (fun a k q => by omega))) (hW.fxq (fr_mo hJ (fun a k q => by omega))) hO hAJ h0 hb ht (by omega) (fun N h1 h2 => ?_))
              first
              | refine ew_ifeqB i80_54 (fun c54 => ?_) (fun c54 => ?_)
              | refine ew_ifeq i80_54 (by omega) (fun c54 => ?_) (fun c54 => ?_)
              · first
                | exact nf N (fr_tr hJ h1) h2 (fun r => absurd (show g_hrd f w b t (cn p) from r.2.2.2) c54)
                | exact nf J hJ hAJ (fun r => by rw [if_pos ⟨r.2.1, r.2.2.1⟩] at c38; omega)
              · refine ev_iload_4 i80_57 ?_
                refine ev_ireturn i80_59 r80 ?_
                have hg : tn p = t ∧ f_can f (b % f_men f) p := Decidable.byContradiction (fun q => by rw [if_neg q] at c38; omega)
                rw [if_pos (show g_lpP (fs_tone f tn) w cn t b p from ⟨h0, hg.1, hg.2, c54⟩)] at hz
                exact zK (hK N (fr_tr hJ h1) h2) hz.symm
      · obtain rfl : p = 16 := by omega
        rw [zfd_0 (by omega)] at hz
        refine ev_iload_4 i80_17 ?_
        refine ew_bipush i80_19 (by decide) ?_
        refine ew_icmpge i80_21 (by omega) (fun c21 => ?_) (fun c21 => ?_)
        · refine ew_bipush i80_66 (by decide) ?_
          refine ev_ireturn i80_68 r80 ?_
          exact zK (hK J hJ hAJ) (by omega)
        · exfalso; omega
    refine ev_enter (lv := [.ref 31, .int (zI (b)), .int (zI (t)), .null, .null]) l80 rfl (Nat.le_of_ble_eq_true rfl) ?_
    refine ev_aloadn_0 i80_0 ?_
    refine ev_getA i80_1 g80_1 rfl rfl (by decide) ?_
    refine ev_iloadn_2 i80_4 ?_
    refine ew_iaload i80_5 rfl (by omega) (by omega) (by omega) (m1) (fun b5 => ?_)
    refine ev_aloadn_0 i80_6 ?_
    refine ev_getA i80_7 g80_7 rfl rfl (by decide) ?_
    refine ev_iloadn_1 i80_10 ?_
    refine ew_iaload i80_11 rfl (by omega) (by omega) (by omega) (e2) (fun b11 => ?_)
    refine ew_iand i80_12 ?_
    refine ev_istoren_3 i80_13 rfl ?_
    refine ew_iconst i80_14 ?_
    refine ev_istore_4 i80_15 rfl ?_
    have e := loop 0 (by decide) (by decide) I (fr_rfl _ _) hA rfl
    rw [← za] at e
    exact e
  · have e2 : rd (I 35 b.toNat) (-2147483648) 2147483647 0 := by
      have q : (if 0 < f_men (fs_tone f tn) then zbits (f_can (fs_tone f tn) (b % f_men (fs_tone f tn))) 16 else 0) = 0 := if_neg h0
      rw [← q]; exact m2
    have zn : g_lp (fs_tone f tn) w cn t b = -2 := zfd_no 0 (fun q q0 q1 r => h0 r.1)
    refine ev_enter (lv := [.ref 31, .int (zI (b)), .int (zI (t)), .null, .null]) l80 rfl (Nat.le_of_ble_eq_true rfl) ?_
    refine ev_aloadn_0 i80_0 ?_
    refine ev_getA i80_1 g80_1 rfl rfl (by decide) ?_
    refine ev_iloadn_2 i80_4 ?_
    refine ew_iaload i80_5 rfl (by omega) (by omega) (by omega) (m1) (fun b5 => ?_)
    refine ev_aloadn_0 i80_6 ?_
    refine ev_getA i80_7 g80_7 rfl rfl (by decide) ?_
    refine ev_iloadn_1 i80_10 ?_
    refine ew_iaload i80_11 rfl (by omega) (by omega) (by omega) (e2) (fun b11 => ?_)
    refine ew_iand i80_12 ?_
    rw [zand_00]
    refine ev_istoren_3 i80_13 rfl ?_
    refine ew_iconst i80_14 ?_
    refine ev_istore_4 i80_15 rfl ?_
    refine ev_iload_4 i80_17 ?_
    refine ew_bipush i80_19 (by decide) ?_
    refine ew_icmpge i80_21 (by omega) (fun c21 => ?_) (fun c21 => ?_)
    · refine ew_bipush i80_66 (by decide) ?_
      refine ev_ireturn i80_68 r80 ?_
      exact zK (hK I (fr_rfl _ _) hA) zn
    · refine ev_iloadn_3 i80_24 ?_
      refine ev_iload_4 i80_25 ?_
      refine ew_ishr i80_27 ?_
      rw [zshr_00]
      first
      | refine ew_ifeqB i80_28 (fun c28 => ?_) (fun c28 => ?_)
      | refine ew_ifeq i80_28 (by omega) (fun c28 => ?_) (fun c28 => ?_)
      · refine ew_bipush i80_66 (by decide) ?_
        refine ev_ireturn i80_68 r80 ?_
        exact zK (hK I (fr_rfl _ _) hA) zn
      · exfalso; omega
end SX2
