theorem i79_0 : ts_ins 79 0 = some (.aload_n 0, 1, 0) := by decide +kernel
theorem i79_1 : ts_ins 79 1 = some (.getfield 27, 4, 0) := by decide +kernel
theorem g79_1 : ts_fm 79 27 = some (9, 0, 2) := by decide +kernel
theorem i79_4 : ts_ins 79 4 = some (.getfield 49, 7, 0) := by decide +kernel
theorem g79_4 : ts_fm 79 49 = some (3, 1, 2) := by decide +kernel
theorem i79_7 : ts_ins 79 7 = some (.iconst 0, 8, 0) := by decide +kernel
theorem i79_8 : ts_ins 79 8 = some (.aload_n 0, 9, 0) := by decide +kernel
theorem i79_9 : ts_ins 79 9 = some (.getfield 9, 12, 0) := by decide +kernel
theorem g79_9 : ts_fm 79 9 = some (9, 1, 2) := by decide +kernel
theorem i79_12 : ts_ins 79 12 = some (.iconst 0, 13, 0) := by decide +kernel
theorem i79_13 : ts_ins 79 13 = some (.bipush 16, 15, 0) := by decide +kernel
theorem i79_15 : ts_ins 79 15 = some (.invokestatic 50, 18, 0) := by decide +kernel
theorem g79_15 : ts_cal (ts_mc 79) 50 = some (9, 0, 5) := by decide +kernel
theorem i79_18 : ts_ins 79 18 = some (.iconst 0, 19, 0) := by decide +kernel
theorem i79_19 : ts_ins 79 19 = some (.istore_n 2, 20, 0) := by decide +kernel
theorem i79_20 : ts_ins 79 20 = some (.iload_n 2, 21, 0) := by decide +kernel
theorem i79_21 : ts_ins 79 21 = some (.aload_n 0, 22, 0) := by decide +kernel
theorem i79_22 : ts_ins 79 22 = some (.getfield 27, 25, 0) := by decide +kernel
theorem g79_22 : ts_fm 79 27 = some (9, 0, 2) := by decide +kernel
theorem i79_25 : ts_ins 79 25 = some (.getfield 56, 28, 0) := by decide +kernel
theorem g79_25 : ts_fm 79 56 = some (3, 7, 2) := by decide +kernel
theorem i79_28 : ts_ins 79 28 = some (.iload_n 1, 29, 0) := by decide +kernel
theorem i79_29 : ts_ins 79 29 = some (.iaload, 30, 0) := by decide +kernel
theorem i79_30 : ts_ins 79 30 = some (.if_icmp .ge 59, 33, 89) := by decide +kernel
theorem i79_33 : ts_ins 79 33 = some (.aload_n 0, 34, 0) := by decide +kernel
theorem i79_34 : ts_ins 79 34 = some (.iload_n 2, 35, 0) := by decide +kernel
theorem i79_35 : ts_ins 79 35 = some (.aload_n 0, 36, 0) := by decide +kernel
theorem i79_36 : ts_ins 79 36 = some (.getfield 27, 39, 0) := by decide +kernel
theorem g79_36 : ts_fm 79 27 = some (9, 0, 2) := by decide +kernel
theorem i79_39 : ts_ins 79 39 = some (.getfield 59, 42, 0) := by decide +kernel
theorem g79_39 : ts_fm 79 59 = some (3, 6, 2) := by decide +kernel
theorem i79_42 : ts_ins 79 42 = some (.iload_n 1, 43, 0) := by decide +kernel
theorem i79_43 : ts_ins 79 43 = some (.aaload, 44, 0) := by decide +kernel
theorem i79_44 : ts_ins 79 44 = some (.iload_n 2, 45, 0) := by decide +kernel
theorem i79_45 : ts_ins 79 45 = some (.iaload, 46, 0) := by decide +kernel
theorem i79_46 : ts_ins 79 46 = some (.invokevirtual 63, 49, 0) := by decide +kernel
theorem g79_46 : ts_cal (ts_mc 79) 63 = some (0, 80, 2) := by decide +kernel
theorem i79_49 : ts_ins 79 49 = some (.istore_n 3, 50, 0) := by decide +kernel
theorem i79_50 : ts_ins 79 50 = some (.iload_n 3, 51, 0) := by decide +kernel
theorem i79_51 : ts_ins 79 51 = some (.bipush (-2), 53, 0) := by decide +kernel
theorem i79_53 : ts_ins 79 53 = some (.if_icmp .ne 5, 56, 58) := by decide +kernel
theorem i79_56 : ts_ins 79 56 = some (.iconst 0, 57, 0) := by decide +kernel
theorem i79_57 : ts_ins 79 57 = some (.ireturn, 58, 0) := by decide +kernel
theorem i79_58 : ts_ins 79 58 = some (.aload_n 0, 59, 0) := by decide +kernel
theorem i79_59 : ts_ins 79 59 = some (.getfield 15, 62, 0) := by decide +kernel
theorem g79_59 : ts_fm 79 15 = some (9, 2, 2) := by decide +kernel
theorem i79_62 : ts_ins 79 62 = some (.iload_n 2, 63, 0) := by decide +kernel
theorem i79_63 : ts_ins 79 63 = some (.iload_n 3, 64, 0) := by decide +kernel
theorem i79_64 : ts_ins 79 64 = some (.iastore, 65, 0) := by decide +kernel
theorem i79_65 : ts_ins 79 65 = some (.aload_n 0, 66, 0) := by decide +kernel
theorem i79_66 : ts_ins 79 66 = some (.getfield 9, 69, 0) := by decide +kernel
theorem g79_66 : ts_fm 79 9 = some (9, 1, 2) := by decide +kernel
theorem i79_69 : ts_ins 79 69 = some (.iload_n 3, 70, 0) := by decide +kernel
theorem i79_70 : ts_ins 79 70 = some (.iconst 0, 71, 0) := by decide +kernel
theorem i79_71 : ts_ins 79 71 = some (.aload_n 0, 72, 0) := by decide +kernel
theorem i79_72 : ts_ins 79 72 = some (.getfield 9, 75, 0) := by decide +kernel
theorem g79_72 : ts_fm 79 9 = some (9, 1, 2) := by decide +kernel
theorem i79_75 : ts_ins 79 75 = some (.iload_n 3, 76, 0) := by decide +kernel
theorem i79_76 : ts_ins 79 76 = some (.iaload, 77, 0) := by decide +kernel
theorem i79_77 : ts_ins 79 77 = some (.iconst 1, 78, 0) := by decide +kernel
theorem i79_78 : ts_ins 79 78 = some (.isub, 79, 0) := by decide +kernel
theorem i79_79 : ts_ins 79 79 = some (.invokestatic 67, 82, 0) := by decide +kernel
theorem g79_79 : ts_cal (ts_mc 79) 67 = some (5, 0, 2) := by decide +kernel
theorem i79_82 : ts_ins 79 82 = some (.iastore, 83, 0) := by decide +kernel
theorem i79_83 : ts_ins 79 83 = some (.iinc 2 1, 86, 0) := by decide +kernel
theorem i79_86 : ts_ins 79 86 = some (.goto (-66), 89, 20) := by decide +kernel
theorem i79_89 : ts_ins 79 89 = some (.iconst 1, 90, 0) := by decide +kernel
theorem i79_90 : ts_ins 79 90 = some (.ireturn, 91, 0) := by decide +kernel
theorem r79 : ts_rt 79 = ((some .boolean), 0, 0) := by decide +kernel
theorem l79 : ts_ml 79 = 4 := by decide +kernel
/-! SPEECH in the class: a saying, all of them -/
abbrev fxq2 : Nat → Nat → Prop := fun a _ => a = 22 ∨ a = 23 ∨ a = 29 ∨ a = 30 ∨ a = 32 ∨ a = 33 ∨ a = 36
section SX3
variable {X : ts_X} {I J : Nat → Nat → Int32} {L : Nat → Nat → Int64} {sw : Bool} {K : Option Value → ts_H → Prop} {d : Nat} {f : ts_Fl} {w : ts_Lw} {tn : Int → Int}
theorem RXm.fxq (h : RXm I f) (e : fr fxq I J) : RXm J f := ⟨ar_co h.1 (fr_row e (fun k => by omega)), ar_co h.2 (fr_row e (fun k => by omega))⟩
theorem x_speak (hX : RX I f) (hW : RXw I sw w) (hO : ROw w) (hA : RXa I f w) (hm : RXm I (fs_tone f tn)) {x : Int} (hx : 0 ≤ x ∧ x < f_told f) (hK : ∀ J, fr fxq I J → RXa J f w → (g_sp (fs_tone f tn) w x = f_len f x → ar J 33 (f_len f x) 0 15 (g_pk (fs_tone f tn) w x)) → K (some (.int (zI (if g_sp (fs_tone f tn) w x = f_len f x then 1 else 0)))) (J, L, ts_P0 sw, ts_S0)) : ts_Cal X (d + 6) 79 [.ref 31, .int (zI (x))] (I, L, ts_P0 sw, ts_S0) K := by
  have b1 := hX.told.2
  have b2 := (hX.len x (by omega) (by omega)).2
  have loop : ∀ b : Int, 0 ≤ b → b ≤ f_len f x → ∀ J, fr fxq I J → RXa J f w → ar J 32 16 0 9 (g_cn (fs_tone f tn) w x b.toNat) → ar J 33 b 0 15 (g_pk (fs_tone f tn) w x) → zfd (f_len f x) (fun k => g_pk (fs_tone f tn) w x k = -2) (f_len f x) b = g_sp (fs_tone f tn) w x → ∀ o3, ts_Ev X (ts_Cal X (d + 5)) 79 ts_S0 K 20 [.ref 31, .int (zI (x)), .int (zI (b)), o3] [] (J, L, ts_P0 sw, ts_S0) := by
    refine ts_ind (f_len f x) (fun b ih b0 bn J hJ hAJ hc hs hz o3 => ?_)
    have hXJ := hX.fxq hJ
    by_cases cb : b < f_len f x
    · rw [zfd_1 cb] at hz
      have bs := (hXJ.say hx.1 (by omega) b b0 (by omega)).2
      have pr : -2 ≤ g_pk (fs_tone f tn) w x b ∧ g_pk (fs_tone f tn) w x b ≤ 15 ∧ ¬ g_pk (fs_tone f tn) w x b = -1 := by
        have q := zfd_is (n := 16) (e := -2) (g := fun p => g_lpP (fs_tone f tn) w (g_cn (fs_tone f tn) w x b.toNat) (f_say f x b) b p) 0
        have e : zfd 16 (fun p => g_lpP (fs_tone f tn) w (g_cn (fs_tone f tn) w x b.toNat) (f_say f x b) b p) (-2) 0 = g_pk (fs_tone f tn) w x b := rfl
        rw [e] at q
        rcases q with q | q
        · omega
        · have q1 := q.1
          have q2 := q.2.1
          omega
      refine ev_iloadn_2 i79_20 ?_
      refine ev_aloadn_0 i79_21 ?_
      refine ev_getA i79_22 g79_22 rfl rfl (by decide) ?_
      refine ev_getA i79_25 g79_25 rfl rfl (by decide) ?_
      refine ev_iloadn_1 i79_28 ?_
      refine ew_iaload i79_29 rfl (by omega) (by omega) (by omega) ((hXJ.len x (by omega) (by omega))) (fun b29 => ?_)
      refine ew_icmpge i79_30 (by omega) (fun c30 => ?_) (fun c30 => ?_)
      · exfalso; omega
      · refine ev_aloadn_0 i79_33 ?_
        refine ev_iloadn_2 i79_34 ?_
        refine ev_aloadn_0 i79_35 ?_
        refine ev_getA i79_36 g79_36 rfl rfl (by decide) ?_
        refine ev_getA i79_39 g79_39 rfl rfl (by decide) ?_
        refine ev_iloadn_1 i79_42 ?_
        refine ew_aaloadG i79_43 rfl (by omega) (by omega) (by omega) (floor_P (by omega) (by omega)) (by omega) ?_
        refine ev_iloadn_2 i79_44 ?_
        refine ew_iaload i79_45 (floor_A (by omega) (by omega)) (by omega) (by omega) (by omega) ((hXJ.say hx.1 (by omega) b b0 (by omega))) (fun b45 => ?_)
        refine ev_virt2 i79_46 g79_46 rfl (by decide +kernel) (Nat.le_of_ble_eq_true rfl) (x_leastPlank (tn := tn) hXJ (hW.fxq hJ) hO hAJ (hm.fxq hJ) hc ⟨b0, by omega⟩ (by omega) (fun N h1 h2 => ?_))
        have e : g_lp (fs_tone f tn) w (g_cn (fs_tone f tn) w x b.toNat) (f_say f x b) b = g_pk (fs_tone f tn) w x b := rfl
        rw [e]
        have hJN : fr fxq I N := fr_tr hJ (fr_mo h1 (fun a k q => by omega))
        have hcN := ar_co hc (fr_row h1 (fun k => by omega))
        have hsN := ar_co hs (fr_row h1 (fun k => by omega))
        refine ev_istoren_3 i79_49 rfl ?_
        refine ev_iloadn_3 i79_50 ?_
        refine ew_bipush i79_51 (by decide) ?_
        refine ew_icmpne i79_53 (by omega) (fun c53 => ?_) (fun c53 => ?_)
        · refine ev_aloadn_0 i79_58 ?_
          refine ev_getA i79_59 g79_59 rfl rfl (by decide) ?_
          refine ev_iloadn_2 i79_62 ?_
          refine ev_iloadn_3 i79_63 ?_
          refine ew_iastore i79_64 rfl (by omega) (by omega) (by omega) ?_
          refine ev_aloadn_0 i79_65 ?_
          refine ev_getA i79_66 g79_66 rfl rfl (by decide) ?_
          refine ev_iloadn_3 i79_69 ?_
          refine ew_iconst i79_70 ?_
          refine ev_aloadn_0 i79_71 ?_
          refine ev_getA i79_72 g79_72 rfl rfl (by decide) ?_
          refine ev_iloadn_3 i79_75 ?_
          refine ew_iaload i79_76 rfl (by omega) (by omega) (by omega) ((hcN _ (by omega) (by omega))) (fun b76 => ?_)
          refine ew_iconst i79_77 ?_
          refine ew_isub i79_78 ?_
          refine ew_mmax i79_79 g79_79 (Nat.le_of_ble_eq_true rfl) (by omega) ?_
          refine ew_iastore i79_82 rfl (by omega) (by omega) (by omega) ?_
          refine ew_iinc_2 i79_83 rfl ?_
          refine ev_goto i79_86 ?_
          rw [if_neg (by omega)] at hz
          have bc := (hcN (g_pk (fs_tone f tn) w x b) (by omega) (by omega)).2
          refine ih cb (by omega) (by omega) _ (fr_up (fr_up hJN (by omega)) (by omega)) ?_ ?_ ?_ hz _
          · obtain ⟨g, hg, ho⟩ := h2
            exact ⟨g, ar_co hg rfl, ho⟩
          · rw [g_cn_s b0]
            refine ar_cg (ar_up (ar_co hcN (ts_up_na (by decide))) (by omega) (by omega)) (fun i i0 i1 => ?_)
            unfold g_eat
            congr 1
            omega
          · exact ar_co (ar_ext2 hsN b0 (by omega)) (ts_up_na (by decide))
        · refine ew_iconst i79_56 ?_
          rw [if_pos (by omega)] at hz
          refine ew_zreturn i79_57 r79 ?_ (hK N hJN h2 (fun r => absurd r (by omega)))
          omega
    · obtain rfl : b = f_len f x := by omega
      rw [zfd_0 (by omega)] at hz
      refine ev_iloadn_2 i79_20 ?_
      refine ev_aloadn_0 i79_21 ?_
      refine ev_getA i79_22 g79_22 rfl rfl (by decide) ?_
      refine ev_getA i79_25 g79_25 rfl rfl (by decide) ?_
      refine ev_iloadn_1 i79_28 ?_
      refine ew_iaload i79_29 rfl (by omega) (by omega) (by omega) ((hXJ.len x (by omega) (by omega))) (fun b29 => ?_)
      refine ew_icmpge i79_30 (by omega) (fun c30 => ?_) (fun c30 => ?_)
      · refine ew_iconst i79_89 ?_
        refine ew_zreturn i79_90 r79 ?_ (hK J hJ hAJ (fun _ => hs))
        omega
      · exfalso; omega
  have c1 : ar (ts_cp I 4 0 32 0 16) 32 16 0 9 (f_corn f) := ar_cp (N := 16) hX.corn rfl
  have c3 : fr fxq I (ts_cp I 4 0 32 0 16) := fr_cp (fr_rfl _ _) (fun k => by omega)
  obtain ⟨g, hg, ho⟩ := hA
  refine ev_enter (lv := [.ref 31, .int (zI (x)), .null, .null]) l79 rfl (Nat.le_of_ble_eq_true rfl) ?_
  refine ev_aloadn_0 i79_0 ?_
  refine ev_getA i79_1 g79_1 rfl rfl (by decide) ?_
  refine ev_getA i79_4 g79_4 rfl rfl (by decide) ?_
  refine ew_iconst i79_7 ?_
  refine ev_aloadn_0 i79_8 ?_
  refine ev_getA i79_9 g79_9 rfl rfl (by decide) ?_
  refine ew_iconst i79_12 ?_
  refine ew_bipush i79_13 (by decide) ?_
  refine ew_copyI i79_15 g79_15 rfl rfl (by omega) (by omega) (by omega) (by omega) (by omega) (Nat.le_of_ble_eq_true rfl) ?_
  refine ew_iconst i79_18 ?_
  refine ev_istoren_2 i79_19 rfl ?_
  exact loop 0 (by decide) (by omega) _ c3 ⟨g, ar_co hg rfl, ho⟩ c1 (fun i i0 i1 => by omega) rfl _
end SX3
