theorem i149_0 : ts_ins 149 0 = some (.lload_n 1, 1, 0) := by decide +kernel
theorem i149_1 : ts_ins 149 1 = some (.lconst 0, 2, 0) := by decide +kernel
theorem i149_2 : ts_ins 149 2 = some (.aload_n 0, 3, 0) := by decide +kernel
theorem i149_3 : ts_ins 149 3 = some (.getfield 99, 6, 0) := by decide +kernel
theorem g149_3 : ts_fm 149 99 = some (12, 6, 0) := by decide +kernel
theorem i149_6 : ts_ins 149 6 = some (.iconst 1, 7, 0) := by decide +kernel
theorem i149_7 : ts_ins 149 7 = some (.isub, 8, 0) := by decide +kernel
theorem i149_8 : ts_ins 149 8 = some (.i2l, 9, 0) := by decide +kernel
theorem i149_9 : ts_ins 149 9 = some (.invokestatic 95, 12, 0) := by decide +kernel
theorem g149_9 : ts_cal (ts_mc 149) 95 = some (1, 143, 3) := by decide +kernel
theorem i149_12 : ts_ins 149 12 = some (.ireturn, 13, 0) := by decide +kernel
theorem r149 : ts_rt 149 = ((some .boolean), 0, 0) := by decide +kernel
theorem l149 : ts_ml 149 = 3 := by decide +kernel
theorem i150_0 : ts_ins 150 0 = some (.lload_n 1, 1, 0) := by decide +kernel
theorem i150_1 : ts_ins 150 1 = some (.lconst 0, 2, 0) := by decide +kernel
theorem i150_2 : ts_ins 150 2 = some (.aload_n 0, 3, 0) := by decide +kernel
theorem i150_3 : ts_ins 150 3 = some (.getfield 102, 6, 0) := by decide +kernel
theorem g150_3 : ts_fm 150 102 = some (12, 7, 0) := by decide +kernel
theorem i150_6 : ts_ins 150 6 = some (.iconst 1, 7, 0) := by decide +kernel
theorem i150_7 : ts_ins 150 7 = some (.isub, 8, 0) := by decide +kernel
theorem i150_8 : ts_ins 150 8 = some (.i2l, 9, 0) := by decide +kernel
theorem i150_9 : ts_ins 150 9 = some (.invokestatic 95, 12, 0) := by decide +kernel
theorem g150_9 : ts_cal (ts_mc 150) 95 = some (1, 143, 3) := by decide +kernel
theorem i150_12 : ts_ins 150 12 = some (.ireturn, 13, 0) := by decide +kernel
theorem r150 : ts_rt 150 = ((some .boolean), 0, 0) := by decide +kernel
theorem l150 : ts_ml 150 = 3 := by decide +kernel
theorem i148_0 : ts_ins 148 0 = some (.lload_n 0, 1, 0) := by decide +kernel
theorem i148_1 : ts_ins 148 1 = some (.lconst 0, 2, 0) := by decide +kernel
theorem i148_2 : ts_ins 148 2 = some (.ldc2_w 93, 5, 0) := by decide +kernel
theorem g148_2 : ts_lc (ts_mc 148) 93 = some (.long (15)) := by decide +kernel
theorem i148_5 : ts_ins 148 5 = some (.invokestatic 95, 8, 0) := by decide +kernel
theorem g148_5 : ts_cal (ts_mc 148) 95 = some (1, 143, 3) := by decide +kernel
theorem i148_8 : ts_ins 148 8 = some (.ireturn, 9, 0) := by decide +kernel
theorem r148 : ts_rt 148 = ((some .boolean), 0, 0) := by decide +kernel
theorem l148 : ts_ml 148 = 2 := by decide +kernel
theorem i151_0 : ts_ins 151 0 = some (.lload_n 0, 1, 0) := by decide +kernel
theorem i151_1 : ts_ins 151 1 = some (.lconst 0, 2, 0) := by decide +kernel
theorem i151_2 : ts_ins 151 2 = some (.ldc2_w 105, 5, 0) := by decide +kernel
theorem g151_2 : ts_lc (ts_mc 151) 105 = some (.long (7)) := by decide +kernel
theorem i151_5 : ts_ins 151 5 = some (.invokestatic 95, 8, 0) := by decide +kernel
theorem g151_5 : ts_cal (ts_mc 151) 95 = some (1, 143, 3) := by decide +kernel
theorem i151_8 : ts_ins 151 8 = some (.ireturn, 9, 0) := by decide +kernel
theorem r151 : ts_rt 151 = ((some .boolean), 0, 0) := by decide +kernel
theorem l151 : ts_ml 151 = 2 := by decide +kernel
theorem i26_0 : ts_ins 26 0 = some (.aload_n 0, 1, 0) := by decide +kernel
theorem i26_1 : ts_ins 26 1 = some (.iload_n 1, 2, 0) := by decide +kernel
theorem i26_2 : ts_ins 26 2 = some (.invokevirtual 69, 5, 0) := by decide +kernel
theorem g26_2 : ts_cal (ts_mc 26) 69 = some (0, 19, 1) := by decide +kernel
theorem i26_5 : ts_ins 26 5 = some (.ifCond .eq 10, 8, 15) := by decide +kernel
theorem i26_8 : ts_ins 26 8 = some (.iload_n 2, 9, 0) := by decide +kernel
theorem i26_9 : ts_ins 26 9 = some (.invokestatic 65, 12, 0) := by decide +kernel
theorem g26_9 : ts_cal (ts_mc 26) 65 = some (3, 137, 1) := by decide +kernel
theorem i26_12 : ts_ins 26 12 = some (.ifCond .ne 5, 15, 17) := by decide +kernel
theorem i26_15 : ts_ins 26 15 = some (.iconst 0, 16, 0) := by decide +kernel
theorem i26_16 : ts_ins 26 16 = some (.ireturn, 17, 0) := by decide +kernel
theorem i26_17 : ts_ins 26 17 = some (.iload_n 2, 18, 0) := by decide +kernel
theorem i26_18 : ts_ins 26 18 = some (.iconst 4, 19, 0) := by decide +kernel
theorem i26_19 : ts_ins 26 19 = some (.irem, 20, 0) := by decide +kernel
theorem i26_20 : ts_ins 26 20 = some (.aload_n 0, 21, 0) := by decide +kernel
theorem i26_21 : ts_ins 26 21 = some (.getfield 18, 24, 0) := by decide +kernel
theorem g26_21 : ts_fm 26 18 = some (3, 2, 2) := by decide +kernel
theorem i26_24 : ts_ins 26 24 = some (.iload_n 1, 25, 0) := by decide +kernel
theorem i26_25 : ts_ins 26 25 = some (.iaload, 26, 0) := by decide +kernel
theorem i26_26 : ts_ins 26 26 = some (.iconst 4, 27, 0) := by decide +kernel
theorem i26_27 : ts_ins 26 27 = some (.irem, 28, 0) := by decide +kernel
theorem i26_28 : ts_ins 26 28 = some (.isub, 29, 0) := by decide +kernel
theorem i26_29 : ts_ins 26 29 = some (.invokestatic 83, 32, 0) := by decide +kernel
theorem g26_29 : ts_cal (ts_mc 26) 83 = some (7, 0, 1) := by decide +kernel
theorem i26_32 : ts_ins 26 32 = some (.istore_n 3, 33, 0) := by decide +kernel
theorem i26_33 : ts_ins 26 33 = some (.iload_n 2, 34, 0) := by decide +kernel
theorem i26_34 : ts_ins 26 34 = some (.iconst 4, 35, 0) := by decide +kernel
theorem i26_35 : ts_ins 26 35 = some (.idiv, 36, 0) := by decide +kernel
theorem i26_36 : ts_ins 26 36 = some (.aload_n 0, 37, 0) := by decide +kernel
theorem i26_37 : ts_ins 26 37 = some (.getfield 18, 40, 0) := by decide +kernel
theorem g26_37 : ts_fm 26 18 = some (3, 2, 2) := by decide +kernel
theorem i26_40 : ts_ins 26 40 = some (.iload_n 1, 41, 0) := by decide +kernel
theorem i26_41 : ts_ins 26 41 = some (.iaload, 42, 0) := by decide +kernel
theorem i26_42 : ts_ins 26 42 = some (.iconst 4, 43, 0) := by decide +kernel
theorem i26_43 : ts_ins 26 43 = some (.idiv, 44, 0) := by decide +kernel
theorem i26_44 : ts_ins 26 44 = some (.isub, 45, 0) := by decide +kernel
theorem i26_45 : ts_ins 26 45 = some (.invokestatic 83, 48, 0) := by decide +kernel
theorem g26_45 : ts_cal (ts_mc 26) 83 = some (7, 0, 1) := by decide +kernel
theorem i26_48 : ts_ins 26 48 = some (.istore 4, 50, 0) := by decide +kernel
theorem i26_50 : ts_ins 26 50 = some (.iload_n 3, 51, 0) := by decide +kernel
theorem i26_51 : ts_ins 26 51 = some (.iload 4, 53, 0) := by decide +kernel
theorem i26_53 : ts_ins 26 53 = some (.iadd, 54, 0) := by decide +kernel
theorem i26_54 : ts_ins 26 54 = some (.aload_n 0, 55, 0) := by decide +kernel
theorem i26_55 : ts_ins 26 55 = some (.getfield 21, 58, 0) := by decide +kernel
theorem g26_55 : ts_fm 26 21 = some (3, 3, 2) := by decide +kernel
theorem i26_58 : ts_ins 26 58 = some (.iload_n 1, 59, 0) := by decide +kernel
theorem i26_59 : ts_ins 26 59 = some (.iaload, 60, 0) := by decide +kernel
theorem i26_60 : ts_ins 26 60 = some (.if_icmp .gt 7, 63, 67) := by decide +kernel
theorem i26_63 : ts_ins 26 63 = some (.iconst 1, 64, 0) := by decide +kernel
theorem i26_64 : ts_ins 26 64 = some (.goto 4, 67, 68) := by decide +kernel
theorem i26_67 : ts_ins 26 67 = some (.iconst 0, 68, 0) := by decide +kernel
theorem i26_68 : ts_ins 26 68 = some (.ireturn, 69, 0) := by decide +kernel
theorem r26 : ts_rt 26 = ((some .boolean), 0, 0) := by decide +kernel
theorem l26 : ts_ml 26 = 5 := by decide +kernel
/-! who is there, who reaches what -/
theorem ts_bc {P Q : Prop} [Decidable P] [Decidable Q] (h : P ↔ Q) : ts_b (decide P) = ts_b (decide Q) := by rw [decide_eq_decide.mpr h]
theorem ts_n1 {n : Nat} (h : n < 2 ^ 30) : (nI n - 1).toInt = (n : Int) - 1 := pk_sub_toInt (a := n) (b := 1) h (by decide)
theorem ts_below {x : Int32} {n : Nat} (hn : n < 2 ^ 30) : ((0 : Int64) ≤ x.toInt64 ∧ x.toInt64 ≤ (nI n - 1).toInt64) ↔ (0 ≤ x ∧ x < nI n) := by
  rw [Int64.le_iff_toInt_le, Int64.le_iff_toInt_le, Int32.le_iff_toInt_le, Int32.lt_iff_toInt_lt, Int32.toInt_toInt64, Int32.toInt_toInt64, ts_n1 hn, nI_toInt (by omega)]
  show (0 ≤ _ ∧ _) ↔ (0 ≤ _ ∧ _)
  omega
theorem ts_ofIn {x : Int32} {n : Nat} (hn : n < 2 ^ 31) (h : 0 ≤ x ∧ x < nI n) : ∃ j, j < n ∧ x = nI j := ts_rng hn (Int32.not_lt.mpr h.1) (Int32.not_le.mpr h.2)
theorem ts_toIn {j n : Nat} (h : j < n) (hn : n < 2 ^ 31) : 0 ≤ nI j ∧ nI j < nI n := ⟨nI_pos' (by omega), nI_lt h hn⟩
section REACH
variable {X : ts_X} {I : Nat → Nat → Int32} {L : Nat → Nat → Int64} {sw : Bool} {K : Option Value → ts_H → Prop} {d : Nat} {f : ts_Fl}
theorem m_isMan (hA : ts_RA I f) {x : Int32} (hK : K (some (.int (ts_b (decide (0 ≤ x ∧ x < nI (f_men f)))))) (I, L, ts_P0 sw, ts_S0)) : ts_Cal X (d + 2) 149 [.ref 72, .long x.toInt64] (I, L, ts_P0 sw, ts_S0) K := by
  have hm := hA.men
  refine ev_enter (lv := [.ref 72, .long x.toInt64, .null]) l149 rfl (Nat.le_of_ble_eq_true rfl) ?_
  refine ev_lloadn_1 i149_0 ?_
  refine ev_lconst (v := 0) i149_1 (by decide) ?_
  refine ev_aloadn_0 i149_2 ?_
  refine ev_getI i149_3 g149_3 rfl ?_
  refine ev_iconst (v := 1) i149_6 (by decide) ?_
  refine ev_isub i149_7 ?_
  refine ev_i2l i149_8 ?_
  refine ev_stat3 i149_9 g149_9 (by decide +kernel) (by decide) (m_within ?_)
  refine ev_zreturn i149_12 r149 (ts_b_nar _) ?_
  exact ts_Kv hK (by rw [hm.2.1]; exact (ts_bc (ts_below (by omega))).symm)
theorem m_isSaying (hA : ts_RA I f) {x : Int32} (hK : K (some (.int (ts_b (decide (0 ≤ x ∧ x < nI (f_told f)))))) (I, L, ts_P0 sw, ts_S0)) : ts_Cal X (d + 2) 150 [.ref 72, .long x.toInt64] (I, L, ts_P0 sw, ts_S0) K := by
  have hm := hA.told
  refine ev_enter (lv := [.ref 72, .long x.toInt64, .null]) l150 rfl (Nat.le_of_ble_eq_true rfl) ?_
  refine ev_lloadn_1 i150_0 ?_
  refine ev_lconst (v := 0) i150_1 (by decide) ?_
  refine ev_aloadn_0 i150_2 ?_
  refine ev_getI i150_3 g150_3 rfl ?_
  refine ev_iconst (v := 1) i150_6 (by decide) ?_
  refine ev_isub i150_7 ?_
  refine ev_i2l i150_8 ?_
  refine ev_stat3 i150_9 g150_9 (by decide +kernel) (by decide) (m_within ?_)
  refine ev_zreturn i150_12 r150 (ts_b_nar _) ?_
  exact ts_Kv hK (by rw [hm.2.1]; exact (ts_bc (ts_below (by omega))).symm)
theorem m_isPlank {x : Int64} (hK : K (some (.int (ts_b (decide (0 ≤ x ∧ x ≤ 15))))) (I, L, ts_P0 sw, ts_S0)) : ts_Cal X (d + 2) 148 [.long x] (I, L, ts_P0 sw, ts_S0) K := by
  refine ev_enter (lv := [.long x, .null]) l148 rfl (Nat.le_of_ble_eq_true rfl) ?_
  refine ev_lloadn_0 i148_0 ?_
  refine ev_lconst (v := 0) i148_1 (by decide) ?_
  refine ev_ldc2_w i148_2 g148_2 ?_
  refine ev_stat3 i148_5 g148_5 (by decide +kernel) (by decide) (m_within ?_)
  refine ev_zreturn i148_8 r148 (ts_b_nar _) ?_
  exact hK
theorem m_isTone {x : Int64} (hK : K (some (.int (ts_b (decide (0 ≤ x ∧ x ≤ 7))))) (I, L, ts_P0 sw, ts_S0)) : ts_Cal X (d + 2) 151 [.long x] (I, L, ts_P0 sw, ts_S0) K := by
  refine ev_enter (lv := [.long x, .null]) l151 rfl (Nat.le_of_ble_eq_true rfl) ?_
  refine ev_lloadn_0 i151_0 ?_
  refine ev_lconst (v := 0) i151_1 (by decide) ?_
  refine ev_ldc2_w i151_2 g151_2 ?_
  refine ev_stat3 i151_5 g151_5 (by decide +kernel) (by decide) (m_within ?_)
  refine ev_zreturn i151_8 r151 (ts_b_nar _) ?_
  exact hK
theorem ts_rem4 {p : Nat} (h : p < 16) : ts_rem (nI p) 4 = nI (p % 4) := pk_rem (d := 4) (by omega) (by decide) (by decide)
theorem ts_div4 {p : Nat} (h : p < 16) : nI p / 4 = nI (p / 4) := pk_div (d := 4) (by omega) (by decide) (by decide)
/-- |a - b| -/
theorem ts_absd {a b : Nat} (ha : a < 4) (hb : b < 4) : (if 0 ≤ nI a - nI b then nI a - nI b else 0 - (nI a - nI b)) = nI (if b < a then a - b else b - a) := by
  have h1 : ∀ a, a < 4 → ∀ b, b < 4 → (if 0 ≤ nI a - nI b then nI a - nI b else 0 - (nI a - nI b)) = nI (if b < a then a - b else b - a) := by decide +kernel
  exact h1 a ha b hb
set_option maxHeartbeats 2000000 in
theorem x_canStrike (hA : ts_RA I f) {m p : Nat} (hm : m < f_men f) (hp : p < 16) (hK : K (some (.int (ts_b (f_can f m p)))) (I, L, ts_P0 sw, ts_S0)) : ts_Cal X (d + 2) 26 [.ref 2, .int (nI m), .int (nI p)] (I, L, ts_P0 sw, ts_S0) K := by
  have hmm := hA.men
  have hst := hA.stand (p := m) (by omega)
  have hre := hA.reach (p := m) (by omega)
  have hfin : ∀ v : Int32, v = nI (f_far (f_stand f m) p) → (v ≤ I 6 m ↔ f_can f m p = true) := fun v hv => by
    rw [hv, hre.1, nI_leI (by unfold f_far; split <;> split <;> omega) (by omega)]
    unfold f_can
    rw [decide_eq_true_eq]
  have hcl : (nI m).toNatClampNeg = m := nI_clamp (by omega)
  refine ev_enter (lv := [.ref 2, .int (nI m), .int (nI p), .null, .null]) l26 rfl (Nat.le_of_ble_eq_true rfl) ?_
  refine ev_aloadn_0 i26_0 ?_
  refine ev_iloadn_1 i26_1 ?_
  refine ev_virt1 i26_2 g26_2 rfl (by decide +kernel) (by decide) (x_hasMan hA ?_)
  refine ev_ifeq i26_5 (fun c5 => ?_) (fun c5 => ?_)
  · refine ev_iconst (v := 0) i26_15 (by decide) ?_
    refine ev_zreturn i26_16 r26 rfl ?_
    first | exact absurd (ts_toIn hm (by omega)) (ts_b_eq c5) | exact absurd (ts_toIn (n := 16) hp (by decide)) (ts_b_eq (P := 0 ≤ nI p ∧ nI p < 16) c12)
  · refine ev_iloadn_2 i26_8 ?_
    refine ev_nest1 i26_9 g26_9 (by decide +kernel) (by decide) (x_isPlank ?_)
    refine ev_ifne i26_12 (fun c12 => ?_) (fun c12 => ?_)
    · refine ev_iloadn_2 i26_17 ?_
      refine ev_iconst (v := 4) i26_18 (by decide) ?_
      refine ev_irem i26_19 (by decide) ?_
      refine ev_aloadn_0 i26_20 ?_
      refine ev_getA i26_21 g26_21 rfl rfl (by decide) ?_
      refine ev_iloadn_1 i26_24 ?_
      refine ev_iaload i26_25 rfl (vp_in_nI (by omega) (by decide)) ?_
      refine ev_iconst (v := 4) i26_26 (by decide) ?_
      refine ev_irem i26_27 (by decide) ?_
      refine ev_isub i26_28 ?_
      refine ev_mabs (b := 0) i26_29 g26_29 (by decide) ?_
      refine ev_istoren_3 i26_32 rfl ?_
      refine ev_iloadn_2 i26_33 ?_
      refine ev_iconst (v := 4) i26_34 (by decide) ?_
      refine ev_idiv i26_35 (by decide) ?_
      refine ev_aloadn_0 i26_36 ?_
      refine ev_getA i26_37 g26_37 rfl rfl (by decide) ?_
      refine ev_iloadn_1 i26_40 ?_
      refine ev_iaload i26_41 rfl (vp_in_nI (by omega) (by decide)) ?_
      refine ev_iconst (v := 4) i26_42 (by decide) ?_
      refine ev_idiv i26_43 (by decide) ?_
      refine ev_isub i26_44 ?_
      refine ev_mabs (b := 0) i26_45 g26_45 (by decide) ?_
      refine ev_istore_4 i26_48 rfl ?_
      refine ev_iloadn_3 i26_50 ?_
      refine ev_iload_4 i26_51 ?_
      have e1 : (if 0 ≤ ts_rem (nI p) 4 - ts_rem (I 5 (nI m).toNatClampNeg) 4 then ts_rem (nI p) 4 - ts_rem (I 5 (nI m).toNatClampNeg) 4 else 0 - (ts_rem (nI p) 4 - ts_rem (I 5 (nI m).toNatClampNeg) 4)) = nI (if f_stand f m % 4 < p % 4 then p % 4 - f_stand f m % 4 else f_stand f m % 4 - p % 4) := by
        rw [hcl, hst.1, ts_rem4 hp, ts_rem4 (by omega)]
        exact ts_absd (by omega) (by omega)
      have e2 : (if 0 ≤ nI p / 4 - I 5 (nI m).toNatClampNeg / 4 then nI p / 4 - I 5 (nI m).toNatClampNeg / 4 else 0 - (nI p / 4 - I 5 (nI m).toNatClampNeg / 4)) = nI (if f_stand f m / 4 < p / 4 then p / 4 - f_stand f m / 4 else f_stand f m / 4 - p / 4) := by
        rw [hcl, hst.1, ts_div4 hp, ts_div4 (by omega)]
        exact ts_absd (by omega) (by omega)
      rw [e1, e2]
      sorry
    · refine ev_iconst (v := 0) i26_15 (by decide) ?_
      refine ev_zreturn i26_16 r26 rfl ?_
      first | exact absurd (ts_toIn hm (by omega)) (ts_b_eq c5) | exact absurd (ts_toIn (n := 16) hp (by decide)) (ts_b_eq (P := 0 ≤ nI p ∧ nI p < 16) c12)
end REACH
