theorem i137_0 : ts_ins 137 0 = some (.iload_n 0, 1, 0) := by decide +kernel
theorem i137_1 : ts_ins 137 1 = some (.ifCond .lt 13, 4, 14) := by decide +kernel
theorem i137_4 : ts_ins 137 4 = some (.iload_n 0, 5, 0) := by decide +kernel
theorem i137_5 : ts_ins 137 5 = some (.bipush 16, 7, 0) := by decide +kernel
theorem i137_7 : ts_ins 137 7 = some (.if_icmp .ge 7, 10, 14) := by decide +kernel
theorem i137_10 : ts_ins 137 10 = some (.iconst 1, 11, 0) := by decide +kernel
theorem i137_11 : ts_ins 137 11 = some (.goto 4, 14, 15) := by decide +kernel
theorem i137_14 : ts_ins 137 14 = some (.iconst 0, 15, 0) := by decide +kernel
theorem i137_15 : ts_ins 137 15 = some (.ireturn, 16, 0) := by decide +kernel
theorem r137 : ts_rt 137 = ((some .boolean), 0, 0) := by decide +kernel
theorem l137 : ts_ml 137 = 1 := by decide +kernel
theorem i138_0 : ts_ins 138 0 = some (.iload_n 0, 1, 0) := by decide +kernel
theorem i138_1 : ts_ins 138 1 = some (.ifCond .lt 13, 4, 14) := by decide +kernel
theorem i138_4 : ts_ins 138 4 = some (.iload_n 0, 5, 0) := by decide +kernel
theorem i138_5 : ts_ins 138 5 = some (.bipush 6, 7, 0) := by decide +kernel
theorem i138_7 : ts_ins 138 7 = some (.if_icmp .ge 7, 10, 14) := by decide +kernel
theorem i138_10 : ts_ins 138 10 = some (.iconst 1, 11, 0) := by decide +kernel
theorem i138_11 : ts_ins 138 11 = some (.goto 4, 14, 15) := by decide +kernel
theorem i138_14 : ts_ins 138 14 = some (.iconst 0, 15, 0) := by decide +kernel
theorem i138_15 : ts_ins 138 15 = some (.ireturn, 16, 0) := by decide +kernel
theorem r138 : ts_rt 138 = ((some .boolean), 0, 0) := by decide +kernel
theorem l138 : ts_ml 138 = 1 := by decide +kernel
theorem i139_0 : ts_ins 139 0 = some (.iload_n 0, 1, 0) := by decide +kernel
theorem i139_1 : ts_ins 139 1 = some (.ifCond .lt 13, 4, 14) := by decide +kernel
theorem i139_4 : ts_ins 139 4 = some (.iload_n 0, 5, 0) := by decide +kernel
theorem i139_5 : ts_ins 139 5 = some (.bipush 8, 7, 0) := by decide +kernel
theorem i139_7 : ts_ins 139 7 = some (.if_icmp .ge 7, 10, 14) := by decide +kernel
theorem i139_10 : ts_ins 139 10 = some (.iconst 1, 11, 0) := by decide +kernel
theorem i139_11 : ts_ins 139 11 = some (.goto 4, 14, 15) := by decide +kernel
theorem i139_14 : ts_ins 139 14 = some (.iconst 0, 15, 0) := by decide +kernel
theorem i139_15 : ts_ins 139 15 = some (.ireturn, 16, 0) := by decide +kernel
theorem r139 : ts_rt 139 = ((some .boolean), 0, 0) := by decide +kernel
theorem l139 : ts_ml 139 = 1 := by decide +kernel
theorem i140_0 : ts_ins 140 0 = some (.iload_n 0, 1, 0) := by decide +kernel
theorem i140_1 : ts_ins 140 1 = some (.ifCond .eq 8, 4, 9) := by decide +kernel
theorem i140_4 : ts_ins 140 4 = some (.iload_n 0, 5, 0) := by decide +kernel
theorem i140_5 : ts_ins 140 5 = some (.iconst 1, 6, 0) := by decide +kernel
theorem i140_6 : ts_ins 140 6 = some (.if_icmp .ne 7, 9, 13) := by decide +kernel
theorem i140_9 : ts_ins 140 9 = some (.iconst 1, 10, 0) := by decide +kernel
theorem i140_10 : ts_ins 140 10 = some (.goto 4, 13, 14) := by decide +kernel
theorem i140_13 : ts_ins 140 13 = some (.iconst 0, 14, 0) := by decide +kernel
theorem i140_14 : ts_ins 140 14 = some (.ireturn, 15, 0) := by decide +kernel
theorem r140 : ts_rt 140 = ((some .boolean), 0, 0) := by decide +kernel
theorem l140 : ts_ml 140 = 1 := by decide +kernel
theorem i19_0 : ts_ins 19 0 = some (.iload_n 1, 1, 0) := by decide +kernel
theorem i19_1 : ts_ins 19 1 = some (.ifCond .lt 15, 4, 16) := by decide +kernel
theorem i19_4 : ts_ins 19 4 = some (.iload_n 1, 5, 0) := by decide +kernel
theorem i19_5 : ts_ins 19 5 = some (.aload_n 0, 6, 0) := by decide +kernel
theorem i19_6 : ts_ins 19 6 = some (.getfield 38, 9, 0) := by decide +kernel
theorem g19_6 : ts_fm 19 38 = some (3, 8, 0) := by decide +kernel
theorem i19_9 : ts_ins 19 9 = some (.if_icmp .ge 7, 12, 16) := by decide +kernel
theorem i19_12 : ts_ins 19 12 = some (.iconst 1, 13, 0) := by decide +kernel
theorem i19_13 : ts_ins 19 13 = some (.goto 4, 16, 17) := by decide +kernel
theorem i19_16 : ts_ins 19 16 = some (.iconst 0, 17, 0) := by decide +kernel
theorem i19_17 : ts_ins 19 17 = some (.ireturn, 18, 0) := by decide +kernel
theorem r19 : ts_rt 19 = ((some .boolean), 0, 0) := by decide +kernel
theorem l19 : ts_ml 19 = 2 := by decide +kernel
theorem i20_0 : ts_ins 20 0 = some (.iload_n 1, 1, 0) := by decide +kernel
theorem i20_1 : ts_ins 20 1 = some (.ifCond .lt 15, 4, 16) := by decide +kernel
theorem i20_4 : ts_ins 20 4 = some (.iload_n 1, 5, 0) := by decide +kernel
theorem i20_5 : ts_ins 20 5 = some (.aload_n 0, 6, 0) := by decide +kernel
theorem i20_6 : ts_ins 20 6 = some (.getfield 42, 9, 0) := by decide +kernel
theorem g20_6 : ts_fm 20 42 = some (3, 9, 0) := by decide +kernel
theorem i20_9 : ts_ins 20 9 = some (.if_icmp .ge 7, 12, 16) := by decide +kernel
theorem i20_12 : ts_ins 20 12 = some (.iconst 1, 13, 0) := by decide +kernel
theorem i20_13 : ts_ins 20 13 = some (.goto 4, 16, 17) := by decide +kernel
theorem i20_16 : ts_ins 20 16 = some (.iconst 0, 17, 0) := by decide +kernel
theorem i20_17 : ts_ins 20 17 = some (.ireturn, 18, 0) := by decide +kernel
theorem r20 : ts_rt 20 = ((some .boolean), 0, 0) := by decide +kernel
theorem l20 : ts_ml 20 = 2 := by decide +kernel
theorem i143_0 : ts_ins 143 0 = some (.lload_n 0, 1, 0) := by decide +kernel
theorem i143_1 : ts_ins 143 1 = some (.lload_n 2, 2, 0) := by decide +kernel
theorem i143_2 : ts_ins 143 2 = some (.lcmp, 3, 0) := by decide +kernel
theorem i143_3 : ts_ins 143 3 = some (.ifCond .lt 14, 6, 17) := by decide +kernel
theorem i143_6 : ts_ins 143 6 = some (.lload_n 0, 7, 0) := by decide +kernel
theorem i143_7 : ts_ins 143 7 = some (.lload 4, 9, 0) := by decide +kernel
theorem i143_9 : ts_ins 143 9 = some (.lcmp, 10, 0) := by decide +kernel
theorem i143_10 : ts_ins 143 10 = some (.ifCond .gt 7, 13, 17) := by decide +kernel
theorem i143_13 : ts_ins 143 13 = some (.iconst 1, 14, 0) := by decide +kernel
theorem i143_14 : ts_ins 143 14 = some (.goto 4, 17, 18) := by decide +kernel
theorem i143_17 : ts_ins 143 17 = some (.iconst 0, 18, 0) := by decide +kernel
theorem i143_18 : ts_ins 143 18 = some (.ireturn, 19, 0) := by decide +kernel
theorem r143 : ts_rt 143 = ((some .boolean), 0, 0) := by decide +kernel
theorem l143 : ts_ml 143 = 6 := by decide +kernel
/-! the leaves: ranges -/
theorem ts_Kv {K : Option Value → ts_H → Prop} {v w : Int32} {h : ts_H} (hK : K (some (.int v)) h) (e : v = w) : K (some (.int w)) h := e ▸ hK
theorem ts_Kl {K : Option Value → ts_H → Prop} {v w : Int64} {h : ts_H} (hK : K (some (.long v)) h) (e : v = w) : K (some (.long w)) h := e ▸ hK
theorem lg_cmp_lt0 (x y : Int64) : lg_cmp x y < 0 ↔ x < y := by
  unfold lg_cmp
  by_cases h1 : x > y
  · rw [if_pos h1]
    exact ⟨fun h => absurd h (by decide), fun h => by simp only [gt_iff_lt, Int64.lt_iff_toInt_lt] at *; omega⟩
  · rw [if_neg h1]
    by_cases h2 : x = y
    · rw [if_pos h2]
      exact ⟨fun h => absurd h (by decide), fun h => by subst h2; simp only [Int64.lt_iff_toInt_lt] at h; omega⟩
    · rw [if_neg h2]
      exact ⟨fun _ => by have h3 : x.toInt ≠ y.toInt := fun q => h2 (Int64.toInt_inj.mp q); simp only [gt_iff_lt, Int64.lt_iff_toInt_lt] at *; omega, fun _ => by decide⟩
theorem lg_cmp_gt0 (x y : Int64) : 0 < lg_cmp x y ↔ y < x := by
  unfold lg_cmp
  by_cases h1 : x > y
  · rw [if_pos h1]
    exact ⟨fun _ => h1, fun _ => by decide⟩
  · rw [if_neg h1]
    by_cases h2 : x = y
    · rw [if_pos h2]
      exact ⟨fun h => absurd h (by decide), fun h => absurd h h1⟩
    · rw [if_neg h2]
      exact ⟨fun h => absurd h (by decide), fun h => absurd h h1⟩
section LEAF
variable {X : ts_X} {I : Nat → Nat → Int32} {L : Nat → Nat → Int64} {sw : Bool} {K : Option Value → ts_H → Prop} {d : Nat} {f : ts_Fl}
theorem x_isPlank {x : Int32} (hK : K (some (.int (ts_b (decide (0 ≤ x ∧ x < 16))))) (I, L, ts_P0 sw, ts_S0)) : ts_Cal X (d + 1) 137 [.int x] (I, L, ts_P0 sw, ts_S0) K := by
  refine ev_enter (lv := [.int x]) l137 rfl (Nat.le_of_ble_eq_true rfl) ?_
  refine ev_iloadn_0 i137_0 ?_
  refine ev_iflt i137_1 (fun c1 => ?_) (fun c1 => ?_)
  · refine ev_iconst (v := 0) i137_14 (by decide) ?_
    refine ev_zreturn i137_15 r137 rfl ?_
    first | exact ts_Kv hK (ts_b_t (by simp only [Int32.lt_iff_toInt_lt, Int32.le_iff_toInt_le] at *; omega)) | exact ts_Kv hK (ts_b_f (by simp only [Int32.lt_iff_toInt_lt, Int32.le_iff_toInt_le] at *; omega))
  · refine ev_iloadn_0 i137_4 ?_
    refine ev_bipush (v := 16) i137_5 (by decide) ?_
    refine ev_icmpge i137_7 (fun c7 => ?_) (fun c7 => ?_)
    · refine ev_iconst (v := 0) i137_14 (by decide) ?_
      refine ev_zreturn i137_15 r137 rfl ?_
      first | exact ts_Kv hK (ts_b_t (by simp only [Int32.lt_iff_toInt_lt, Int32.le_iff_toInt_le] at *; omega)) | exact ts_Kv hK (ts_b_f (by simp only [Int32.lt_iff_toInt_lt, Int32.le_iff_toInt_le] at *; omega))
    · refine ev_iconst (v := 1) i137_10 (by decide) ?_
      refine ev_goto i137_11 ?_
      refine ev_zreturn i137_15 r137 rfl ?_
      first | exact ts_Kv hK (ts_b_t (by simp only [Int32.lt_iff_toInt_lt, Int32.le_iff_toInt_le] at *; omega)) | exact ts_Kv hK (ts_b_f (by simp only [Int32.lt_iff_toInt_lt, Int32.le_iff_toInt_le] at *; omega))
theorem x_isShelf {x : Int32} (hK : K (some (.int (ts_b (decide (0 ≤ x ∧ x < 6))))) (I, L, ts_P0 sw, ts_S0)) : ts_Cal X (d + 1) 138 [.int x] (I, L, ts_P0 sw, ts_S0) K := by
  refine ev_enter (lv := [.int x]) l138 rfl (Nat.le_of_ble_eq_true rfl) ?_
  refine ev_iloadn_0 i138_0 ?_
  refine ev_iflt i138_1 (fun c1 => ?_) (fun c1 => ?_)
  · refine ev_iconst (v := 0) i138_14 (by decide) ?_
    refine ev_zreturn i138_15 r138 rfl ?_
    first | exact ts_Kv hK (ts_b_t (by simp only [Int32.lt_iff_toInt_lt, Int32.le_iff_toInt_le] at *; omega)) | exact ts_Kv hK (ts_b_f (by simp only [Int32.lt_iff_toInt_lt, Int32.le_iff_toInt_le] at *; omega))
  · refine ev_iloadn_0 i138_4 ?_
    refine ev_bipush (v := 6) i138_5 (by decide) ?_
    refine ev_icmpge i138_7 (fun c7 => ?_) (fun c7 => ?_)
    · refine ev_iconst (v := 0) i138_14 (by decide) ?_
      refine ev_zreturn i138_15 r138 rfl ?_
      first | exact ts_Kv hK (ts_b_t (by simp only [Int32.lt_iff_toInt_lt, Int32.le_iff_toInt_le] at *; omega)) | exact ts_Kv hK (ts_b_f (by simp only [Int32.lt_iff_toInt_lt, Int32.le_iff_toInt_le] at *; omega))
    · refine ev_iconst (v := 1) i138_10 (by decide) ?_
      refine ev_goto i138_11 ?_
      refine ev_zreturn i138_15 r138 rfl ?_
      first | exact ts_Kv hK (ts_b_t (by simp only [Int32.lt_iff_toInt_lt, Int32.le_iff_toInt_le] at *; omega)) | exact ts_Kv hK (ts_b_f (by simp only [Int32.lt_iff_toInt_lt, Int32.le_iff_toInt_le] at *; omega))
theorem x_isKind {x : Int32} (hK : K (some (.int (ts_b (decide (0 ≤ x ∧ x < 8))))) (I, L, ts_P0 sw, ts_S0)) : ts_Cal X (d + 1) 139 [.int x] (I, L, ts_P0 sw, ts_S0) K := by
  refine ev_enter (lv := [.int x]) l139 rfl (Nat.le_of_ble_eq_true rfl) ?_
  refine ev_iloadn_0 i139_0 ?_
  refine ev_iflt i139_1 (fun c1 => ?_) (fun c1 => ?_)
  · refine ev_iconst (v := 0) i139_14 (by decide) ?_
    refine ev_zreturn i139_15 r139 rfl ?_
    first | exact ts_Kv hK (ts_b_t (by simp only [Int32.lt_iff_toInt_lt, Int32.le_iff_toInt_le] at *; omega)) | exact ts_Kv hK (ts_b_f (by simp only [Int32.lt_iff_toInt_lt, Int32.le_iff_toInt_le] at *; omega))
  · refine ev_iloadn_0 i139_4 ?_
    refine ev_bipush (v := 8) i139_5 (by decide) ?_
    refine ev_icmpge i139_7 (fun c7 => ?_) (fun c7 => ?_)
    · refine ev_iconst (v := 0) i139_14 (by decide) ?_
      refine ev_zreturn i139_15 r139 rfl ?_
      first | exact ts_Kv hK (ts_b_t (by simp only [Int32.lt_iff_toInt_lt, Int32.le_iff_toInt_le] at *; omega)) | exact ts_Kv hK (ts_b_f (by simp only [Int32.lt_iff_toInt_lt, Int32.le_iff_toInt_le] at *; omega))
    · refine ev_iconst (v := 1) i139_10 (by decide) ?_
      refine ev_goto i139_11 ?_
      refine ev_zreturn i139_15 r139 rfl ?_
      first | exact ts_Kv hK (ts_b_t (by simp only [Int32.lt_iff_toInt_lt, Int32.le_iff_toInt_le] at *; omega)) | exact ts_Kv hK (ts_b_f (by simp only [Int32.lt_iff_toInt_lt, Int32.le_iff_toInt_le] at *; omega))
theorem x_isPart {x : Int32} (hK : K (some (.int (ts_b (decide (x = 0 ∨ x = 1))))) (I, L, ts_P0 sw, ts_S0)) : ts_Cal X (d + 1) 140 [.int x] (I, L, ts_P0 sw, ts_S0) K := by
  refine ev_enter (lv := [.int x]) l140 rfl (Nat.le_of_ble_eq_true rfl) ?_
  refine ev_iloadn_0 i140_0 ?_
  refine ev_ifeq i140_1 (fun c1 => ?_) (fun c1 => ?_)
  · refine ev_iconst (v := 1) i140_9 (by decide) ?_
    refine ev_goto i140_10 ?_
    refine ev_zreturn i140_14 r140 rfl ?_
    exact ts_Kv hK (by simp_all [ts_b])
  · refine ev_iloadn_0 i140_4 ?_
    refine ev_iconst (v := 1) i140_5 (by decide) ?_
    refine ev_icmpne i140_6 (fun c6 => ?_) (fun c6 => ?_)
    · refine ev_iconst (v := 0) i140_13 (by decide) ?_
      refine ev_zreturn i140_14 r140 rfl ?_
      exact ts_Kv hK (by simp_all [ts_b])
    · refine ev_iconst (v := 1) i140_9 (by decide) ?_
      refine ev_goto i140_10 ?_
      refine ev_zreturn i140_14 r140 rfl ?_
      exact ts_Kv hK (by simp_all [ts_b])
theorem x_hasMan (hA : ts_RA I f) {x : Int32} (hK : K (some (.int (ts_b (decide (0 ≤ x ∧ x < nI (f_men f)))))) (I, L, ts_P0 sw, ts_S0)) : ts_Cal X (d + 1) 19 [.ref 2, .int x] (I, L, ts_P0 sw, ts_S0) K := by
  rw [← hA.men.1] at hK
  refine ev_enter (lv := [.ref 2, .int x]) l19 rfl (Nat.le_of_ble_eq_true rfl) ?_
  refine ev_iloadn_1 i19_0 ?_
  refine ev_iflt i19_1 (fun c1 => ?_) (fun c1 => ?_)
  · refine ev_iconst (v := 0) i19_16 (by decide) ?_
    refine ev_zreturn i19_17 r19 rfl ?_
    first | exact ts_Kv hK (ts_b_t (by simp only [Int32.lt_iff_toInt_lt, Int32.le_iff_toInt_le] at *; omega)) | exact ts_Kv hK (ts_b_f (by simp only [Int32.lt_iff_toInt_lt, Int32.le_iff_toInt_le] at *; omega))
  · refine ev_iloadn_1 i19_4 ?_
    refine ev_aloadn_0 i19_5 ?_
    refine ev_getI i19_6 g19_6 rfl ?_
    refine ev_icmpge i19_9 (fun c9 => ?_) (fun c9 => ?_)
    · refine ev_iconst (v := 0) i19_16 (by decide) ?_
      refine ev_zreturn i19_17 r19 rfl ?_
      first | exact ts_Kv hK (ts_b_t (by simp only [Int32.lt_iff_toInt_lt, Int32.le_iff_toInt_le] at *; omega)) | exact ts_Kv hK (ts_b_f (by simp only [Int32.lt_iff_toInt_lt, Int32.le_iff_toInt_le] at *; omega))
    · refine ev_iconst (v := 1) i19_12 (by decide) ?_
      refine ev_goto i19_13 ?_
      refine ev_zreturn i19_17 r19 rfl ?_
      first | exact ts_Kv hK (ts_b_t (by simp only [Int32.lt_iff_toInt_lt, Int32.le_iff_toInt_le] at *; omega)) | exact ts_Kv hK (ts_b_f (by simp only [Int32.lt_iff_toInt_lt, Int32.le_iff_toInt_le] at *; omega))
theorem x_hasSaying (hA : ts_RA I f) {x : Int32} (hK : K (some (.int (ts_b (decide (0 ≤ x ∧ x < nI (f_told f)))))) (I, L, ts_P0 sw, ts_S0)) : ts_Cal X (d + 1) 20 [.ref 2, .int x] (I, L, ts_P0 sw, ts_S0) K := by
  rw [← hA.told.1] at hK
  refine ev_enter (lv := [.ref 2, .int x]) l20 rfl (Nat.le_of_ble_eq_true rfl) ?_
  refine ev_iloadn_1 i20_0 ?_
  refine ev_iflt i20_1 (fun c1 => ?_) (fun c1 => ?_)
  · refine ev_iconst (v := 0) i20_16 (by decide) ?_
    refine ev_zreturn i20_17 r20 rfl ?_
    first | exact ts_Kv hK (ts_b_t (by simp only [Int32.lt_iff_toInt_lt, Int32.le_iff_toInt_le] at *; omega)) | exact ts_Kv hK (ts_b_f (by simp only [Int32.lt_iff_toInt_lt, Int32.le_iff_toInt_le] at *; omega))
  · refine ev_iloadn_1 i20_4 ?_
    refine ev_aloadn_0 i20_5 ?_
    refine ev_getI i20_6 g20_6 rfl ?_
    refine ev_icmpge i20_9 (fun c9 => ?_) (fun c9 => ?_)
    · refine ev_iconst (v := 0) i20_16 (by decide) ?_
      refine ev_zreturn i20_17 r20 rfl ?_
      first | exact ts_Kv hK (ts_b_t (by simp only [Int32.lt_iff_toInt_lt, Int32.le_iff_toInt_le] at *; omega)) | exact ts_Kv hK (ts_b_f (by simp only [Int32.lt_iff_toInt_lt, Int32.le_iff_toInt_le] at *; omega))
    · refine ev_iconst (v := 1) i20_12 (by decide) ?_
      refine ev_goto i20_13 ?_
      refine ev_zreturn i20_17 r20 rfl ?_
      first | exact ts_Kv hK (ts_b_t (by simp only [Int32.lt_iff_toInt_lt, Int32.le_iff_toInt_le] at *; omega)) | exact ts_Kv hK (ts_b_f (by simp only [Int32.lt_iff_toInt_lt, Int32.le_iff_toInt_le] at *; omega))
theorem m_within {a b c : Int64} (hK : K (some (.int (ts_b (decide (b ≤ a ∧ a ≤ c))))) (I, L, ts_P0 sw, ts_S0)) : ts_Cal X (d + 1) 143 [.long a, .long b, .long c] (I, L, ts_P0 sw, ts_S0) K := by
  refine ev_enter (lv := [.long a, .null, .long b, .null, .long c, .null]) l143 rfl (Nat.le_of_ble_eq_true rfl) ?_
  refine ev_lloadn_0 i143_0 ?_
  refine ev_lloadn_2 i143_1 ?_
  refine ev_lcmp i143_2 ?_
  refine ev_iflt i143_3 (fun c3 => ?_) (fun c3 => ?_)
  · refine ev_iconst (v := 0) i143_17 (by decide) ?_
    refine ev_zreturn i143_18 r143 rfl ?_
    first | exact ts_Kv hK (ts_b_t (by rw [lg_cmp_lt0] at c3; rw [lg_cmp_gt0] at c10; simp only [Int64.lt_iff_toInt_lt, Int64.le_iff_toInt_le] at *; omega)) | exact ts_Kv hK (ts_b_f (by rw [lg_cmp_lt0] at c3; rw [lg_cmp_gt0] at c10; simp only [Int64.lt_iff_toInt_lt, Int64.le_iff_toInt_le] at *; omega)) | exact ts_Kv hK (ts_b_f (by rw [lg_cmp_lt0] at c3; simp only [Int64.lt_iff_toInt_lt, Int64.le_iff_toInt_le] at *; omega))
  · refine ev_lloadn_0 i143_6 ?_
    refine ev_lload_4 i143_7 ?_
    refine ev_lcmp i143_9 ?_
    refine ev_ifgt i143_10 (fun c10 => ?_) (fun c10 => ?_)
    · refine ev_iconst (v := 0) i143_17 (by decide) ?_
      refine ev_zreturn i143_18 r143 rfl ?_
      first | exact ts_Kv hK (ts_b_t (by rw [lg_cmp_lt0] at c3; rw [lg_cmp_gt0] at c10; simp only [Int64.lt_iff_toInt_lt, Int64.le_iff_toInt_le] at *; omega)) | exact ts_Kv hK (ts_b_f (by rw [lg_cmp_lt0] at c3; rw [lg_cmp_gt0] at c10; simp only [Int64.lt_iff_toInt_lt, Int64.le_iff_toInt_le] at *; omega)) | exact ts_Kv hK (ts_b_f (by rw [lg_cmp_lt0] at c3; simp only [Int64.lt_iff_toInt_lt, Int64.le_iff_toInt_le] at *; omega))
    · refine ev_iconst (v := 1) i143_13 (by decide) ?_
      refine ev_goto i143_14 ?_
      refine ev_zreturn i143_18 r143 rfl ?_
      first | exact ts_Kv hK (ts_b_t (by rw [lg_cmp_lt0] at c3; rw [lg_cmp_gt0] at c10; simp only [Int64.lt_iff_toInt_lt, Int64.le_iff_toInt_le] at *; omega)) | exact ts_Kv hK (ts_b_f (by rw [lg_cmp_lt0] at c3; rw [lg_cmp_gt0] at c10; simp only [Int64.lt_iff_toInt_lt, Int64.le_iff_toInt_le] at *; omega)) | exact ts_Kv hK (ts_b_f (by rw [lg_cmp_lt0] at c3; simp only [Int64.lt_iff_toInt_lt, Int64.le_iff_toInt_le] at *; omega))
end LEAF
