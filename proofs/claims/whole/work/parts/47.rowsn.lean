theorem i28_0 : ts_ins 28 0 = some (.iconst 0, 1, 0) := by decide +kernel
theorem i28_1 : ts_ins 28 1 = some (.istore_n 2, 2, 0) := by decide +kernel
theorem i28_2 : ts_ins 28 2 = some (.iconst 0, 3, 0) := by decide +kernel
theorem i28_3 : ts_ins 28 3 = some (.istore_n 3, 4, 0) := by decide +kernel
theorem i28_4 : ts_ins 28 4 = some (.iload_n 3, 5, 0) := by decide +kernel
theorem i28_5 : ts_ins 28 5 = some (.bipush 16, 7, 0) := by decide +kernel
theorem i28_7 : ts_ins 28 7 = some (.if_icmp .ge 29, 10, 36) := by decide +kernel
theorem i28_10 : ts_ins 28 10 = some (.aload_n 0, 11, 0) := by decide +kernel
theorem i28_11 : ts_ins 28 11 = some (.iload_n 1, 12, 0) := by decide +kernel
theorem i28_12 : ts_ins 28 12 = some (.iload_n 3, 13, 0) := by decide +kernel
theorem i28_13 : ts_ins 28 13 = some (.invokevirtual 89, 16, 0) := by decide +kernel
theorem g28_13 : ts_cal (ts_mc 28) 89 = some (0, 26, 2) := by decide +kernel
theorem i28_16 : ts_ins 28 16 = some (.ifCond .eq 14, 19, 30) := by decide +kernel
theorem i28_19 : ts_ins 28 19 = some (.iload_n 2, 20, 0) := by decide +kernel
theorem i28_20 : ts_ins 28 20 = some (.iconst 1, 21, 0) := by decide +kernel
theorem i28_21 : ts_ins 28 21 = some (.aload_n 0, 22, 0) := by decide +kernel
theorem i28_22 : ts_ins 28 22 = some (.getfield 9, 25, 0) := by decide +kernel
theorem g28_22 : ts_fm 28 9 = some (3, 0, 2) := by decide +kernel
theorem i28_25 : ts_ins 28 25 = some (.iload_n 3, 26, 0) := by decide +kernel
theorem i28_26 : ts_ins 28 26 = some (.iaload, 27, 0) := by decide +kernel
theorem i28_27 : ts_ins 28 27 = some (.ishl, 28, 0) := by decide +kernel
theorem i28_28 : ts_ins 28 28 = some (.ior, 29, 0) := by decide +kernel
theorem i28_29 : ts_ins 28 29 = some (.istore_n 2, 30, 0) := by decide +kernel
theorem i28_30 : ts_ins 28 30 = some (.iinc 3 1, 33, 0) := by decide +kernel
theorem i28_33 : ts_ins 28 33 = some (.goto (-29), 36, 4) := by decide +kernel
theorem i28_36 : ts_ins 28 36 = some (.iload_n 2, 37, 0) := by decide +kernel
theorem i28_37 : ts_ins 28 37 = some (.invokestatic 92, 40, 0) := by decide +kernel
theorem g28_37 : ts_cal (ts_mc 28) 92 = some (1, 239, 1) := by decide +kernel
theorem i28_40 : ts_ins 28 40 = some (.ireturn, 41, 0) := by decide +kernel
theorem r28 : ts_rt 28 = ((some .int), 0, 0) := by decide +kernel
theorem l28 : ts_ml 28 = 4 := by decide +kernel
theorem i106_0 : ts_ins 106 0 = some (.iload_n 1, 1, 0) := by decide +kernel
theorem i106_1 : ts_ins 106 1 = some (.ifCond .lt 9, 4, 10) := by decide +kernel
theorem i106_4 : ts_ins 106 4 = some (.iload_n 1, 5, 0) := by decide +kernel
theorem i106_5 : ts_ins 106 5 = some (.bipush 9, 7, 0) := by decide +kernel
theorem i106_7 : ts_ins 106 7 = some (.if_icmp .le 7, 10, 14) := by decide +kernel
theorem i106_10 : ts_ins 106 10 = some (.ldc2_w 206, 13, 0) := by decide +kernel
theorem g106_10 : ts_lc (ts_mc 106) 206 = some (.long (-9223372036854775808)) := by decide +kernel
theorem i106_13 : ts_ins 106 13 = some (.lreturn, 14, 0) := by decide +kernel
theorem i106_14 : ts_ins 106 14 = some (.lconst 1, 15, 0) := by decide +kernel
theorem i106_15 : ts_ins 106 15 = some (.lstore_n 2, 16, 0) := by decide +kernel
theorem i106_16 : ts_ins 106 16 = some (.iconst 0, 17, 0) := by decide +kernel
theorem i106_17 : ts_ins 106 17 = some (.istore 4, 19, 0) := by decide +kernel
theorem i106_19 : ts_ins 106 19 = some (.iload 4, 21, 0) := by decide +kernel
theorem i106_21 : ts_ins 106 21 = some (.iload_n 1, 22, 0) := by decide +kernel
theorem i106_22 : ts_ins 106 22 = some (.if_icmp .ge 29, 25, 51) := by decide +kernel
theorem i106_25 : ts_ins 106 25 = some (.lload_n 2, 26, 0) := by decide +kernel
theorem i106_26 : ts_ins 106 26 = some (.aload_n 0, 27, 0) := by decide +kernel
theorem i106_27 : ts_ins 106 27 = some (.getfield 10, 30, 0) := by decide +kernel
theorem g106_27 : ts_fm 106 10 = some (11, 0, 2) := by decide +kernel
theorem i106_30 : ts_ins 106 30 = some (.aload_n 0, 31, 0) := by decide +kernel
theorem i106_31 : ts_ins 106 31 = some (.getfield 10, 34, 0) := by decide +kernel
theorem g106_31 : ts_fm 106 10 = some (11, 0, 2) := by decide +kernel
theorem i106_34 : ts_ins 106 34 = some (.iload 4, 36, 0) := by decide +kernel
theorem i106_36 : ts_ins 106 36 = some (.invokevirtual 208, 39, 0) := by decide +kernel
theorem g106_36 : ts_cal (ts_mc 106) 208 = some (0, 25, 1) := by decide +kernel
theorem i106_39 : ts_ins 106 39 = some (.invokevirtual 211, 42, 0) := by decide +kernel
theorem g106_39 : ts_cal (ts_mc 106) 211 = some (0, 28, 1) := by decide +kernel
theorem i106_42 : ts_ins 106 42 = some (.i2l, 43, 0) := by decide +kernel
theorem i106_43 : ts_ins 106 43 = some (.lmul, 44, 0) := by decide +kernel
theorem i106_44 : ts_ins 106 44 = some (.lstore_n 2, 45, 0) := by decide +kernel
theorem i106_45 : ts_ins 106 45 = some (.iinc 4 1, 48, 0) := by decide +kernel
theorem i106_48 : ts_ins 106 48 = some (.goto (-29), 51, 19) := by decide +kernel
theorem i106_51 : ts_ins 106 51 = some (.lload_n 2, 52, 0) := by decide +kernel
theorem i106_52 : ts_ins 106 52 = some (.lreturn, 53, 0) := by decide +kernel
theorem r106 : ts_rt 106 = ((some .long), 0, 0) := by decide +kernel
theorem l106 : ts_ml 106 = 5 := by decide +kernel
theorem i186_0 : ts_ins 186 0 = some (.iconst 0, 1, 0) := by decide +kernel
theorem i186_1 : ts_ins 186 1 = some (.istore_n 2, 2, 0) := by decide +kernel
theorem i186_2 : ts_ins 186 2 = some (.iconst 0, 3, 0) := by decide +kernel
theorem i186_3 : ts_ins 186 3 = some (.istore_n 3, 4, 0) := by decide +kernel
theorem i186_4 : ts_ins 186 4 = some (.iload_n 3, 5, 0) := by decide +kernel
theorem i186_5 : ts_ins 186 5 = some (.bipush 8, 7, 0) := by decide +kernel
theorem i186_7 : ts_ins 186 7 = some (.if_icmp .ge 74, 10, 81) := by decide +kernel
theorem i186_10 : ts_ins 186 10 = some (.iconst 0, 11, 0) := by decide +kernel
theorem i186_11 : ts_ins 186 11 = some (.istore 4, 13, 0) := by decide +kernel
theorem i186_13 : ts_ins 186 13 = some (.iconst 0, 14, 0) := by decide +kernel
theorem i186_14 : ts_ins 186 14 = some (.istore 5, 16, 0) := by decide +kernel
theorem i186_16 : ts_ins 186 16 = some (.iload 5, 18, 0) := by decide +kernel
theorem i186_18 : ts_ins 186 18 = some (.bipush 16, 20, 0) := by decide +kernel
theorem i186_20 : ts_ins 186 20 = some (.if_icmp .ge 42, 23, 62) := by decide +kernel
theorem i186_23 : ts_ins 186 23 = some (.iload 4, 25, 0) := by decide +kernel
theorem i186_25 : ts_ins 186 25 = some (.ifCond .ne 24, 28, 49) := by decide +kernel
theorem i186_28 : ts_ins 186 28 = some (.aload_n 0, 29, 0) := by decide +kernel
theorem i186_29 : ts_ins 186 29 = some (.getfield 9, 32, 0) := by decide +kernel
theorem g186_29 : ts_fm 186 9 = some (12, 0, 2) := by decide +kernel
theorem i186_32 : ts_ins 186 32 = some (.iload 5, 34, 0) := by decide +kernel
theorem i186_34 : ts_ins 186 34 = some (.iaload, 35, 0) := by decide +kernel
theorem i186_35 : ts_ins 186 35 = some (.iload_n 3, 36, 0) := by decide +kernel
theorem i186_36 : ts_ins 186 36 = some (.if_icmp .ne 17, 39, 53) := by decide +kernel
theorem i186_39 : ts_ins 186 39 = some (.aload_n 0, 40, 0) := by decide +kernel
theorem i186_40 : ts_ins 186 40 = some (.iload_n 1, 41, 0) := by decide +kernel
theorem i186_41 : ts_ins 186 41 = some (.iload 5, 43, 0) := by decide +kernel
theorem i186_43 : ts_ins 186 43 = some (.invokevirtual 201, 46, 0) := by decide +kernel
theorem g186_43 : ts_cal (ts_mc 186) 201 = some (0, 173, 2) := by decide +kernel
theorem i186_46 : ts_ins 186 46 = some (.ifCond .eq 7, 49, 53) := by decide +kernel
theorem i186_49 : ts_ins 186 49 = some (.iconst 1, 50, 0) := by decide +kernel
theorem i186_50 : ts_ins 186 50 = some (.goto 4, 53, 54) := by decide +kernel
theorem i186_53 : ts_ins 186 53 = some (.iconst 0, 54, 0) := by decide +kernel
theorem i186_54 : ts_ins 186 54 = some (.istore 4, 56, 0) := by decide +kernel
theorem i186_56 : ts_ins 186 56 = some (.iinc 5 1, 59, 0) := by decide +kernel
theorem i186_59 : ts_ins 186 59 = some (.goto (-43), 62, 16) := by decide +kernel
theorem i186_62 : ts_ins 186 62 = some (.iload_n 2, 63, 0) := by decide +kernel
theorem i186_63 : ts_ins 186 63 = some (.iload 4, 65, 0) := by decide +kernel
theorem i186_65 : ts_ins 186 65 = some (.ifCond .eq 7, 68, 72) := by decide +kernel
theorem i186_68 : ts_ins 186 68 = some (.iconst 1, 69, 0) := by decide +kernel
theorem i186_69 : ts_ins 186 69 = some (.goto 4, 72, 73) := by decide +kernel
theorem i186_72 : ts_ins 186 72 = some (.iconst 0, 73, 0) := by decide +kernel
theorem i186_73 : ts_ins 186 73 = some (.iadd, 74, 0) := by decide +kernel
theorem i186_74 : ts_ins 186 74 = some (.istore_n 2, 75, 0) := by decide +kernel
theorem i186_75 : ts_ins 186 75 = some (.iinc 3 1, 78, 0) := by decide +kernel
theorem i186_78 : ts_ins 186 78 = some (.goto (-74), 81, 4) := by decide +kernel
theorem i186_81 : ts_ins 186 81 = some (.iload_n 2, 82, 0) := by decide +kernel
theorem i186_82 : ts_ins 186 82 = some (.ireturn, 83, 0) := by decide +kernel
theorem r186 : ts_rt 186 = ((some .int), 0, 0) := by decide +kernel
theorem l186 : ts_ml 186 = 6 := by decide +kernel
theorem i187_0 : ts_ins 187 0 = some (.iload_n 1, 1, 0) := by decide +kernel
theorem i187_1 : ts_ins 187 1 = some (.i2l, 2, 0) := by decide +kernel
theorem i187_2 : ts_ins 187 2 = some (.lconst 0, 3, 0) := by decide +kernel
theorem i187_3 : ts_ins 187 3 = some (.ldc2_w 232, 6, 0) := by decide +kernel
theorem g187_3 : ts_lc (ts_mc 187) 232 = some (.long (9)) := by decide +kernel
theorem i187_6 : ts_ins 187 6 = some (.invokestatic 95, 9, 0) := by decide +kernel
theorem g187_6 : ts_cal (ts_mc 187) 95 = some (1, 143, 3) := by decide +kernel
theorem i187_9 : ts_ins 187 9 = some (.ifCond .ne 7, 12, 16) := by decide +kernel
theorem i187_12 : ts_ins 187 12 = some (.ldc2_w 236, 15, 0) := by decide +kernel
theorem g187_12 : ts_lc (ts_mc 187) 236 = some (.long (-9223372036854775808)) := by decide +kernel
theorem i187_15 : ts_ins 187 15 = some (.lreturn, 16, 0) := by decide +kernel
theorem i187_16 : ts_ins 187 16 = some (.lconst 1, 17, 0) := by decide +kernel
theorem i187_17 : ts_ins 187 17 = some (.lstore_n 2, 18, 0) := by decide +kernel
theorem i187_18 : ts_ins 187 18 = some (.iconst 0, 19, 0) := by decide +kernel
theorem i187_19 : ts_ins 187 19 = some (.istore 4, 21, 0) := by decide +kernel
theorem i187_21 : ts_ins 187 21 = some (.iload 4, 23, 0) := by decide +kernel
theorem i187_23 : ts_ins 187 23 = some (.iload_n 1, 24, 0) := by decide +kernel
theorem i187_24 : ts_ins 187 24 = some (.if_icmp .ge 35, 27, 59) := by decide +kernel
theorem i187_27 : ts_ins 187 27 = some (.lload_n 2, 28, 0) := by decide +kernel
theorem i187_28 : ts_ins 187 28 = some (.aload_n 0, 29, 0) := by decide +kernel
theorem i187_29 : ts_ins 187 29 = some (.getfield 99, 32, 0) := by decide +kernel
theorem g187_29 : ts_fm 187 99 = some (12, 6, 0) := by decide +kernel
theorem i187_32 : ts_ins 187 32 = some (.ifCond .ne 7, 35, 39) := by decide +kernel
theorem i187_35 : ts_ins 187 35 = some (.lconst 0, 36, 0) := by decide +kernel
theorem i187_36 : ts_ins 187 36 = some (.goto 15, 39, 51) := by decide +kernel
theorem i187_39 : ts_ins 187 39 = some (.aload_n 0, 40, 0) := by decide +kernel
theorem i187_40 : ts_ins 187 40 = some (.iload 4, 42, 0) := by decide +kernel
theorem i187_42 : ts_ins 187 42 = some (.aload_n 0, 43, 0) := by decide +kernel
theorem i187_43 : ts_ins 187 43 = some (.getfield 99, 46, 0) := by decide +kernel
theorem g187_43 : ts_fm 187 99 = some (12, 6, 0) := by decide +kernel
theorem i187_46 : ts_ins 187 46 = some (.irem, 47, 0) := by decide +kernel
theorem i187_47 : ts_ins 187 47 = some (.invokevirtual 238, 50, 0) := by decide +kernel
theorem g187_47 : ts_cal (ts_mc 187) 238 = some (0, 186, 1) := by decide +kernel
theorem i187_50 : ts_ins 187 50 = some (.i2l, 51, 0) := by decide +kernel
theorem i187_51 : ts_ins 187 51 = some (.lmul, 52, 0) := by decide +kernel
theorem i187_52 : ts_ins 187 52 = some (.lstore_n 2, 53, 0) := by decide +kernel
theorem i187_53 : ts_ins 187 53 = some (.iinc 4 1, 56, 0) := by decide +kernel
theorem i187_56 : ts_ins 187 56 = some (.goto (-35), 59, 21) := by decide +kernel
theorem i187_59 : ts_ins 187 59 = some (.lload_n 2, 60, 0) := by decide +kernel
theorem i187_60 : ts_ins 187 60 = some (.lreturn, 61, 0) := by decide +kernel
theorem r187 : ts_rt 187 = ((some .long), 0, 0) := by decide +kernel
theorem l187 : ts_ml 187 = 5 := by decide +kernel
/-! ROWS: how many rows of tones -/
theorem zb8_5 : ∀ b0 b1 b2 b3 b4 b5 b6 b7 : Bool, ∀ t : Nat, t < 8 → zor (zb8 b0 b1 b2 b3 b4 b5 b6 b7) (zshl 1 t) = zbits (fun k => zv8 b0 b1 b2 b3 b4 b5 b6 b7 k ∨ k = t) 8 := by decide +kernel
theorem zbits_set (G : Int → Prop) [DecidablePred G] {t : Int} (h0 : 0 ≤ t) (h1 : t < 8) : zor (zbits G 8) (zshl 1 t) = zbits (fun k => G k ∨ k = t) 8 := by
  obtain ⟨b0, b1, b2, b3, b4, b5, b6, b7, e, q1, q2, q3⟩ := zb8_ex G (n := 8) (Nat.le_refl _)
  have q := zb8_5 b0 b1 b2 b3 b4 b5 b6 b7 t.toNat (by omega)
  rw [show ((t.toNat : Nat) : Int) = t from by omega] at q
  rw [e, q]
  refine zbits_e 8 (fun k k0 k1 => ?_)
  have r := q1 k k0 (by omega)
  exact ⟨fun a => a.elim (fun b => Or.inl (r.mp b).1) Or.inr, fun a => a.elim (fun b => Or.inl (r.mpr ⟨b, by omega⟩)) Or.inr⟩
/-- is one of the first j planks of tone t, and in reach of m -/
abbrev g_ht (f : ts_Fl) (m j t : Int) : Prop := zall (fun p => ¬ ((0 ≤ m ∧ m < f_men f) ∧ f_tone f p = t ∧ f_can f m p)) j.toNat = false
theorem g_ht_s {f : ts_Fl} {m j t : Int} (h : 0 ≤ j) : g_ht f m (j + 1) t ↔ (g_ht f m j t ∨ ((0 ≤ m ∧ m < f_men f) ∧ f_tone f j = t ∧ f_can f m j)) := by
  have e := zall_s (g := fun p => ¬ ((0 ≤ m ∧ m < f_men f) ∧ f_tone f p = t ∧ f_can f m p)) h
  unfold g_ht
  rw [← Bool.not_eq_true, e, ← Bool.not_eq_true]
  constructor
  · intro q
    by_cases c : zall (fun p => ¬ ((0 ≤ m ∧ m < f_men f) ∧ f_tone f p = t ∧ f_can f m p)) j.toNat = true
    · exact Or.inr (Decidable.of_not_not (fun r => q ⟨c, r⟩))
    · exact Or.inl c
  · intro q r
    rcases q with q | q
    · exact q r.1
    · exact r.2 q
theorem g_ht_0 {f : ts_Fl} {m t : Int} : ¬ g_ht f m 0 t := by
  unfold g_ht
  exact fun q => Bool.noConfusion (show true = false from q)
def g_tn (f : ts_Fl) (m : Int) : Int := zcnt (g_ht f m 16) 8
def g_rows (f : ts_Fl) (n : Int) : Int := if 0 ≤ n ∧ n ≤ 9 then zwh n (fun b a => a * (if f_men f = 0 then 0 else g_tn f (b % f_men f))) 0 1 else -9223372036854775808
theorem zbits_0 : ∀ n : Nat, ∀ (G : Int → Prop) [DecidablePred G], (∀ k : Int, 0 ≤ k → k < n → ¬ G k) → zbits G n = 0 := by
  intro n
  induction n with
  | zero => intro G _ _; rfl
  | succ n ih =>
    intro G _ h
    show (if G n then zor (zbits G n) (zshl 1 n) else zbits G n) = 0
    rw [if_neg (h n (by omega) (by omega))]
    exact ih G (fun k k0 k1 => h k k0 (by omega))
theorem g_tn_r (f : ts_Fl) (m : Int) : 0 ≤ g_tn f m ∧ g_tn f m ≤ 8 := zcnt_r (g_ht f m 16) 8
theorem g_tn_no {f : ts_Fl} {m : Int} (h : ¬ (0 ≤ m ∧ m < f_men f)) : g_tn f m = 0 := by
  unfold g_tn
  refine (zbits_z _ (by decide)).mp (zbits_0 8 _ (fun k k0 k1 => ?_))
  intro q
  have e : zall (fun p => ¬ ((0 ≤ m ∧ m < f_men f) ∧ f_tone f p = k ∧ f_can f m p)) (16 : Int).toNat = true := zall_t.mpr (fun p p0 p1 r => h r.1)
  exact absurd (q.symm.trans e) (by decide)
section RN
variable {X : ts_X} {I J : Nat → Nat → Int32} {L : Nat → Nat → Int64} {sw : Bool} {K : Option Value → ts_H → Prop} {d : Nat} {f : ts_Fl}
theorem x_unlikeTones (hX : RX I f) {m : Int} (hm : -2147483648 ≤ m ∧ m ≤ 2147483647) (hK : K (some (.int (zI (g_tn f m)))) (I, L, ts_P0 sw, ts_S0)) : ts_Cal X (d + 3) 28 [.ref 2, .int (zI (m))] (I, L, ts_P0 sw, ts_S0) K := by
  have loop : ∀ j : Int, 0 ≤ j → j ≤ 16 → ts_Ev X (ts_Cal X (d + 2)) 28 ts_S0 K 4 [.ref 2, .int (zI (m)), .int (zI (zbits (g_ht f m j) 8)), .int (zI (j))] [] (I, L, ts_P0 sw, ts_S0) := by
    refine ts_ind 16 (fun j ih h0 h1 => ?_)
    refine ev_iloadn_3 i28_4 ?_
    refine ew_bipush i28_5 (by decide) ?_
    refine ew_icmpge i28_7 (by omega) (fun c7 => ?_) (fun c7 => ?_)
    · refine ev_iloadn_2 i28_36 ?_
      refine ev_stat1 i28_37 g28_37 (by decide +kernel) (Nat.le_of_ble_eq_true rfl) (x_bitCount ?_)
      refine ev_ireturn i28_40 r28 ?_
      obtain rfl : j = 16 := by omega
      rw [zbits_bc _ (by decide)]
      exact hK
    · refine ev_aloadn_0 i28_10 ?_
      refine ev_iloadn_1 i28_11 ?_
      refine ev_iloadn_3 i28_12 ?_
      refine ev_virt2 i28_13 g28_13 rfl (by decide +kernel) (Nat.le_of_ble_eq_true rfl) (x_canStrikeG hX hm (by omega) ?_)
      first
      | refine ew_ifeqB i28_16 (fun c16 => ?_) (fun c16 => ?_)
      | refine ew_ifeq i28_16 (by omega) (fun c16 => ?_) (fun c16 => ?_)
      · refine ew_iinc_3 i28_30 rfl ?_
        refine ev_goto i28_33 ?_
        have e := ih (by omega) (by omega) (by omega)
        first
          | (rw [zbits_set _ (by omega) (by omega)]
             rw [show zbits (g_ht f m (j + 1)) 8 = zbits (fun k => g_ht f m j k ∨ k = f_tone f j) 8 from zbits_e 8 (fun k k0 k1 => (g_ht_s h0).trans ⟨fun a => a.elim Or.inl (fun b => Or.inr b.2.1.symm), fun a => a.elim Or.inl (fun b => Or.inr ⟨⟨by omega, by omega⟩, b.symm, c16.2.2.2.2⟩)⟩)] at e
             exact e)
          | (rw [show zbits (g_ht f m (j + 1)) 8 = zbits (g_ht f m j) 8 from zbits_e 8 (fun k k0 k1 => (g_ht_s h0).trans ⟨fun a => a.elim id (fun b => absurd ⟨b.1.1, b.1.2, h0, by omega, b.2.2⟩ c16), Or.inl⟩)] at e
             exact e)
      · refine ev_iloadn_2 i28_19 ?_
        refine ew_iconst i28_20 ?_
        refine ev_aloadn_0 i28_21 ?_
        refine ev_getA i28_22 g28_22 rfl rfl (by decide) ?_
        refine ev_iloadn_3 i28_25 ?_
        refine ew_iaload i28_26 rfl (by omega) (by omega) (by omega) (by first | exact hX.men | exact hX.told | exact hX.road | exact hX.tone _ (by omega) (by omega) | exact hX.corn _ (by omega) (by omega) | exact hX.stand _ (by omega) (by omega) | exact hX.reach _ (by omega) (by omega) | exact hX.arm _ (by omega) (by omega) | exact hX.late _ (by omega) (by omega) | exact hX.len _ (by omega) (by omega) | exact hX.say (by omega) (by omega) _ (by omega) (by omega)) (fun b26 => ?_)
        refine ew_ishl i28_27 ?_
        refine ew_ior i28_28 ?_
        refine ev_istoren_2 i28_29 rfl ?_
        refine ew_iinc_3 i28_30 rfl ?_
        refine ev_goto i28_33 ?_
        have e := ih (by omega) (by omega) (by omega)
        first
          | (rw [zbits_set _ (by omega) (by omega)]
             rw [show zbits (g_ht f m (j + 1)) 8 = zbits (fun k => g_ht f m j k ∨ k = f_tone f j) 8 from zbits_e 8 (fun k k0 k1 => (g_ht_s h0).trans ⟨fun a => a.elim Or.inl (fun b => Or.inr b.2.1.symm), fun a => a.elim Or.inl (fun b => Or.inr ⟨⟨by omega, by omega⟩, b.symm, c16.2.2.2.2⟩)⟩)] at e
             exact e)
          | (rw [show zbits (g_ht f m (j + 1)) 8 = zbits (g_ht f m j) 8 from zbits_e 8 (fun k k0 k1 => (g_ht_s h0).trans ⟨fun a => a.elim id (fun b => absurd ⟨b.1.1, b.1.2, h0, by omega, b.2.2⟩ c16), Or.inl⟩)] at e
             exact e)
  refine ev_enter (lv := [.ref 2, .int (zI (m)), .null, .null]) l28 rfl (Nat.le_of_ble_eq_true rfl) ?_
  refine ew_iconst i28_0 ?_
  refine ev_istoren_2 i28_1 rfl ?_
  refine ew_iconst i28_2 ?_
  refine ev_istoren_3 i28_3 rfl ?_
  have e := loop 0 (by decide) (by decide)
  rw [zbits_0 8 _ (fun k k0 k1 => g_ht_0)] at e
  exact e
theorem x_rows (hX : RX I f) {n : Int} (hn : -2147483648 ≤ n ∧ n ≤ 2147483647) (hK : K (some (.long (zL (g_rows f n)))) (I, L, ts_P0 sw, ts_S0)) : ts_Cal X (d + 4) 106 [.ref 1, .int (zI (n))] (I, L, ts_P0 sw, ts_S0) K := by
  have b1 := hX.men.2
  unfold g_rows at hK
  have loop : (0 ≤ n ∧ n ≤ 9) → ∀ b : Int, 0 ≤ b → b ≤ n → ∀ a, zwh n (fun b a => a * (if f_men f = 0 then 0 else g_tn f (b % f_men f))) b a = zwh n (fun b a => a * (if f_men f = 0 then 0 else g_tn f (b % f_men f))) 0 1 → ts_Ev X (ts_Cal X (d + 3)) 106 ts_S0 K 19 [.ref 1, .int (zI (n)), .long (zL (a)), .null, .int (zI (b))] [] (I, L, ts_P0 sw, ts_S0) := by
    intro hn2
    refine ts_ind n (fun b ih h0 h1 a h2 => ?_)
    have hmb : -2147483648 ≤ (if 0 < f_men f ∧ 0 ≤ b then b % f_men f else -2) ∧ (if 0 < f_men f ∧ 0 ≤ b then b % f_men f else -2) ≤ 2147483647 := by
      by_cases c : 0 < f_men f ∧ 0 ≤ b
      · have r1 := Int.emod_nonneg b (show ¬ f_men f = 0 by omega)
        have r2 := Int.emod_lt_of_pos b c.1
        rw [if_pos c]
        omega
      · rw [if_neg c]
        decide
    have tr := g_tn_r f (if 0 < f_men f ∧ 0 ≤ b then b % f_men f else -2)
    refine ev_iload_4 i106_19 ?_
    refine ev_iloadn_1 i106_21 ?_
    refine ew_icmpge i106_22 (by omega) (fun c22 => ?_) (fun c22 => ?_)
    · refine ev_lloadn_2 i106_51 ?_
      refine ev_lreturn i106_52 r106 ?_
      rw [zwh_0 (by omega)] at h2
      rw [if_pos hn2, ← h2] at hK
      exact hK
    · refine ev_lloadn_2 i106_25 ?_
      refine ev_aloadn_0 i106_26 ?_
      refine ev_getA i106_27 g106_27 rfl rfl (by decide) ?_
      refine ev_aloadn_0 i106_30 ?_
      refine ev_getA i106_31 g106_31 rfl rfl (by decide) ?_
      refine ev_iload_4 i106_34 ?_
      refine ev_virt1 i106_36 g106_36 rfl (by decide +kernel) (Nat.le_of_ble_eq_true rfl) (x_manOf hX (by omega) ?_)
      refine ev_virt1 i106_39 g106_39 rfl (by decide +kernel) (Nat.le_of_ble_eq_true rfl) (x_unlikeTones hX hmb ?_)
      refine ew_i2l i106_42 (by omega) ?_
      refine ew_lmul i106_43 ?_
      refine ev_lstoren_2 i106_44 rfl ?_
      refine ew_iinc_4 i106_45 rfl ?_
      refine ev_goto i106_48 ?_
      rw [zwh_1 (by omega)] at h2
      have e : g_tn f (if 0 < f_men f ∧ 0 ≤ b then b % f_men f else -2) = (if f_men f = 0 then 0 else g_tn f (b % f_men f)) := by
        by_cases c : f_men f = 0
        · rw [if_pos c, if_neg (by omega)]
          exact g_tn_no (by omega)
        · rw [if_neg c, if_pos (by omega)]
      rw [e]
      exact ih (by omega) (by omega) (by omega) _ h2
  refine ev_enter (lv := [.ref 1, .int (zI (n)), .null, .null, .null]) l106 rfl (Nat.le_of_ble_eq_true rfl) ?_
  refine ev_iloadn_1 i106_0 ?_
  refine ew_iflt i106_1 (by omega) (fun c1 => ?_) (fun c1 => ?_)
  · refine ew_ldc2_w (z := (-9223372036854775808)) i106_10 g106_10 (by decide) ?_
    refine ev_lreturn i106_13 r106 ?_
    rw [if_neg (by omega)] at hK
    exact hK
  · refine ev_iloadn_1 i106_4 ?_
    refine ew_bipush i106_5 (by decide) ?_
    refine ew_icmple i106_7 (by omega) (fun c7 => ?_) (fun c7 => ?_)
    · refine ew_lconst (z := 1) i106_14 (by decide) ?_
      refine ev_lstoren_2 i106_15 rfl ?_
      refine ew_iconst i106_16 ?_
      refine ev_istore_4 i106_17 rfl ?_
      exact loop (by omega) 0 (by decide) (by omega) 1 rfl
    · refine ew_ldc2_w (z := (-9223372036854775808)) i106_10 g106_10 (by decide) ?_
      refine ev_lreturn i106_13 r106 ?_
      rw [if_neg (by omega)] at hK
      exact hK
theorem m_tonesOf (hM : RM I f) {m : Int} (hm : 0 ≤ m ∧ m < f_men f) (hK : K (some (.int (zI (g_tn f m)))) (I, L, ts_P0 sw, ts_S0)) : ts_Cal X (d + 3) 186 [.ref 72, .int (zI (m))] (I, L, ts_P0 sw, ts_S0) K := by
  have b1 := hM.men.2
  have loop : ∀ t : Int, 0 ≤ t → t ≤ 8 → ∀ o o2, ts_Ev X (ts_Cal X (d + 2)) 186 ts_S0 K 4 [.ref 72, .int (zI (m)), .int (zI (zsum (fun t => if g_ht f m 16 t then 1 else 0) t.toNat)), .int (zI (t)), o, o2] [] (I, L, ts_P0 sw, ts_S0) := by
    refine ts_ind 8 (fun t ih h0 h1 o o2 => ?_)
    have inner : t < 8 → ∀ j : Int, 0 ≤ j → j ≤ 16 → ts_Ev X (ts_Cal X (d + 2)) 186 ts_S0 K 16 [.ref 72, .int (zI (m)), .int (zI (zsum (fun t => if g_ht f m 16 t then 1 else 0) t.toNat)), .int (zI (t)), .int (zI (if g_ht f m j t then 1 else 0)), .int (zI (j))] [] (I, L, ts_P0 sw, ts_S0) := by
      intro ht
      refine ts_ind 16 (fun j ihj k0 k1 => ?_)
      refine ev_iload_5 i186_16 ?_
      refine ew_bipush i186_18 (by decide) ?_
      refine ew_icmpge i186_20 (by omega) (fun c20 => ?_) (fun c20 => ?_)
      · refine ev_iloadn_2 i186_62 ?_
        refine ev_iload_4 i186_63 ?_
        first
        | refine ew_ifeqB i186_65 (fun c65 => ?_) (fun c65 => ?_)
        | refine ew_ifeq i186_65 (by omega) (fun c65 => ?_) (fun c65 => ?_)
        · refine ew_iconst i186_72 ?_
          refine ew_iadd i186_73 ?_
          refine ev_istoren_2 i186_74 rfl ?_
          refine ew_iinc_3 i186_75 rfl ?_
          refine ev_goto i186_78 ?_
          have e := ih (by omega) (by omega) (by omega)
          obtain rfl : j = 16 := by omega
          rw [zsum_s h0] at e
          first
            | (rw [if_pos c65] at e; exact e _ _)
            | (rw [if_neg c65] at e; exact e _ _)
        · refine ew_iconst i186_68 ?_
          refine ev_goto i186_69 ?_
          refine ew_iadd i186_73 ?_
          refine ev_istoren_2 i186_74 rfl ?_
          refine ew_iinc_3 i186_75 rfl ?_
          refine ev_goto i186_78 ?_
          have e := ih (by omega) (by omega) (by omega)
          obtain rfl : j = 16 := by omega
          rw [zsum_s h0] at e
          first
            | (rw [if_pos c65] at e; exact e _ _)
            | (rw [if_neg c65] at e; exact e _ _)
      · refine ev_iload_4 i186_23 ?_
        first
        | refine ew_ifneB i186_25 (fun c25 => ?_) (fun c25 => ?_)
        | refine ew_ifne i186_25 (by omega) (fun c25 => ?_) (fun c25 => ?_)
        · refine ew_iconst i186_49 ?_
          refine ev_goto i186_50 ?_
          refine ev_istore_4 i186_54 rfl ?_
          refine ew_iinc_5 i186_56 rfl ?_
          refine ev_goto i186_59 ?_
          have e := ihj (by omega) (by omega) (by omega)
          first
            | (rw [if_pos ((g_ht_s k0).mpr (Or.inl c25))] at e; exact e)
            | (rw [if_pos ((g_ht_s k0).mpr (Or.inr ⟨hm, by omega, c46⟩))] at e; exact e)
            | (rw [if_neg (fun r => ((g_ht_s k0).mp r).elim c25 (fun q => c46 q.2.2))] at e; exact e)
            | (rw [if_neg (fun r => ((g_ht_s k0).mp r).elim c25 (fun q => c36 q.2.1))] at e; exact e)
        · refine ev_aloadn_0 i186_28 ?_
          refine ev_getA i186_29 g186_29 rfl rfl (by decide) ?_
          refine ev_iload_5 i186_32 ?_
          refine ew_iaload i186_34 rfl (by omega) (by omega) (by omega) (by first | exact hM.men | exact hM.told | exact hM.road | exact hM.stand _ (by omega) (by omega) | exact hM.reach _ (by omega) (by omega) | exact hM.arm _ (by omega) (by omega) | exact hM.late _ (by omega) (by omega) | exact hM.len _ (by omega) (by omega) | exact hM.corn _ (by omega) (by omega) | exact hM.say (by omega) (by omega) _ (by omega) (by omega) | exact hM.tone _ (by omega) (by omega)) (fun b34 => ?_)
          refine ev_iloadn_3 i186_35 ?_
          refine ew_icmpne i186_36 (by omega) (fun c36 => ?_) (fun c36 => ?_)
          · refine ew_iconst i186_53 ?_
            refine ev_istore_4 i186_54 rfl ?_
            refine ew_iinc_5 i186_56 rfl ?_
            refine ev_goto i186_59 ?_
            have e := ihj (by omega) (by omega) (by omega)
            first
              | (rw [if_pos ((g_ht_s k0).mpr (Or.inl c25))] at e; exact e)
              | (rw [if_pos ((g_ht_s k0).mpr (Or.inr ⟨hm, by omega, c46⟩))] at e; exact e)
              | (rw [if_neg (fun r => ((g_ht_s k0).mp r).elim c25 (fun q => c46 q.2.2))] at e; exact e)
              | (rw [if_neg (fun r => ((g_ht_s k0).mp r).elim c25 (fun q => c36 q.2.1))] at e; exact e)
          · refine ev_aloadn_0 i186_39 ?_
            refine ev_iloadn_1 i186_40 ?_
            refine ev_iload_5 i186_41 ?_
            refine ev_virt2 i186_43 g186_43 rfl (by decide +kernel) (Nat.le_of_ble_eq_true rfl) (m_reaches hM (by omega) (by omega) (by omega) (by omega) ?_)
            first
            | refine ew_ifeqB i186_46 (fun c46 => ?_) (fun c46 => ?_)
            | refine ew_ifeq i186_46 (by omega) (fun c46 => ?_) (fun c46 => ?_)
            · refine ew_iconst i186_53 ?_
              refine ev_istore_4 i186_54 rfl ?_
              refine ew_iinc_5 i186_56 rfl ?_
              refine ev_goto i186_59 ?_
              have e := ihj (by omega) (by omega) (by omega)
              first
                | (rw [if_pos ((g_ht_s k0).mpr (Or.inl c25))] at e; exact e)
                | (rw [if_pos ((g_ht_s k0).mpr (Or.inr ⟨hm, by omega, c46⟩))] at e; exact e)
                | (rw [if_neg (fun r => ((g_ht_s k0).mp r).elim c25 (fun q => c46 q.2.2))] at e; exact e)
                | (rw [if_neg (fun r => ((g_ht_s k0).mp r).elim c25 (fun q => c36 q.2.1))] at e; exact e)
            · refine ew_iconst i186_49 ?_
              refine ev_goto i186_50 ?_
              refine ev_istore_4 i186_54 rfl ?_
              refine ew_iinc_5 i186_56 rfl ?_
              refine ev_goto i186_59 ?_
              have e := ihj (by omega) (by omega) (by omega)
              first
                | (rw [if_pos ((g_ht_s k0).mpr (Or.inl c25))] at e; exact e)
                | (rw [if_pos ((g_ht_s k0).mpr (Or.inr ⟨hm, by omega, c46⟩))] at e; exact e)
                | (rw [if_neg (fun r => ((g_ht_s k0).mp r).elim c25 (fun q => c46 q.2.2))] at e; exact e)
                | (rw [if_neg (fun r => ((g_ht_s k0).mp r).elim c25 (fun q => c36 q.2.1))] at e; exact e)
    refine ev_iloadn_3 i186_4 ?_
    refine ew_bipush i186_5 (by decide) ?_
    refine ew_icmpge i186_7 (by omega) (fun c7 => ?_) (fun c7 => ?_)
    · refine ev_iloadn_2 i186_81 ?_
      refine ev_ireturn i186_82 r186 ?_
      obtain rfl : t = 8 := by omega
      exact hK
    · refine ew_iconst i186_10 ?_
      refine ev_istore_4 i186_11 rfl ?_
      refine ew_iconst i186_13 ?_
      refine ev_istore_5 i186_14 rfl ?_
      have e := inner (by omega) 0 (by decide) (by decide)
      rw [if_neg g_ht_0] at e
      exact e
  refine ev_enter (lv := [.ref 72, .int (zI (m)), .null, .null, .null, .null]) l186 rfl (Nat.le_of_ble_eq_true rfl) ?_
  refine ew_iconst i186_0 ?_
  refine ev_istoren_2 i186_1 rfl ?_
  refine ew_iconst i186_2 ?_
  refine ev_istoren_3 i186_3 rfl ?_
  exact loop 0 (by decide) (by decide) _ _
theorem m_rows (hM : RM I f) {n : Int} (hn : -2147483648 ≤ n ∧ n ≤ 2147483647) (hK : K (some (.long (zL (g_rows f n)))) (I, L, ts_P0 sw, ts_S0)) : ts_Cal X (d + 4) 187 [.ref 72, .int (zI (n))] (I, L, ts_P0 sw, ts_S0) K := by
  have b1 := hM.men.2
  unfold g_rows at hK
  have loop : (0 ≤ n ∧ n ≤ 9) → ∀ b : Int, 0 ≤ b → b ≤ n → ∀ a, zwh n (fun b a => a * (if f_men f = 0 then 0 else g_tn f (b % f_men f))) b a = zwh n (fun b a => a * (if f_men f = 0 then 0 else g_tn f (b % f_men f))) 0 1 → ts_Ev X (ts_Cal X (d + 3)) 187 ts_S0 K 21 [.ref 72, .int (zI (n)), .long (zL (a)), .null, .int (zI (b))] [] (I, L, ts_P0 sw, ts_S0) := by
    intro hn2
    refine ts_ind n (fun b ih h0 h1 a h2 => ?_)
    have tr := g_tn_r f (b % f_men f)
    refine ev_iload_4 i187_21 ?_
    refine ev_iloadn_1 i187_23 ?_
    refine ew_icmpge i187_24 (by omega) (fun c24 => ?_) (fun c24 => ?_)
    · refine ev_lloadn_2 i187_59 ?_
      refine ev_lreturn i187_60 r187 ?_
      rw [zwh_0 (by omega)] at h2
      rw [if_pos hn2, ← h2] at hK
      exact hK
    · refine ev_lloadn_2 i187_27 ?_
      refine ev_aloadn_0 i187_28 ?_
      refine ew_getI i187_29 g187_29 rfl (by first | exact hM.men | exact hM.told | exact hM.road | exact hM.stand _ (by omega) (by omega) | exact hM.reach _ (by omega) (by omega) | exact hM.arm _ (by omega) (by omega) | exact hM.late _ (by omega) (by omega) | exact hM.len _ (by omega) (by omega) | exact hM.corn _ (by omega) (by omega) | exact hM.say (by omega) (by omega) _ (by omega) (by omega) | exact hM.tone _ (by omega) (by omega)) (fun b29 => ?_)
      first
      | refine ew_ifneB i187_32 (fun c32 => ?_) (fun c32 => ?_)
      | refine ew_ifne i187_32 (by omega) (fun c32 => ?_) (fun c32 => ?_)
      · refine ev_aloadn_0 i187_39 ?_
        refine ev_iload_4 i187_40 ?_
        refine ev_aloadn_0 i187_42 ?_
        refine ew_getI i187_43 g187_43 rfl (by first | exact hM.men | exact hM.told | exact hM.road | exact hM.stand _ (by omega) (by omega) | exact hM.reach _ (by omega) (by omega) | exact hM.arm _ (by omega) (by omega) | exact hM.late _ (by omega) (by omega) | exact hM.len _ (by omega) (by omega) | exact hM.corn _ (by omega) (by omega) | exact hM.say (by omega) (by omega) _ (by omega) (by omega) | exact hM.tone _ (by omega) (by omega)) (fun b43 => ?_)
        refine ew_iremB i187_46 (by omega) (by omega) (fun r46 => ?_)
        refine ev_virt1 i187_47 g187_47 rfl (by decide +kernel) (Nat.le_of_ble_eq_true rfl) (m_tonesOf hM (by omega) ?_)
        refine ew_i2l i187_50 (by omega) ?_
        refine ew_lmul i187_51 ?_
        refine ev_lstoren_2 i187_52 rfl ?_
        refine ew_iinc_4 i187_53 rfl ?_
        refine ev_goto i187_56 ?_
        rw [zwh_1 (by omega)] at h2
        first
          | (rw [if_pos (by omega)] at h2; exact ih (by omega) (by omega) (by omega) _ h2)
          | (rw [if_neg (by omega)] at h2; exact ih (by omega) (by omega) (by omega) _ h2)
      · refine ew_lconst (z := 0) i187_35 (by decide) ?_
        refine ev_goto i187_36 ?_
        refine ew_lmul i187_51 ?_
        refine ev_lstoren_2 i187_52 rfl ?_
        refine ew_iinc_4 i187_53 rfl ?_
        refine ev_goto i187_56 ?_
        rw [zwh_1 (by omega)] at h2
        first
          | (rw [if_pos (by omega)] at h2; exact ih (by omega) (by omega) (by omega) _ h2)
          | (rw [if_neg (by omega)] at h2; exact ih (by omega) (by omega) (by omega) _ h2)
  refine ev_enter (lv := [.ref 72, .int (zI (n)), .null, .null, .null]) l187 rfl (Nat.le_of_ble_eq_true rfl) ?_
  refine ev_iloadn_1 i187_0 ?_
  refine ew_i2l i187_1 (by omega) ?_
  refine ew_lconst (z := 0) i187_2 (by decide) ?_
  refine ew_ldc2_w (z := (9)) i187_3 g187_3 (by decide) ?_
  refine ev_stat3 i187_6 g187_6 (by decide +kernel) (Nat.le_of_ble_eq_true rfl) (m_within (by omega) (by omega) (by omega) ?_)
  first
  | refine ew_ifneB i187_9 (fun c9 => ?_) (fun c9 => ?_)
  | refine ew_ifne i187_9 (by omega) (fun c9 => ?_) (fun c9 => ?_)
  · refine ew_lconst (z := 1) i187_16 (by decide) ?_
    refine ev_lstoren_2 i187_17 rfl ?_
    refine ew_iconst i187_18 ?_
    refine ev_istore_4 i187_19 rfl ?_
    exact loop (by omega) 0 (by decide) (by omega) 1 rfl
  · refine ew_ldc2_w (z := (-9223372036854775808)) i187_12 g187_12 (by decide) ?_
    refine ev_lreturn i187_15 r187 ?_
    rw [if_neg (by omega)] at hK
    exact hK
end RN
