theorem i31_0 : ts_ins 31 0 = some (.aload_n 0, 1, 0) := by decide +kernel
theorem i31_1 : ts_ins 31 1 = some (.getfield 51, 4, 0) := by decide +kernel
theorem g31_1 : ts_fm 31 51 = some (3, 11, 2) := by decide +kernel
theorem i31_4 : ts_ins 31 4 = some (.astore_n 2, 5, 0) := by decide +kernel
theorem i31_5 : ts_ins 31 5 = some (.aload_n 0, 6, 0) := by decide +kernel
theorem i31_6 : ts_ins 31 6 = some (.aload_n 1, 7, 0) := by decide +kernel
theorem i31_7 : ts_ins 31 7 = some (.putfield 51, 10, 0) := by decide +kernel
theorem g31_7 : ts_fmm 31 51 = some (3, 11, 2, false) := by decide +kernel
theorem i31_10 : ts_ins 31 10 = some (.aload_n 0, 11, 0) := by decide +kernel
theorem i31_11 : ts_ins 31 11 = some (.iconst 1, 12, 0) := by decide +kernel
theorem i31_12 : ts_ins 31 12 = some (.putfield 55, 15, 0) := by decide +kernel
theorem g31_12 : ts_fmm 31 55 = some (3, 12, 1, false) := by decide +kernel
theorem i31_15 : ts_ins 31 15 = some (.aload_n 2, 16, 0) := by decide +kernel
theorem i31_16 : ts_ins 31 16 = some (.areturn, 17, 0) := by decide +kernel
theorem r31 : ts_rt 31 = ((some (.object "ThreshedSound$Law")), 0, 0) := by decide +kernel
theorem l31 : ts_ml 31 = 3 := by decide +kernel
theorem i99_0 : ts_ins 99 0 = some (.aload_n 0, 1, 0) := by decide +kernel
theorem i99_1 : ts_ins 99 1 = some (.getfield 19, 4, 0) := by decide +kernel
theorem g99_1 : ts_fm 99 19 = some (11, 1, 2) := by decide +kernel
theorem i99_4 : ts_ins 99 4 = some (.invokevirtual 138, 7, 0) := by decide +kernel
theorem g99_4 : ts_cal (ts_mc 99) 138 = some (0, 41, 0) := by decide +kernel
theorem i99_7 : ts_ins 99 7 = some (.istore_n 1, 8, 0) := by decide +kernel
theorem i99_8 : ts_ins 99 8 = some (.iload_n 1, 9, 0) := by decide +kernel
theorem i99_9 : ts_ins 99 9 = some (.ifCond .eq 24, 12, 33) := by decide +kernel
theorem i99_12 : ts_ins 99 12 = some (.aload_n 0, 13, 0) := by decide +kernel
theorem i99_13 : ts_ins 99 13 = some (.getfield 19, 16, 0) := by decide +kernel
theorem g99_13 : ts_fm 99 19 = some (11, 1, 2) := by decide +kernel
theorem i99_16 : ts_ins 99 16 = some (.aload_n 0, 17, 0) := by decide +kernel
theorem i99_17 : ts_ins 99 17 = some (.getfield 10, 20, 0) := by decide +kernel
theorem g99_17 : ts_fm 99 10 = some (11, 0, 2) := by decide +kernel
theorem i99_20 : ts_ins 99 20 = some (.aload_n 0, 21, 0) := by decide +kernel
theorem i99_21 : ts_ins 99 21 = some (.getfield 19, 24, 0) := by decide +kernel
theorem g99_21 : ts_fm 99 19 = some (11, 1, 2) := by decide +kernel
theorem i99_24 : ts_ins 99 24 = some (.getfield 142, 27, 0) := by decide +kernel
theorem g99_24 : ts_fm 99 142 = some (5, 3, 2) := by decide +kernel
theorem i99_27 : ts_ins 99 27 = some (.invokevirtual 146, 30, 0) := by decide +kernel
theorem g99_27 : ts_cal (ts_mc 99) 146 = some (0, 31, 1) := by decide +kernel
theorem i99_30 : ts_ins 99 30 = some (.putfield 142, 33, 0) := by decide +kernel
theorem g99_30 : ts_fmm 99 142 = some (5, 3, 2, false) := by decide +kernel
theorem i99_33 : ts_ins 99 33 = some (.aload_n 0, 34, 0) := by decide +kernel
theorem i99_34 : ts_ins 99 34 = some (.getfield 19, 37, 0) := by decide +kernel
theorem g99_34 : ts_fm 99 19 = some (11, 1, 2) := by decide +kernel
theorem i99_37 : ts_ins 99 37 = some (.iconst 0, 38, 0) := by decide +kernel
theorem i99_38 : ts_ins 99 38 = some (.putfield 150, 41, 0) := by decide +kernel
theorem g99_38 : ts_fmm 99 150 = some (5, 1, 0, false) := by decide +kernel
theorem i99_41 : ts_ins 99 41 = some (.iload_n 1, 42, 0) := by decide +kernel
theorem i99_42 : ts_ins 99 42 = some (.ifCond .eq 7, 45, 49) := by decide +kernel
theorem i99_45 : ts_ins 99 45 = some (.iconst 1, 46, 0) := by decide +kernel
theorem i99_46 : ts_ins 99 46 = some (.goto 13, 49, 59) := by decide +kernel
theorem i99_49 : ts_ins 99 49 = some (.bipush (-100), 51, 0) := by decide +kernel
theorem i99_51 : ts_ins 99 51 = some (.aload_n 0, 52, 0) := by decide +kernel
theorem i99_52 : ts_ins 99 52 = some (.getfield 19, 55, 0) := by decide +kernel
theorem g99_52 : ts_fm 99 19 = some (11, 1, 2) := by decide +kernel
theorem i99_55 : ts_ins 99 55 = some (.getfield 154, 58, 0) := by decide +kernel
theorem g99_55 : ts_fm 99 154 = some (5, 2, 0) := by decide +kernel
theorem i99_58 : ts_ins 99 58 = some (.isub, 59, 0) := by decide +kernel
theorem i99_59 : ts_ins 99 59 = some (.ireturn, 60, 0) := by decide +kernel
theorem r99 : ts_rt 99 = ((some .int), 0, 0) := by decide +kernel
theorem l99 : ts_ml 99 = 2 := by decide +kernel
theorem i171_0 : ts_ins 171 0 = some (.aload_n 0, 1, 0) := by decide +kernel
theorem i171_1 : ts_ins 171 1 = some (.iconst (-1), 2, 0) := by decide +kernel
theorem i171_2 : ts_ins 171 2 = some (.aload_n 0, 3, 0) := by decide +kernel
theorem i171_3 : ts_ins 171 3 = some (.getfield 146, 6, 0) := by decide +kernel
theorem g171_3 : ts_fm 171 146 = some (12, 10, 0) := by decide +kernel
theorem i171_6 : ts_ins 171 6 = some (.invokevirtual 195, 9, 0) := by decide +kernel
theorem g171_6 : ts_cal (ts_mc 171) 195 = some (0, 170, 2) := by decide +kernel
theorem i171_9 : ts_ins 171 9 = some (.istore_n 1, 10, 0) := by decide +kernel
theorem i171_10 : ts_ins 171 10 = some (.aload_n 0, 11, 0) := by decide +kernel
theorem i171_11 : ts_ins 171 11 = some (.getfield 146, 14, 0) := by decide +kernel
theorem g171_11 : ts_fm 171 146 = some (12, 10, 0) := by decide +kernel
theorem i171_14 : ts_ins 171 14 = some (.istore_n 2, 15, 0) := by decide +kernel
theorem i171_15 : ts_ins 171 15 = some (.aload_n 0, 16, 0) := by decide +kernel
theorem i171_16 : ts_ins 171 16 = some (.iconst 0, 17, 0) := by decide +kernel
theorem i171_17 : ts_ins 171 17 = some (.putfield 146, 20, 0) := by decide +kernel
theorem g171_17 : ts_fmm 171 146 = some (12, 10, 0, false) := by decide +kernel
theorem i171_20 : ts_ins 171 20 = some (.aload_n 0, 21, 0) := by decide +kernel
theorem i171_21 : ts_ins 171 21 = some (.getfield 158, 24, 0) := by decide +kernel
theorem g171_21 : ts_fm 171 158 = some (12, 16, 0) := by decide +kernel
theorem i171_24 : ts_ins 171 24 = some (.ifCond .lt 11, 27, 35) := by decide +kernel
theorem i171_27 : ts_ins 171 27 = some (.bipush (-100), 29, 0) := by decide +kernel
theorem i171_29 : ts_ins 171 29 = some (.aload_n 0, 30, 0) := by decide +kernel
theorem i171_30 : ts_ins 171 30 = some (.getfield 158, 33, 0) := by decide +kernel
theorem g171_30 : ts_fm 171 158 = some (12, 16, 0) := by decide +kernel
theorem i171_33 : ts_ins 171 33 = some (.isub, 34, 0) := by decide +kernel
theorem i171_34 : ts_ins 171 34 = some (.ireturn, 35, 0) := by decide +kernel
theorem i171_35 : ts_ins 171 35 = some (.iconst 0, 36, 0) := by decide +kernel
theorem i171_36 : ts_ins 171 36 = some (.istore_n 3, 37, 0) := by decide +kernel
theorem i171_37 : ts_ins 171 37 = some (.iload_n 3, 38, 0) := by decide +kernel
theorem i171_38 : ts_ins 171 38 = some (.iload_n 2, 39, 0) := by decide +kernel
theorem i171_39 : ts_ins 171 39 = some (.if_icmp .ge 21, 42, 60) := by decide +kernel
theorem i171_42 : ts_ins 171 42 = some (.aload_n 0, 43, 0) := by decide +kernel
theorem i171_43 : ts_ins 171 43 = some (.getfield 28, 46, 0) := by decide +kernel
theorem g171_43 : ts_fm 171 28 = some (12, 11, 2) := by decide +kernel
theorem i171_46 : ts_ins 171 46 = some (.iload_n 3, 47, 0) := by decide +kernel
theorem i171_47 : ts_ins 171 47 = some (.aload_n 0, 48, 0) := by decide +kernel
theorem i171_48 : ts_ins 171 48 = some (.getfield 25, 51, 0) := by decide +kernel
theorem g171_48 : ts_fm 171 25 = some (12, 9, 2) := by decide +kernel
theorem i171_51 : ts_ins 171 51 = some (.iload_n 3, 52, 0) := by decide +kernel
theorem i171_52 : ts_ins 171 52 = some (.iaload, 53, 0) := by decide +kernel
theorem i171_53 : ts_ins 171 53 = some (.iastore, 54, 0) := by decide +kernel
theorem i171_54 : ts_ins 171 54 = some (.iinc 3 1, 57, 0) := by decide +kernel
theorem i171_57 : ts_ins 171 57 = some (.goto (-20), 60, 37) := by decide +kernel
theorem i171_60 : ts_ins 171 60 = some (.aload_n 0, 61, 0) := by decide +kernel
theorem i171_61 : ts_ins 171 61 = some (.iload_n 2, 62, 0) := by decide +kernel
theorem i171_62 : ts_ins 171 62 = some (.putfield 83, 65, 0) := by decide +kernel
theorem g171_62 : ts_fmm 171 83 = some (12, 12, 0, false) := by decide +kernel
theorem i171_65 : ts_ins 171 65 = some (.iconst 1, 66, 0) := by decide +kernel
theorem i171_66 : ts_ins 171 66 = some (.ireturn, 67, 0) := by decide +kernel
theorem r171 : ts_rt 171 = ((some .int), 0, 0) := by decide +kernel
theorem l171 : ts_ml 171 = 4 := by decide +kernel
/-! LAW: both sides -/
abbrev fxw : Nat → Nat → Prop := fun a k => (a = 24 ∧ (k = 1 ∨ k = 2)) ∨ (19 ≤ a ∧ a ≤ 21) ∨ (26 ≤ a ∧ a ≤ 28) ∨ (a = 2 ∧ k = 12)
abbrev fmw : Nat → Nat → Prop := fun a k => (a = 72 ∧ (k = 10 ∨ k = 12 ∨ (13 ≤ k ∧ k ≤ 17))) ∨ a = 79
theorem rule_not (sw : Bool) : ts_rule (!sw) = ts_into sw := by cases sw <;> rfl
theorem rule_i (sw : Bool) : (ts_rule sw = 19 ∧ ts_into sw = 26) ∨ (ts_rule sw = 26 ∧ ts_into sw = 19) := by cases sw <;> decide
theorem swap_P (sw : Bool) : ts_ps (ts_ps (ts_P0 sw) 2 11 (ts_into sw)) 24 3 (ts_rule sw) = ts_P0 (!sw) := by cases sw <;> rfl
section LW
variable {X : ts_X} {I J : Nat → Nat → Int32} {L : Nat → Nat → Int64} {sw : Bool} {K : Option Value → ts_H → Prop} {d E : Nat} {n p q s m : Int} {tx st op : Int → Int} {v : (Int → Int) → Int} {f : ts_Fl} {w : ts_Lw} {t : ts_Ta}
/-- the steps of a text, run -/
theorem PX_of (hm : 0 ≤ m ∧ m ≤ 128) (h : ∀ (X : ts_X) (I : Nat → Nat → Int32) (L : Nat → Nat → Int64) (sw : Bool) (K : Option Value → ts_H → Prop) (d cc : Nat) (ST OP N : Int → Int) (a1 a2 a3 a4 a5 a6 : Int), (cc = 19 ∨ cc = 26) → WX I cc m ST OP N → (∀ k, 0 ≤ k → k < m → ST k = st k ∧ OP k = op k) → (∀ J, fr (fz3 cc) I J → K (some (.int (zI (v N)))) (J, L, ts_P0 sw, ts_S0)) → ∀ o, ts_Ev X (ts_Cal X (d + 1)) 36 ts_S0 K 51 [.ref cc, .int (zI (a1)), .int (zI (a2)), .int (zI (a3)), .int (zI (a4)), .int (zI (a5)), .int (zI (a6)), .int (zI (0)), .int (zI (0)), o] [] (I, L, ts_P0 sw, ts_S0)) : PX v m st op := by
  intro X I L sw K d c t cn r mm a b hc h1 h2 h3 t0 c0 r0 m0 a0 b0 hK
  have go : ∀ J, fr (fun a _ => a = c + 4) I J → ar J (c + 4) 6 (-2147483648) 2147483647 (nm t cn r mm a b) → ∀ o, ts_Ev X (ts_Cal X (d + 1)) 36 ts_S0 K 51 [.ref c, .int (zI (t)), .int (zI (cn)), .int (zI (r)), .int (zI (mm)), .int (zI (a)), .int (zI (b)), .int (zI (0)), .int (zI (0)), o] [] (J, L, ts_P0 sw, ts_S0) := by
    intro J hJ hN o
    have eJ : ∀ x, ¬ x = c + 4 → J x = I x := fun x hx => fr_row hJ (fun k => hx)
    exact h X J L sw K d c st op (nm t cn r mm a b) t cn r mm a b hc ⟨by rw [eJ c (by omega)]; exact h1, ar_co h2 (eJ _ (by omega)), ar_co h3 (eJ _ (by omega)), hN⟩ (fun k _ _ => ⟨rfl, rfl⟩) (fun M hM => hK M (fr_tr (fr_mo hJ (fun x k q => Or.inr q)) (fr_mo hM (fun x k q => Or.inl q)))) o
  rcases hc with rfl | rfl
  · refine ev_enter (lv := [.ref 19, .int (zI (t)), .int (zI (cn)), .int (zI (r)), .int (zI (mm)), .int (zI (a)), .int (zI (b)), .null, .null, .null]) l36 rfl (Nat.le_of_ble_eq_true rfl) ?_
    refine ev_aloadn_0 i36_0 ?_
    refine ev_getA i36_1 g36_1 rfl rfl (by decide) ?_
    refine ew_iconst i36_4 ?_
    refine ev_iloadn_1 i36_5 ?_
    refine ew_iastore i36_6 rfl (by omega) (by omega) (by omega) ?_
    refine ev_aloadn_0 i36_7 ?_
    refine ev_getA i36_8 g36_8 rfl rfl (by decide) ?_
    refine ew_iconst i36_11 ?_
    refine ev_iloadn_2 i36_12 ?_
    refine ew_iastore i36_13 rfl (by omega) (by omega) (by omega) ?_
    refine ev_aloadn_0 i36_14 ?_
    refine ev_getA i36_15 g36_15 rfl rfl (by decide) ?_
    refine ew_iconst i36_18 ?_
    refine ev_iloadn_3 i36_19 ?_
    refine ew_iastore i36_20 rfl (by omega) (by omega) (by omega) ?_
    refine ev_aloadn_0 i36_21 ?_
    refine ev_getA i36_22 g36_22 rfl rfl (by decide) ?_
    refine ew_iconst i36_25 ?_
    refine ev_iload_4 i36_26 ?_
    refine ew_iastore i36_28 rfl (by omega) (by omega) (by omega) ?_
    refine ev_aloadn_0 i36_29 ?_
    refine ev_getA i36_30 g36_30 rfl rfl (by decide) ?_
    refine ew_iconst i36_33 ?_
    refine ev_iload_5 i36_34 ?_
    refine ew_iastore i36_36 rfl (by omega) (by omega) (by omega) ?_
    refine ev_aloadn_0 i36_37 ?_
    refine ev_getA i36_38 g36_38 rfl rfl (by decide) ?_
    refine ew_iconst i36_41 ?_
    refine ev_iload_6 i36_42 ?_
    refine ew_iastore i36_44 rfl (by omega) (by omega) (by omega) ?_
    refine ew_iconst i36_45 ?_
    refine ev_istore_7 i36_46 rfl ?_
    refine ew_iconst i36_48 ?_
    refine ev_istore_8 i36_49 rfl ?_
    refine go _ (fr_up (fr_up (fr_up (fr_up (fr_up (fr_up (fr_rfl _ _) rfl) rfl) rfl) rfl) rfl) rfl) (fun i i0 i1 => ?_) _
    rcases (show i = 0 ∨ i = 1 ∨ i = 2 ∨ i = 3 ∨ i = 4 ∨ i = 5 by omega) with rfl | rfl | rfl | rfl | rfl | rfl
    · exact rd_zI (v := t) (by omega)
    · exact rd_zI (v := cn) (by omega)
    · exact rd_zI (v := r) (by omega)
    · exact rd_zI (v := mm) (by omega)
    · exact rd_zI (v := a) (by omega)
    · exact rd_zI (v := b) (by omega)
  · refine ev_enter (lv := [.ref 26, .int (zI (t)), .int (zI (cn)), .int (zI (r)), .int (zI (mm)), .int (zI (a)), .int (zI (b)), .null, .null, .null]) l36 rfl (Nat.le_of_ble_eq_true rfl) ?_
    refine ev_aloadn_0 i36_0 ?_
    refine ev_getA i36_1 g36_1 rfl rfl (by decide) ?_
    refine ew_iconst i36_4 ?_
    refine ev_iloadn_1 i36_5 ?_
    refine ew_iastore i36_6 rfl (by omega) (by omega) (by omega) ?_
    refine ev_aloadn_0 i36_7 ?_
    refine ev_getA i36_8 g36_8 rfl rfl (by decide) ?_
    refine ew_iconst i36_11 ?_
    refine ev_iloadn_2 i36_12 ?_
    refine ew_iastore i36_13 rfl (by omega) (by omega) (by omega) ?_
    refine ev_aloadn_0 i36_14 ?_
    refine ev_getA i36_15 g36_15 rfl rfl (by decide) ?_
    refine ew_iconst i36_18 ?_
    refine ev_iloadn_3 i36_19 ?_
    refine ew_iastore i36_20 rfl (by omega) (by omega) (by omega) ?_
    refine ev_aloadn_0 i36_21 ?_
    refine ev_getA i36_22 g36_22 rfl rfl (by decide) ?_
    refine ew_iconst i36_25 ?_
    refine ev_iload_4 i36_26 ?_
    refine ew_iastore i36_28 rfl (by omega) (by omega) (by omega) ?_
    refine ev_aloadn_0 i36_29 ?_
    refine ev_getA i36_30 g36_30 rfl rfl (by decide) ?_
    refine ew_iconst i36_33 ?_
    refine ev_iload_5 i36_34 ?_
    refine ew_iastore i36_36 rfl (by omega) (by omega) (by omega) ?_
    refine ev_aloadn_0 i36_37 ?_
    refine ev_getA i36_38 g36_38 rfl rfl (by decide) ?_
    refine ew_iconst i36_41 ?_
    refine ev_iload_6 i36_42 ?_
    refine ew_iastore i36_44 rfl (by omega) (by omega) (by omega) ?_
    refine ew_iconst i36_45 ?_
    refine ev_istore_7 i36_46 rfl ?_
    refine ew_iconst i36_48 ?_
    refine ev_istore_8 i36_49 rfl ?_
    refine go _ (fr_up (fr_up (fr_up (fr_up (fr_up (fr_up (fr_rfl _ _) rfl) rfl) rfl) rfl) rfl) rfl) (fun i i0 i1 => ?_) _
    rcases (show i = 0 ∨ i = 1 ∨ i = 2 ∨ i = 3 ∨ i = 4 ∨ i = 5 by omega) with rfl | rfl | rfl | rfl | rfl | rfl
    · exact rd_zI (v := t) (by omega)
    · exact rd_zI (v := cn) (by omega)
    · exact rd_zI (v := r) (by omega)
    · exact rd_zI (v := mm) (by omega)
    · exact rd_zI (v := a) (by omega)
    · exact rd_zI (v := b) (by omega)
/-- the reference's loop over lines, from a call -/
theorem m_wo {Q : Option Value → ts_H → Prop} {b : Int} {tc : Nat} {N : Int → Int} (hn : 0 ≤ n ∧ n ≤ 120) (hb : (b = -1 ∧ tc = 78) ∨ (b = 0 ∧ tc = 79)) (ht : ar I tc n 0 255 tx) (hN : ar I 80 6 (-2147483648) 2147483647 N) (h : ∀ J, fr frw I J → SM J b tc n tx 0 0 N → ∀ o6 o7, ts_Ev X (ts_Cal X (d + 79)) 170 ts_S0 Q 33 [.ref 72, .int (zI (b)), .int (zI (n)), .int (zI (0)), .int (zI (0)), .int (zI (1)), o6, o7] [] (J, L, ts_P0 sw, ts_S0)) : ts_Cal X (d + 80) 170 [.ref 72, .int (zI (b)), .int (zI (n))] (I, L, ts_P0 sw, ts_S0) Q := by
  refine ev_enter (lv := [.ref 72, .int (zI (b)), .int (zI (n)), .null, .null, .null, .null, .null]) l170 rfl (Nat.le_of_ble_eq_true rfl) ?_
  refine ev_aloadn_0 i170_0 ?_
  refine ev_iloadn_1 i170_1 ?_
  refine ev_putI i170_2 g170_2 rfl ?_
  refine ev_aloadn_0 i170_5 ?_
  refine ew_iconst i170_6 ?_
  refine ev_putI i170_7 g170_7 rfl ?_
  refine ev_aloadn_0 i170_10 ?_
  refine ev_iloadn_2 i170_11 ?_
  refine ev_putI i170_12 g170_12 rfl ?_
  refine ev_aloadn_0 i170_15 ?_
  refine ew_iconst i170_16 ?_
  refine ev_putI i170_17 g170_17 rfl ?_
  refine ev_aloadn_0 i170_20 ?_
  refine ew_iconst i170_21 ?_
  refine ev_putI i170_22 g170_22 rfl ?_
  refine ew_iconst i170_25 ?_
  refine ev_istoren_3 i170_26 rfl ?_
  refine ew_iconst i170_27 ?_
  refine ev_istore_4 i170_28 rfl ?_
  refine ew_iconst i170_30 ?_
  refine ev_istore_5 i170_31 rfl ?_
  refine h _ (fr_up (fr_up (fr_up (fr_up (fr_up (fr_rfl _ _) ⟨rfl, by decide, by decide⟩) ⟨rfl, by decide, by decide⟩) ⟨rfl, by decide, by decide⟩) ⟨rfl, by decide, by decide⟩) ⟨rfl, by decide, by decide⟩) ⟨⟨hn, hb, ?_, ?_, ar_co ht ?_, ?_⟩, ?_, ?_, ar_co hN ?_⟩ _ _
  · exact rd_zI (v := b) (by omega)
  · exact rd_zI (v := n) (by omega)
  · rw [ts_up_na (by omega), ts_up_na (by omega), ts_up_na (by omega), ts_up_na (by omega), ts_up_na (by omega)]
  · exact rd_zI (v := 0) (by decide)
  · exact rd_zI (v := -1) (by decide)
  · exact rd_zI (v := 0) (by decide)
  · rfl
/-- what a text is: its law, or its fault -/
def LAWS (n : Int) (tx : Int → Int) : Prop :=
  (∃ (m : Int) (st op : Int → Int) (v : (Int → Int) → Int), (0 ≤ m ∧ m ≤ 128) ∧ (∀ N, -2147483648 ≤ v N ∧ v N ≤ 2147483647) ∧
    (∀ (X : ts_X) (d : Nat) (I : Nat → Nat → Int32) (L : Nat → Nat → Int64) (sw : Bool) (K : Option Value → ts_H → Prop), rd (I 24 1) 0 120 n → ar I 25 n 0 255 tx → (∀ J, fr (fzr sw) I J → rd (J (ts_into sw) 4) 0 128 m → ar J (ts_into sw + 1) m 0 255 st → ar J (ts_into sw + 2) m 0 9999 op → K (some (.int (zI (1)))) (J, L, ts_P0 sw, ts_S0)) → ts_Cal X (d + 80) 41 [.ref 24] (I, L, ts_P0 sw, ts_S0) K) ∧
    (∀ (X : ts_X) (d : Nat) (I : Nat → Nat → Int32) (L : Nat → Nat → Int64) (sw : Bool) (K : Option Value → ts_H → Prop) (N : Int → Int) (b : Int) (tc : Nat), ((b = -1 ∧ tc = 78) ∨ (b = 0 ∧ tc = 79)) → ar I tc n 0 255 tx → ar I 80 6 (-2147483648) 2147483647 N → (∀ J, fr frw I J → rd (J 72 16) (-1) (-1) (-1) → K (some (.int (zI (v N)))) (J, L, ts_P0 sw, ts_S0)) → ts_Cal X (d + 80) 170 [.ref 72, .int (zI (b)), .int (zI (n))] (I, L, ts_P0 sw, ts_S0) K) ∧ PX v m st op)
  ∨ (∃ q : Int, (0 ≤ q ∧ q ≤ n) ∧
    (∀ (X : ts_X) (d : Nat) (I : Nat → Nat → Int32) (L : Nat → Nat → Int64) (sw : Bool) (K : Option Value → ts_H → Prop), rd (I 24 1) 0 120 n → ar I 25 n 0 255 tx → (∀ J, fr (fzr sw) I J → rd (J 24 2) 0 120 q → K (some (.int (zI (0)))) (J, L, ts_P0 sw, ts_S0)) → ts_Cal X (d + 80) 41 [.ref 24] (I, L, ts_P0 sw, ts_S0) K) ∧
    (∀ (X : ts_X) (d : Nat) (I : Nat → Nat → Int32) (L : Nat → Nat → Int64) (sw : Bool) (K : Option Value → ts_H → Prop) (N : Int → Int) (b : Int) (tc : Nat), ((b = -1 ∧ tc = 78) ∨ (b = 0 ∧ tc = 79)) → ar I tc n 0 255 tx → ar I 80 6 (-2147483648) 2147483647 N → (∀ J r, fr frw I J → rd (J 72 16) 0 120 q → -2147483648 ≤ r ∧ r ≤ 2147483647 → K (some (.int (zI (r)))) (J, L, ts_P0 sw, ts_S0)) → ts_Cal X (d + 80) 170 [.ref 72, .int (zI (b)), .int (zI (n))] (I, L, ts_P0 sw, ts_S0) K))
theorem x_rt {Q : Option Value → ts_H → Prop} (hn : 0 ≤ n ∧ n ≤ 120) (hl : rd (I 24 1) 0 120 n) (ht : ar I 25 n 0 255 tx) (h : ∀ J, fr (fzr sw) I J → SX J sw n tx 0 0 (fun _ => 0) (fun _ => 0) → ts_Ev X (ts_Cal X (d + 79)) 41 ts_S0 Q 15 [.ref 24, .int (zI (0))] [] (J, L, ts_P0 sw, ts_S0)) : ts_Cal X (d + 80) 41 [.ref 24] (I, L, ts_P0 sw, ts_S0) Q := by
  have c := into_c sw
  refine ev_enter (lv := [.ref 24, .null]) l41 rfl (Nat.le_of_ble_eq_true rfl) ?_
  refine ev_aloadn_0 i41_0 ?_
  refine ev_getA i41_1 g41_1 rfl (into_Q sw) (ts_into_ne _) ?_
  refine ew_iconst i41_4 ?_
  refine ev_putI i41_5 g41_5 (into_I sw) ?_
  refine ev_aloadn_0 i41_8 ?_
  refine ew_iconst i41_9 ?_
  refine ev_putI i41_10 g41_10 rfl ?_
  refine ew_iconst i41_13 ?_
  refine ev_istoren_1 i41_14 rfl ?_
  refine h _ (fr_up (fr_up (fr_rfl _ _) (Or.inr (Or.inl ⟨rfl, rfl⟩))) (Or.inl ⟨rfl, rfl⟩)) ⟨hn, ?_, ar_co ht ?_, ?_, ?_, fun k k0 k1 => by omega, fun k k0 k1 => by omega⟩
  · rw [ts_up_nj (by decide), ts_up_na (by omega)]; exact hl
  · rw [ts_up_na (by decide), ts_up_na (by omega)]
  · rw [ts_up_e]; exact rd_zI (by decide)
  · rw [ts_up_na (by omega), ts_up_e]; exact rd_zI (by decide)
theorem J_laws (hn : 0 ≤ n ∧ n ≤ 120) : LAWS n tx := by
  rcases J_text hn (tx := tx) 0 0 0 (fun _ => 0) (fun _ => 0) (by decide) (by decide) hn.1 (by decide) (by decide) with ⟨m, st, op, v, g1, g2, g3, gx, gm, gr⟩ | ⟨q, g1, gx, gm⟩
  · refine Or.inl ⟨m, st, op, v, by omega, g3, ?_, ?_, PX_of (by omega) (fun X I L sw K d cc ST OP N a1 a2 a3 a4 a5 a6 hc hW he hK o => gr X I L sw K d cc ST OP N a1 a2 a3 a4 a5 a6 hc hW he hK o)⟩
    · intro X d I L sw K hl ht hK
      exact x_rt hn hl ht (fun J hJ hSJ => gx X (d + 78) J L sw K 0 (by omega) (by decide) (by decide) hSJ (fun M hM hSM => hK M (fr_tr hJ hM) hSM.size hSM.sts hSM.ops))
    · intro X d I L sw K N b tc hb ht hN hK
      exact m_wo hn hb ht hN (fun J hJ hSJ o6 o7 => gm X (d + 78) J L sw K N b tc b n 0 0 o6 o7 (by omega) (Or.inl ⟨rfl, rfl⟩) (by decide) hSJ (fun M hM hSM => hK M (fr_tr hJ hM) hSM.2.1))
  · refine Or.inr ⟨q, g1, ?_, ?_⟩
    · intro X d I L sw K hl ht hK
      exact x_rt hn hl ht (fun J hJ hSJ => gx X (d + 78) J L sw K 0 (by omega) (by decide) (by decide) hSJ (fun M hM hSM => hK M (fr_tr hJ hM) hSM))
    · intro X d I L sw K N b tc hb ht hN hK
      exact m_wo hn hb ht hN (fun J hJ hSJ o6 o7 => gm X (d + 78) J L sw K N b tc b n 0 0 o6 o7 (by omega) (Or.inl ⟨rfl, rfl⟩) (by decide) hSJ (fun M r hM hSM hr => hK M r (fr_tr hJ hM) hSM.2 hr))
theorem x_exchange {Q : Option Value → ts_H → Prop} (hK : Q (some (.ref (ts_rule sw))) (ts_up I 2 12 (zI 1), L, ts_ps (ts_P0 sw) 2 11 (ts_into sw), ts_S0)) : ts_Cal X (d + 1) 31 [.ref 2, .ref (ts_into sw)] (I, L, ts_P0 sw, ts_S0) Q := by
  have c := into_c sw
  have c2 := rule_c sw
  refine ev_enter (lv := [.ref 2, .ref (ts_into sw), .null]) l31 rfl (Nat.le_of_ble_eq_true rfl) ?_
  refine ev_aloadn_0 i31_0 ?_
  refine ev_getA i31_1 g31_1 rfl rfl (ts_rule_ne _) ?_
  refine ev_astoren_2 i31_4 rfl ?_
  refine ev_aloadn_0 i31_5 ?_
  refine ev_aloadn_1 i31_6 ?_
  refine ev_putA i31_7 g31_7 rfl rfl (ts_into_ne _) (by omega) rfl ?_
  refine ev_aloadn_0 i31_10 ?_
  refine ew_iconst i31_11 ?_
  refine ev_putZ i31_12 g31_12 rfl (Or.inr rfl) ?_
  refine ev_aloadn_2 i31_15 ?_
  refine ev_areturn i31_16 r31 (by first | exact Or.inl ⟨_, rfl⟩ | exact Or.inr ⟨_, rfl⟩) (by omega) ?_
  exact hK
/-- law: the tape is a law, v; or it has a fault, q -/
theorem law_both (t : ts_Ta) (ht : 0 ≤ t.1 ∧ t.1 ≤ 120) :
    (∃ v : (Int → Int) → Int, (∀ N, -2147483648 ≤ v N ∧ v N ≤ 2147483647) ∧
      (∀ (X : ts_X) (d : Nat) (I : Nat → Nat → Int32) (L : Nat → Nat → Int64) (sw : Bool) (K : Option Value → ts_H → Prop), RXt I t → (∀ J, fr fxw I J → RXt J (0, t.2) → RXw J (!sw) (1, v) → K (some (.int (zI (1)))) (J, L, ts_P0 (!sw), ts_S0)) → ts_Cal X (d + 81) 99 [.ref 1] (I, L, ts_P0 sw, ts_S0) K) ∧
      (∀ (X : ts_X) (d : Nat) (I : Nat → Nat → Int32) (L : Nat → Nat → Int64) (sw : Bool) (K : Option Value → ts_H → Prop), RMt I t → (∀ J, fr fmw I J → RMt J (0, t.2) → RMw J (1, v) → K (some (.int (zI (1)))) (J, L, ts_P0 sw, ts_S0)) → ts_Cal X (d + 81) 171 [.ref 72] (I, L, ts_P0 sw, ts_S0) K))
    ∨ (∃ q : Int, (0 ≤ q ∧ q ≤ 120) ∧
      (∀ (X : ts_X) (d : Nat) (I : Nat → Nat → Int32) (L : Nat → Nat → Int64) (sw : Bool) (w : ts_Lw) (K : Option Value → ts_H → Prop), RXt I t → RXw I sw w → (∀ J, fr fxw I J → RXt J (0, t.2) → RXw J sw w → K (some (.int (zI (-100 - q)))) (J, L, ts_P0 sw, ts_S0)) → ts_Cal X (d + 81) 99 [.ref 1] (I, L, ts_P0 sw, ts_S0) K) ∧
      (∀ (X : ts_X) (d : Nat) (I : Nat → Nat → Int32) (L : Nat → Nat → Int64) (sw : Bool) (w : ts_Lw) (K : Option Value → ts_H → Prop), RMt I t → RMw I w → (∀ J, fr fmw I J → RMt J (0, t.2) → RMw J w → K (some (.int (zI (-100 - q)))) (J, L, ts_P0 sw, ts_S0)) → ts_Cal X (d + 81) 171 [.ref 72] (I, L, ts_P0 sw, ts_S0) K)) := by
  have sub : ∀ {I : Nat → Nat → Int32} {a : Nat}, ar I a 120 0 255 t.2 → ar I a t.1 0 255 t.2 := fun h p p0 p1 => h p p0 (by omega)
  rcases J_laws (n := t.1) (tx := t.2) ht with ⟨m, st, op, v, hm, hv, hx, hr, hP⟩ | ⟨q, hq, hx, hr⟩
  · refine Or.inl ⟨v, hv, ?_, ?_⟩
    · intro X d I L sw K hT hK
      have c := into_c sw
      have ci := rule_i sw
      refine ev_enter (lv := [.ref 1, .null]) l99 rfl (Nat.le_of_ble_eq_true rfl) ?_
      refine ev_aloadn_0 i99_0 ?_
      refine ev_getA i99_1 g99_1 rfl rfl (by decide) ?_
      refine ev_virt0 i99_4 g99_4 rfl (by decide +kernel) (Nat.le_of_ble_eq_true rfl) (hx X d _ L sw _ hT.1 (sub hT.2) (fun J h1 h2 h3 h4 => ?_))
      refine ev_istoren_1 i99_7 rfl ?_
      refine ev_iloadn_1 i99_8 ?_
      refine ew_ifeq i99_9 (by omega) (fun c9 => ?_) (fun c9 => ?_)
      · exfalso; omega
      · refine ev_aloadn_0 i99_12 ?_
        refine ev_getA i99_13 g99_13 rfl rfl (by decide) ?_
        refine ev_aloadn_0 i99_16 ?_
        refine ev_getA i99_17 g99_17 rfl rfl (by decide) ?_
        refine ev_aloadn_0 i99_20 ?_
        refine ev_getA i99_21 g99_21 rfl rfl (by decide) ?_
        refine ev_getA i99_24 g99_24 rfl (into_Q sw) (ts_into_ne _) ?_
        refine ev_virt1 i99_27 g99_27 rfl (by decide +kernel) (Nat.le_of_ble_eq_true rfl) (x_exchange ?_)
        refine ev_putA i99_30 g99_30 rfl (by cases sw <;> rfl) (ts_rule_ne _) (by have := rule_c sw; omega) (swap_P sw) ?_
        refine ev_aloadn_0 i99_33 ?_
        refine ev_getA i99_34 g99_34 rfl rfl (by decide) ?_
        refine ew_iconst i99_37 ?_
        refine ev_putI i99_38 g99_38 rfl ?_
        refine ev_iloadn_1 i99_41 ?_
        first
        | refine ew_ifeqB i99_42 (fun c42 => ?_) (fun c42 => ?_)
        | refine ew_ifeq i99_42 (by omega) (fun c42 => ?_) (fun c42 => ?_)
        · exfalso; omega
        · refine ew_iconst i99_45 ?_
          refine ev_goto i99_46 ?_
          refine ev_ireturn i99_59 r99 ?_
          refine hK _ (fr_up (fr_up (fr_mo h1 (fun a k q => by omega)) (by omega)) (by omega)) ⟨?_, ar_co hT.2 ?_⟩ ⟨?_, fun _ => ⟨m, st, op, hP, ?_, ?_, ?_⟩⟩
          · rw [ts_up_e]; exact rd_zI (by decide)
          · rw [ts_up_na (by decide), ts_up_na (by decide)]; exact fr_row h1 (fun k => by omega)
          · rw [ts_up_na (by decide), ts_up_e]; exact rd_zI (by decide)
          · rw [rule_not, ts_up_na (by omega), ts_up_na (by omega)]; exact h2
          · rw [rule_not]; exact ar_co h3 (by rw [ts_up_na (by omega), ts_up_na (by omega)])
          · rw [rule_not]; exact ar_co h4 (by rw [ts_up_na (by omega), ts_up_na (by omega)])
    · intro X d I L sw K hT hK
      have b1 := hT.1.2
      have hN : ar I 80 6 (-2147483648) 2147483647 (fun p => (I 80 p.toNat).toInt) := fun p p0 p1 => rd_any _
      have hPM : PM v t.1 t.2 := fun X I L sw K d N h1 h2 h3 => hr X d I L sw K N 0 79 (Or.inr ⟨rfl, rfl⟩) h1 (fun p p0 p1 => ⟨(h2 p p0 p1).1, by have := (h2 p p0 p1).2; omega⟩) (fun J hJ _ => h3 J hJ)
      have loop : ∀ J, fr fmw I J → rd (J 72 16) (-1) (-1) (-1) → rd (J 72 10) 0 120 0 → ar J 78 120 0 255 t.2 → ∀ k : Int, 0 ≤ k → k ≤ t.1 → ∀ M, fr (fun a _ => a = 79) J M → ar M 79 k 0 255 t.2 → ∀ o1, ts_Ev X (ts_Cal X (d + 80)) 171 ts_S0 K 37 [.ref 72, o1, .int (zI (t.1)), .int (zI (k))] [] (M, L, ts_P0 sw, ts_S0) := by
        intro J hJ h16 h10 h78
        refine ts_ind t.1 (fun k ih k0 kn M hM h79 o1 => ?_)
        have h78M := ar_co h78 (fr_row hM (fun k => by omega))
        by_cases ck : k < t.1
        · have bt := (h78M k k0 (by omega)).2
          refine ev_iloadn_3 i171_37 ?_
          refine ev_iloadn_2 i171_38 ?_
          refine ew_icmpge i171_39 (by omega) (fun c39 => ?_) (fun c39 => ?_)
          · exfalso; omega
          · refine ev_aloadn_0 i171_42 ?_
            refine ev_getA i171_43 g171_43 rfl rfl (by decide) ?_
            refine ev_iloadn_3 i171_46 ?_
            refine ev_aloadn_0 i171_47 ?_
            refine ev_getA i171_48 g171_48 rfl rfl (by decide) ?_
            refine ev_iloadn_3 i171_51 ?_
            refine ew_iaload i171_52 rfl (by omega) (by omega) (by omega) ((h78M k k0 (by omega))) (fun b52 => ?_)
            refine ew_iastore i171_53 rfl (by omega) (by omega) (by omega) ?_
            refine ew_iinc_3 i171_54 rfl ?_
            refine ev_goto i171_57 ?_
            exact ih ck (by omega) (by omega) _ (fr_up hM rfl) (ar_ext2 h79 k0 bt) _
        · obtain rfl : k = t.1 := by omega
          refine ev_iloadn_3 i171_37 ?_
          refine ev_iloadn_2 i171_38 ?_
          refine ew_icmpge i171_39 (by omega) (fun c39 => ?_) (fun c39 => ?_)
          · refine ev_aloadn_0 i171_60 ?_
            refine ev_iloadn_2 i171_61 ?_
            refine ev_putI i171_62 g171_62 rfl ?_
            refine ew_iconst i171_65 ?_
            refine ev_ireturn i171_66 r171 ?_
            refine hK _ (fr_up (fr_tr hJ (fr_mo hM (fun a k q => by omega))) (by omega)) ⟨?_, ar_co h78M (ts_up_na (by decide))⟩ ⟨⟨(by decide : (0 : Int) ≤ 1), (by decide : (1 : Int) ≤ 1)⟩, fun r => absurd r (by decide : ¬ (1 : Int) = 0), fun _ => ⟨t.1, t.2, hPM, ?_, ar_co h79 (ts_up_na (by decide))⟩⟩
            · rw [ts_up_nj (by decide), fr_row hM (fun k => by omega)]; exact h10
            · rw [ts_up_e]; exact rd_zI ht
          · exfalso; omega
      refine ev_enter (lv := [.ref 72, .null, .null, .null]) l171 rfl (Nat.le_of_ble_eq_true rfl) ?_
      refine ev_aloadn_0 i171_0 ?_
      refine ew_iconst i171_1 ?_
      refine ev_aloadn_0 i171_2 ?_
      refine ew_getI i171_3 g171_3 rfl (hT.1) (fun b3 => ?_)
      refine ev_virt2 i171_6 g171_6 rfl (by decide +kernel) (Nat.le_of_ble_eq_true rfl) (hr X d _ L sw _ _ (-1) 78 (Or.inl ⟨rfl, rfl⟩) (sub hT.2) hN (fun J h1 h2 => ?_))
      refine ev_istoren_1 i171_9 rfl ?_
      have h10 : rd (J 72 10) 0 120 t.1 := by rw [h1 72 10 (by omega)]; exact hT.1
      refine ev_aloadn_0 i171_10 ?_
      refine ew_getI i171_11 g171_11 rfl (h10) (fun b11 => ?_)
      refine ev_istoren_2 i171_14 rfl ?_
      refine ev_aloadn_0 i171_15 ?_
      refine ew_iconst i171_16 ?_
      refine ev_putI i171_17 g171_17 rfl ?_
      refine ev_aloadn_0 i171_20 ?_
      refine ew_getI i171_21 g171_21 rfl ((show rd _ (-1) (-1) (-1) from h2)) (fun b21 => ?_)
      refine ew_iflt i171_24 (by omega) (fun c24 => ?_) (fun c24 => ?_)
      · refine ew_iconst i171_35 ?_
        refine ev_istoren_3 i171_36 rfl ?_
        exact loop (ts_up J 72 10 (zI 0)) (fr_up (fr_mo h1 (fun a k q => by omega)) (by omega)) h2 (rd_zI ⟨by decide, by decide⟩) (ar_co hT.2 ((ts_up_na (by decide)).trans (fr_row h1 (fun k => by omega)))) 0 (by decide) ht.1 _ (fr_rfl _ _) (fun k k0 k1 => by omega) _
      · exfalso; omega
  · refine Or.inr ⟨q, by omega, ?_, ?_⟩
    · intro X d I L sw w K hT hW hK
      have c := into_c sw
      have ci := rule_i sw
      refine ev_enter (lv := [.ref 1, .null]) l99 rfl (Nat.le_of_ble_eq_true rfl) ?_
      refine ev_aloadn_0 i99_0 ?_
      refine ev_getA i99_1 g99_1 rfl rfl (by decide) ?_
      refine ev_virt0 i99_4 g99_4 rfl (by decide +kernel) (Nat.le_of_ble_eq_true rfl) (hx X d _ L sw _ hT.1 (sub hT.2) (fun J h1 h2 => ?_))
      refine ev_istoren_1 i99_7 rfl ?_
      refine ev_iloadn_1 i99_8 ?_
      first
      | refine ew_ifeqB i99_9 (fun c9 => ?_) (fun c9 => ?_)
      | refine ew_ifeq i99_9 (by omega) (fun c9 => ?_) (fun c9 => ?_)
      · refine ev_aloadn_0 i99_33 ?_
        refine ev_getA i99_34 g99_34 rfl rfl (by decide) ?_
        refine ew_iconst i99_37 ?_
        refine ev_putI i99_38 g99_38 rfl ?_
        refine ev_iloadn_1 i99_41 ?_
        first
        | refine ew_ifeqB i99_42 (fun c42 => ?_) (fun c42 => ?_)
        | refine ew_ifeq i99_42 (by omega) (fun c42 => ?_) (fun c42 => ?_)
        · refine ew_bipush i99_49 (by decide) ?_
          refine ev_aloadn_0 i99_51 ?_
          refine ev_getA i99_52 g99_52 rfl rfl (by decide) ?_
          refine ew_getI i99_55 g99_55 rfl (h2) (fun b55 => ?_)
          refine ew_isub i99_58 ?_
          refine ev_ireturn i99_59 r99 ?_
          refine hK _ (fr_up (fr_mo h1 (fun a k q => by omega)) (by omega)) ⟨rd_zI (by decide), ar_co hT.2 ?_⟩ ⟨?_, fun r => ?_⟩
          · rw [ts_up_na (by decide)]; exact fr_row h1 (fun k => by omega)
          · rw [ts_up_na (by decide), h1 2 12 (by omega)]; exact hW.1
          · obtain ⟨m, st, op, g1, g2, g3, g4⟩ := hW.2 r
            refine ⟨m, st, op, g1, ?_, ar_co g3 ?_, ar_co g4 ?_⟩
            · rw [ts_up_na (by omega), fr_row h1 (fun k => by omega)]; exact g2
            · rw [ts_up_na (by omega)]; exact fr_row h1 (fun k => by omega)
            · rw [ts_up_na (by omega)]; exact fr_row h1 (fun k => by omega)
        · exfalso; omega
      · exfalso; omega
    · intro X d I L sw w K hT hW hK
      have b1 := hT.1.2
      have hN : ar I 80 6 (-2147483648) 2147483647 (fun p => (I 80 p.toNat).toInt) := fun p p0 p1 => rd_any _
      refine ev_enter (lv := [.ref 72, .null, .null, .null]) l171 rfl (Nat.le_of_ble_eq_true rfl) ?_
      refine ev_aloadn_0 i171_0 ?_
      refine ew_iconst i171_1 ?_
      refine ev_aloadn_0 i171_2 ?_
      refine ew_getI i171_3 g171_3 rfl (hT.1) (fun b3 => ?_)
      refine ev_virt2 i171_6 g171_6 rfl (by decide +kernel) (Nat.le_of_ble_eq_true rfl) (hr X d _ L sw _ _ (-1) 78 (Or.inl ⟨rfl, rfl⟩) (sub hT.2) hN (fun J r h1 h2 h3 => ?_))
      refine ev_istoren_1 i171_9 rfl ?_
      have h10 : rd (J 72 10) 0 120 t.1 := by rw [h1 72 10 (by omega)]; exact hT.1
      refine ev_aloadn_0 i171_10 ?_
      refine ew_getI i171_11 g171_11 rfl (h10) (fun b11 => ?_)
      refine ev_istoren_2 i171_14 rfl ?_
      refine ev_aloadn_0 i171_15 ?_
      refine ew_iconst i171_16 ?_
      refine ev_putI i171_17 g171_17 rfl ?_
      refine ev_aloadn_0 i171_20 ?_
      refine ew_getI i171_21 g171_21 rfl ((show rd _ 0 120 q from h2)) (fun b21 => ?_)
      refine ew_iflt i171_24 (by omega) (fun c24 => ?_) (fun c24 => ?_)
      · exfalso; omega
      · refine ew_bipush i171_27 (by decide) ?_
        refine ev_aloadn_0 i171_29 ?_
        refine ew_getI i171_30 g171_30 rfl ((show rd _ 0 120 q from h2)) (fun b30 => ?_)
        refine ew_isub i171_33 ?_
        refine ev_ireturn i171_34 r171 ?_
        refine hK _ (fr_up (fr_mo h1 (fun a k q => by omega)) (by omega)) ⟨rd_zI (by decide), ar_co hT.2 ?_⟩ (hW.co ?_ ?_)
        · rw [ts_up_na (by decide)]; exact fr_row h1 (fun k => by omega)
        · rw [ts_up_nj (by decide)]; exact h1 72 12 (by omega)
        · rw [ts_up_na (by decide)]; exact fr_row h1 (fun k => by omega)
end LW
