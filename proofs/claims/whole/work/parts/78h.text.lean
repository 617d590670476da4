theorem i41_0 : ts_ins 41 0 = some (.aload_n 0, 1, 0) := by decide +kernel
theorem i41_1 : ts_ins 41 1 = some (.getfield 25, 4, 0) := by decide +kernel
theorem g41_1 : ts_fm 41 25 = some (5, 3, 2) := by decide +kernel
theorem i41_4 : ts_ins 41 4 = some (.iconst 0, 5, 0) := by decide +kernel
theorem i41_5 : ts_ins 41 5 = some (.putfield 29, 8, 0) := by decide +kernel
theorem g41_5 : ts_fmm 41 29 = some (4, 4, 0, false) := by decide +kernel
theorem i41_8 : ts_ins 41 8 = some (.aload_n 0, 9, 0) := by decide +kernel
theorem i41_9 : ts_ins 41 9 = some (.iconst 0, 10, 0) := by decide +kernel
theorem i41_10 : ts_ins 41 10 = some (.putfield 19, 13, 0) := by decide +kernel
theorem g41_10 : ts_fmm 41 19 = some (5, 2, 0, false) := by decide +kernel
theorem i41_13 : ts_ins 41 13 = some (.iconst 0, 14, 0) := by decide +kernel
theorem i41_14 : ts_ins 41 14 = some (.istore_n 1, 15, 0) := by decide +kernel
theorem i41_15 : ts_ins 41 15 = some (.iload_n 1, 16, 0) := by decide +kernel
theorem i41_16 : ts_ins 41 16 = some (.bipush 120, 18, 0) := by decide +kernel
theorem i41_18 : ts_ins 41 18 = some (.if_icmp .ge 39, 21, 57) := by decide +kernel
theorem i41_21 : ts_ins 41 21 = some (.aload_n 0, 22, 0) := by decide +kernel
theorem i41_22 : ts_ins 41 22 = some (.invokevirtual 32, 25, 0) := by decide +kernel
theorem g41_22 : ts_cal (ts_mc 41) 32 = some (0, 44, 0) := by decide +kernel
theorem i41_25 : ts_ins 41 25 = some (.ifCond .ne 5, 28, 30) := by decide +kernel
theorem i41_28 : ts_ins 41 28 = some (.iconst 0, 29, 0) := by decide +kernel
theorem i41_29 : ts_ins 41 29 = some (.ireturn, 30, 0) := by decide +kernel
theorem i41_30 : ts_ins 41 30 = some (.aload_n 0, 31, 0) := by decide +kernel
theorem i41_31 : ts_ins 41 31 = some (.invokevirtual 36, 34, 0) := by decide +kernel
theorem g41_31 : ts_cal (ts_mc 41) 36 = some (0, 42, 0) := by decide +kernel
theorem i41_34 : ts_ins 41 34 = some (.iconst (-1), 35, 0) := by decide +kernel
theorem i41_35 : ts_ins 41 35 = some (.if_icmp .ne 5, 38, 40) := by decide +kernel
theorem i41_38 : ts_ins 41 38 = some (.iconst 1, 39, 0) := by decide +kernel
theorem i41_39 : ts_ins 41 39 = some (.ireturn, 40, 0) := by decide +kernel
theorem i41_40 : ts_ins 41 40 = some (.aload_n 0, 41, 0) := by decide +kernel
theorem i41_41 : ts_ins 41 41 = some (.bipush 59, 43, 0) := by decide +kernel
theorem i41_43 : ts_ins 41 43 = some (.invokevirtual 40, 46, 0) := by decide +kernel
theorem g41_43 : ts_cal (ts_mc 41) 40 = some (0, 43, 1) := by decide +kernel
theorem i41_46 : ts_ins 41 46 = some (.ifCond .ne 5, 49, 51) := by decide +kernel
theorem i41_49 : ts_ins 41 49 = some (.iconst 0, 50, 0) := by decide +kernel
theorem i41_50 : ts_ins 41 50 = some (.ireturn, 51, 0) := by decide +kernel
theorem i41_51 : ts_ins 41 51 = some (.iinc 1 1, 54, 0) := by decide +kernel
theorem i41_54 : ts_ins 41 54 = some (.goto (-39), 57, 15) := by decide +kernel
theorem i41_57 : ts_ins 41 57 = some (.iconst 0, 58, 0) := by decide +kernel
theorem i41_58 : ts_ins 41 58 = some (.ireturn, 59, 0) := by decide +kernel
theorem r41 : ts_rt 41 = ((some .boolean), 0, 0) := by decide +kernel
theorem l41 : ts_ml 41 = 2 := by decide +kernel
/-! A WHOLE TEXT -/
def LNS (E : Nat) (n : Int) (tx : Int → Int) (p s : Int) (st op : Int → Int) : Prop :=
  (∃ (q s' : Int) (st' op' : Int → Int) (c w : (Int → Int) → Int), (p < q ∧ q ≤ n ∧ s < s' ∧ s' - s ≤ q - p + 1) ∧ (∀ k, k < s → st' k = st k ∧ op' k = op k) ∧ (∀ N, -2147483648 ≤ w N ∧ w N ≤ 2147483647) ∧ CXs E cxn n tx p s st op q s' st' op' ∧
    (∀ (X : ts_X) (d : Nat) (I : Nat → Nat → Int32) (L : Nat → Nat → Int64) (sw : Bool) (K : Option Value → ts_H → Prop) (N : Int → Int) (b : Int) (tc : Nat) (fb fn g gs : Int) (o6 o7 : Value), E ≤ d → (g = 0 ∨ g = 1) → SM I b tc n tx p 0 N → (∀ J, fr frw I J → SM J b tc n tx q 0 N → ∀ o6 o7, ts_Ev X (ts_Cal X (d + 1)) 170 ts_S0 K 96 [.ref 72, .int (zI (fb)), .int (zI (fn)), .int (zI (gn' g (c N))), .int (zI (gs' g gs (c N) (w N))), .int (zI (1)), o6, o7] [] (J, L, ts_P0 sw, ts_S0)) → ts_Ev X (ts_Cal X (d + 1)) 170 ts_S0 K 33 [.ref 72, .int (zI (fb)), .int (zI (fn)), .int (zI (g)), .int (zI (gs)), .int (zI (1)), o6, o7] [] (I, L, ts_P0 sw, ts_S0)) ∧ RNL s s' st' op' c w)
  ∨ (∃ q : Int, (p ≤ q ∧ q ≤ n) ∧ CXf E cxn n tx p s st op q ∧
    (∀ (X : ts_X) (d : Nat) (I : Nat → Nat → Int32) (L : Nat → Nat → Int64) (sw : Bool) (K : Option Value → ts_H → Prop) (N : Int → Int) (b : Int) (tc : Nat) (fb fn g gs : Int) (o6 o7 : Value), E ≤ d → (g = 0 ∨ g = 1) → -2147483648 ≤ gs ∧ gs ≤ 2147483647 → SM I b tc n tx p 0 N → (∀ J r, fr frw I J → FM J b tc n tx q → -2147483648 ≤ r ∧ r ≤ 2147483647 → K (some (.int (zI (r)))) (J, L, ts_P0 sw, ts_S0)) → ts_Ev X (ts_Cal X (d + 1)) 170 ts_S0 K 33 [.ref 72, .int (zI (fb)), .int (zI (fn)), .int (zI (g)), .int (zI (gs)), .int (zI (1)), o6, o7] [] (I, L, ts_P0 sw, ts_S0)))
def TXS (E : Nat) (n : Int) (tx : Int → Int) (p s : Int) (st op : Int → Int) : Prop :=
  (∃ (s' : Int) (st' op' : Int → Int) (v : (Int → Int) → Int), (s < s' ∧ s' - s ≤ n - p + 1) ∧ (∀ k, k < s → st' k = st k ∧ op' k = op k) ∧ (∀ N, -2147483648 ≤ v N ∧ v N ≤ 2147483647) ∧
    (∀ (X : ts_X) (d : Nat) (I : Nat → Nat → Int32) (L : Nat → Nat → Int64) (sw : Bool) (K : Option Value → ts_H → Prop) (ln : Int), E ≤ d → 0 ≤ ln → 2 * ln ≤ p → SX I sw n tx p s st op → (∀ J, fr (fzr sw) I J → SX J sw n tx n s' st' op' → K (some (.int (zI (1)))) (J, L, ts_P0 sw, ts_S0)) → ts_Ev X (ts_Cal X (d + 1)) 41 ts_S0 K 15 [.ref 24, .int (zI (ln))] [] (I, L, ts_P0 sw, ts_S0)) ∧
    (∀ (X : ts_X) (d : Nat) (I : Nat → Nat → Int32) (L : Nat → Nat → Int64) (sw : Bool) (K : Option Value → ts_H → Prop) (N : Int → Int) (b : Int) (tc : Nat) (fb fn g gs : Int) (o6 o7 : Value), E ≤ d → (g = 0 ∧ gs = 0 ∨ g = 1) → -2147483648 ≤ gs ∧ gs ≤ 2147483647 → SM I b tc n tx p 0 N → (∀ J, fr frw I J → SM J b tc n tx n 0 N → K (some (.int (zI (if g = 1 then gs else v N)))) (J, L, ts_P0 sw, ts_S0)) → ts_Ev X (ts_Cal X (d + 1)) 170 ts_S0 K 33 [.ref 72, .int (zI (fb)), .int (zI (fn)), .int (zI (g)), .int (zI (gs)), .int (zI (1)), o6, o7] [] (I, L, ts_P0 sw, ts_S0)) ∧
    (∀ (X : ts_X) (I : Nat → Nat → Int32) (L : Nat → Nat → Int64) (sw : Bool) (K : Option Value → ts_H → Prop) (d cc : Nat) (ST OP N : Int → Int) (a1 a2 a3 a4 a5 a6 : Int), (cc = 19 ∨ cc = 26) → WX I cc s' ST OP N → (∀ k, s ≤ k → k < s' → ST k = st' k ∧ OP k = op' k) → (∀ J, fr (fz3 cc) I J → K (some (.int (zI (v N)))) (J, L, ts_P0 sw, ts_S0)) → ∀ o, ts_Ev X (ts_Cal X (d + 1)) 36 ts_S0 K 51 [.ref cc, .int (zI (a1)), .int (zI (a2)), .int (zI (a3)), .int (zI (a4)), .int (zI (a5)), .int (zI (a6)), .int (zI (0)), .int (zI (s)), o] [] (I, L, ts_P0 sw, ts_S0)))
  ∨ (∃ q : Int, (p ≤ q ∧ q ≤ n) ∧
    (∀ (X : ts_X) (d : Nat) (I : Nat → Nat → Int32) (L : Nat → Nat → Int64) (sw : Bool) (K : Option Value → ts_H → Prop) (ln : Int), E ≤ d → 0 ≤ ln → 2 * ln ≤ p → SX I sw n tx p s st op → (∀ J, fr (fzr sw) I J → rd (J 24 2) 0 120 q → K (some (.int (zI (0)))) (J, L, ts_P0 sw, ts_S0)) → ts_Ev X (ts_Cal X (d + 1)) 41 ts_S0 K 15 [.ref 24, .int (zI (ln))] [] (I, L, ts_P0 sw, ts_S0)) ∧
    (∀ (X : ts_X) (d : Nat) (I : Nat → Nat → Int32) (L : Nat → Nat → Int64) (sw : Bool) (K : Option Value → ts_H → Prop) (N : Int → Int) (b : Int) (tc : Nat) (fb fn g gs : Int) (o6 o7 : Value), E ≤ d → (g = 0 ∧ gs = 0 ∨ g = 1) → -2147483648 ≤ gs ∧ gs ≤ 2147483647 → SM I b tc n tx p 0 N → (∀ J r, fr frw I J → FM J b tc n tx q → -2147483648 ≤ r ∧ r ≤ 2147483647 → K (some (.int (zI (r)))) (J, L, ts_P0 sw, ts_S0)) → ts_Ev X (ts_Cal X (d + 1)) 170 ts_S0 K 33 [.ref 72, .int (zI (fb)), .int (zI (fn)), .int (zI (g)), .int (zI (gs)), .int (zI (1)), o6, o7] [] (I, L, ts_P0 sw, ts_S0)))
section TE
variable {X : ts_X} {I J : Nat → Nat → Int32} {L : Nat → Nat → Int64} {sw : Bool} {K : Option Value → ts_H → Prop} {d E : Nat} {n p q s s' ln : Int} {tx st op st' op' : Int → Int}
theorem SX.nx_pos (h : SX I sw n tx p s st op) (q0 : 0 ≤ q) (qn : q < n) : 0 ≤ t_nx n tx q ∧ t_nx n tx q ≤ 255 := by
  have r := (h.txt q q0 qn).2
  unfold t_nx
  rw [if_pos qn]
  exact r
theorem J_line (hn : 0 ≤ n ∧ n ≤ 120) (p s : Int) (st op : Int → Int) (p0 : 0 ≤ p) (pn : p ≤ n) (s0 : 0 ≤ s) (sp : s ≤ p) : LNS 66 n tx p s st op := by
  have IH := (J_all (n := n) (tx := tx) hn 6 0 (by decide) (by decide)).2
  have dd : ∀ d : Nat, 66 ≤ d → ∃ d', d = d' + 1 ∧ 57 + 8 ≤ d' := fun d h => ⟨d - 1, by omega, by omega⟩
  rcases IH p s st op p0 pn s0 sp with ⟨q, s1, st1, op1, u, f1, f2, f3, hx, hm, hr⟩ | ⟨q, f1, hx, hm⟩
  · by_cases hq : t_nx n tx q = 63
    · have lt := t_nx_lt (n := n) (tx := tx) (p := q) (by omega)
      rcases IH (q + 1) (s1 + 1) (zu st1 s1 2) (zu op1 s1 0) (by omega) (by omega) (by omega) (by omega) with ⟨q2, s2, st2, op2, w, g1, g2, g3, gx, gm, gr⟩ | ⟨q2, g1, gx, gm⟩
      · refine Or.inl ⟨q2, s2 + 1, zu st2 s2 3, zu (zu op2 s2 0) s1 (s2 + 1), u, w, by omega, fun k hk => ?_, g3, ?_, ?_, RNL_cond hr gr s0 (by omega) (by omega) (by omega) g2⟩
        · have e1 := g2 k (by omega)
          have e2 := f2 k hk
          rw [zu_n (by omega), zu_n (by omega)] at e1
          rw [zu_n (by omega), zu_n (by omega), zu_n (by omega)]
          exact ⟨e1.1.trans e2.1, e1.2.trans e2.2⟩
        · intro X d I L sw K hd hS hK
          obtain ⟨d, rfl, h1⟩ := dd d hd
          exact CN_cond h1 hS (by omega) hx (by omega) hq gx (by omega) hK
        · intro X d I L sw K N b tc fb fn g gs o6 o7 hd hg hS hK
          exact RL_cond (E := 57) (by omega) hg hS (by omega) (by omega) hm (f3 N) hq gm (g3 N) hK o6 o7
      · refine Or.inr ⟨q2, by omega, ?_, ?_⟩
        · intro X d I L sw K hd hS hK
          obtain ⟨d, rfl, h1⟩ := dd d hd
          exact CN_F2 h1 hS (by omega) hx (by omega) hq gx hK
        · intro X d I L sw K N b tc fb fn g gs o6 o7 hd hg hs hS hK
          exact RL_F2 (E := 57) (by omega) hg hs hS (by omega) hm (f3 N) hq gm hK o6 o7
    · refine Or.inl ⟨q, s1 + 1, zu st1 s1 3, zu op1 s1 0, fun _ => 1, u, by omega, fun k hk => ⟨(zu_n (by omega)).trans (f2 k hk).1, (zu_n (by omega)).trans (f2 k hk).2⟩, f3, ?_, ?_, RNL_plain hr s0 (by omega) (by omega)⟩
      · intro X d I L sw K hd hS hK
        obtain ⟨d, rfl, h1⟩ := dd d hd
        exact CN_plain h1 hS (by omega) hx (by omega) hq hK
      · intro X d I L sw K N b tc fb fn g gs o6 o7 hd hg hS hK
        exact RL_plain (E := 57) (by omega) hg hS (by omega) hm (f3 N) hq hK o6 o7
  · refine Or.inr ⟨q, by omega, ?_, ?_⟩
    · intro X d I L sw K hd hS hK
      obtain ⟨d, rfl, h1⟩ := dd d hd
      exact CN_F1 h1 hS hx hK
    · intro X d I L sw K N b tc fb fn g gs o6 o7 hd hg hs hS hK
      exact RL_F1 (E := 57) (by omega) hg hs hS hm hK o6 o7
theorem CT_end (hd : 66 ≤ d) (hn : 0 ≤ n ∧ n ≤ 120) (l0 : 0 ≤ ln) (l1 : 2 * ln ≤ n) (hS : SX I sw n tx p s st op) (hc : CXs 66 cxn n tx p s st op n s' st' op') (hK : ∀ J, fr (fzr sw) I J → SX J sw n tx n s' st' op' → K (some (.int (zI (1)))) (J, L, ts_P0 sw, ts_S0)) : ts_Ev X (ts_Cal X (d + 1)) 41 ts_S0 K 15 [.ref 24, .int (zI (ln))] [] (I, L, ts_P0 sw, ts_S0) := by
  have e1 : t_nx n tx n = -1 := if_neg (by omega)
  refine ev_iloadn_1 i41_15 ?_
  refine ew_bipush i41_16 (by decide) ?_
  refine ew_icmpge i41_18 (by omega) (fun c18 => ?_) (fun c18 => ?_)
  · exfalso; omega
  · refine ev_aloadn_0 i41_21 ?_
    refine ev_virt0 i41_22 g41_22 rfl (by decide +kernel) (Nat.le_of_ble_eq_true rfl) (hc X d _ L sw _ hd hS (fun M h1 h2 => ?_))
    first
    | refine ew_ifneB i41_25 (fun c25 => ?_) (fun c25 => ?_)
    | refine ew_ifne i41_25 (by omega) (fun c25 => ?_) (fun c25 => ?_)
    · refine ev_aloadn_0 i41_30 ?_
      refine ev_virt0 i41_31 g41_31 rfl (by decide +kernel) (Nat.le_of_ble_eq_true rfl) (x_next h2 hn.1 ?_)
      refine ew_iconst i41_34 ?_
      refine ew_icmpne i41_35 (by omega) (fun c35 => ?_) (fun c35 => ?_)
      · exact absurd e1 c35
      · refine ew_iconst i41_38 ?_
        exact ev_zreturn i41_39 r41 (by decide) (hK M h1 h2)
    · exfalso; omega
theorem CT_more (hd : 66 ≤ d) (hn : 0 ≤ n ∧ n ≤ 120) (l0 : 0 ≤ ln) (l1 : 2 * ln ≤ n) (q0 : 0 ≤ q) (hS : SX I sw n tx p s st op) (hc : CXs 66 cxn n tx p s st op q s' st' op') (hq : t_nx n tx q = 59) (hK : ∀ J, fr (fzr sw) I J → SX J sw n tx (q + 1) s' st' op' → ts_Ev X (ts_Cal X (d + 1)) 41 ts_S0 K 15 [.ref 24, .int (zI (ln + 1))] [] (J, L, ts_P0 sw, ts_S0)) : ts_Ev X (ts_Cal X (d + 1)) 41 ts_S0 K 15 [.ref 24, .int (zI (ln))] [] (I, L, ts_P0 sw, ts_S0) := by
  obtain ⟨d, rfl⟩ : ∃ d', d = d' + 8 := ⟨d - 8, by omega⟩
  refine ev_iloadn_1 i41_15 ?_
  refine ew_bipush i41_16 (by decide) ?_
  refine ew_icmpge i41_18 (by omega) (fun c18 => ?_) (fun c18 => ?_)
  · exfalso; omega
  · refine ev_aloadn_0 i41_21 ?_
    refine ev_virt0 i41_22 g41_22 rfl (by decide +kernel) (Nat.le_of_ble_eq_true rfl) (hc X (d + 8) _ L sw _ hd hS (fun M h1 h2 => ?_))
    first
    | refine ew_ifneB i41_25 (fun c25 => ?_) (fun c25 => ?_)
    | refine ew_ifne i41_25 (by omega) (fun c25 => ?_) (fun c25 => ?_)
    · refine ev_aloadn_0 i41_30 ?_
      refine ev_virt0 i41_31 g41_31 rfl (by decide +kernel) (Nat.le_of_ble_eq_true rfl) (x_next h2 q0 ?_)
      refine ew_iconst i41_34 ?_
      refine ew_icmpne i41_35 (by omega) (fun c35 => ?_) (fun c35 => ?_)
      · refine ev_aloadn_0 i41_40 ?_
        refine ew_bipush i41_41 (by decide) ?_
        refine ev_virt1 i41_43 g41_43 rfl (by decide +kernel) (Nat.le_of_ble_eq_true rfl) (x_pass h2 q0 (by omega) (fun M2 h3 h4 h5 => ?_))
        first
        | refine ew_ifneB i41_46 (fun c46 => ?_) (fun c46 => ?_)
        | refine ew_ifne i41_46 (by omega) (fun c46 => ?_) (fun c46 => ?_)
        · refine ew_iinc_1 i41_51 rfl ?_
          refine ev_goto i41_54 ?_
          exact hK M2 (fr_tr h1 (fr_mo h3 (fun a k q => Or.inl q))) (h4 hq)
        · exact absurd hq c46
      · exfalso; omega
    · exfalso; omega
theorem CT_bad (hd : 66 ≤ d) (hn : 0 ≤ n ∧ n ≤ 120) (l0 : 0 ≤ ln) (l1 : 2 * ln ≤ n) (q0 : 0 ≤ q) (qn : q < n) (hS : SX I sw n tx p s st op) (hc : CXs 66 cxn n tx p s st op q s' st' op') (hq : ¬ t_nx n tx q = 59) (hK : ∀ J, fr (fzr sw) I J → rd (J 24 2) 0 120 q → K (some (.int (zI (0)))) (J, L, ts_P0 sw, ts_S0)) : ts_Ev X (ts_Cal X (d + 1)) 41 ts_S0 K 15 [.ref 24, .int (zI (ln))] [] (I, L, ts_P0 sw, ts_S0) := by
  obtain ⟨d, rfl⟩ : ∃ d', d = d' + 8 := ⟨d - 8, by omega⟩
  have r := hS.nx_pos q0 qn
  refine ev_iloadn_1 i41_15 ?_
  refine ew_bipush i41_16 (by decide) ?_
  refine ew_icmpge i41_18 (by omega) (fun c18 => ?_) (fun c18 => ?_)
  · exfalso; omega
  · refine ev_aloadn_0 i41_21 ?_
    refine ev_virt0 i41_22 g41_22 rfl (by decide +kernel) (Nat.le_of_ble_eq_true rfl) (hc X (d + 8) _ L sw _ hd hS (fun M h1 h2 => ?_))
    first
    | refine ew_ifneB i41_25 (fun c25 => ?_) (fun c25 => ?_)
    | refine ew_ifne i41_25 (by omega) (fun c25 => ?_) (fun c25 => ?_)
    · refine ev_aloadn_0 i41_30 ?_
      refine ev_virt0 i41_31 g41_31 rfl (by decide +kernel) (Nat.le_of_ble_eq_true rfl) (x_next h2 q0 ?_)
      refine ew_iconst i41_34 ?_
      refine ew_icmpne i41_35 (by omega) (fun c35 => ?_) (fun c35 => ?_)
      · refine ev_aloadn_0 i41_40 ?_
        refine ew_bipush i41_41 (by decide) ?_
        refine ev_virt1 i41_43 g41_43 rfl (by decide +kernel) (Nat.le_of_ble_eq_true rfl) (x_pass h2 q0 (by omega) (fun M2 h3 h4 h5 => ?_))
        first
        | refine ew_ifneB i41_46 (fun c46 => ?_) (fun c46 => ?_)
        | refine ew_ifne i41_46 (by omega) (fun c46 => ?_) (fun c46 => ?_)
        · exact absurd c46 hq
        · refine ew_iconst i41_49 ?_
          exact ev_zreturn i41_50 r41 (by decide) (hK M2 (fr_tr h1 (fr_mo h3 (fun a k q => Or.inl q))) (h5 hq).at)
      · exfalso; omega
    · exfalso; omega
theorem CT_F (hd : 66 ≤ d) (hn : 0 ≤ n ∧ n ≤ 120) (l0 : 0 ≤ ln) (l1 : 2 * ln ≤ n) (hS : SX I sw n tx p s st op) (hc : CXf 66 cxn n tx p s st op q) (hK : ∀ J, fr (fzr sw) I J → rd (J 24 2) 0 120 q → K (some (.int (zI (0)))) (J, L, ts_P0 sw, ts_S0)) : ts_Ev X (ts_Cal X (d + 1)) 41 ts_S0 K 15 [.ref 24, .int (zI (ln))] [] (I, L, ts_P0 sw, ts_S0) := by
  refine ev_iloadn_1 i41_15 ?_
  refine ew_bipush i41_16 (by decide) ?_
  refine ew_icmpge i41_18 (by omega) (fun c18 => ?_) (fun c18 => ?_)
  · exfalso; omega
  · refine ev_aloadn_0 i41_21 ?_
    refine ev_virt0 i41_22 g41_22 rfl (by decide +kernel) (Nat.le_of_ble_eq_true rfl) (hc X d _ L sw _ hd hS (fun M h1 h2 => ?_))
    first
    | refine ew_ifneB i41_25 (fun c25 => ?_) (fun c25 => ?_)
    | refine ew_ifne i41_25 (by omega) (fun c25 => ?_) (fun c25 => ?_)
    · exfalso; omega
    · refine ew_iconst i41_28 ?_
      exact ev_zreturn i41_29 r41 (by decide) (hK M h1 h2)
theorem gs_r {g gs c w : Int} (h1 : -2147483648 ≤ gs ∧ gs ≤ 2147483647) (h2 : -2147483648 ≤ w ∧ w ≤ 2147483647) : -2147483648 ≤ gs' g gs c w ∧ gs' g gs c w ≤ 2147483647 := by
  unfold gs'
  repeat' split
  all_goals assumption
theorem gn_c {g gs c w : Int} (h : g = 0 ∧ gs = 0 ∨ g = 1) : gn' g c = 0 ∧ gs' g gs c w = 0 ∨ gn' g c = 1 := by
  unfold gn' gs'
  by_cases c1 : g = 1
  · rw [if_pos c1]; exact Or.inr rfl
  · rw [if_neg c1, if_neg c1]
    by_cases c2 : c = 0
    · rw [if_pos c2, if_pos c2]; exact Or.inl ⟨rfl, by omega⟩
    · rw [if_neg c2]; exact Or.inr rfl
theorem gn_v {g gs c w v : Int} (h : g = 0 ∧ gs = 0 ∨ g = 1) : (if gn' g c = 1 then gs' g gs c w else v) = if g = 1 then gs else if c = 0 then v else w := by
  unfold gn' gs'
  by_cases c1 : g = 1
  · rw [if_pos c1, if_pos c1, if_pos rfl, if_pos c1]
  · rw [if_neg c1, if_neg c1, if_neg c1]
    by_cases c2 : c = 0
    · rw [if_pos c2, if_pos c2, if_neg (by decide), if_pos c2]
    · rw [if_neg c2, if_neg c2, if_pos rfl, if_neg c2]
theorem gs_v {g gs c w : Int} (h : g = 0 ∧ gs = 0 ∨ g = 1) : gs' g gs c w = if g = 1 then gs else if c = 0 then 0 else w := by
  unfold gs'
  by_cases c1 : g = 1
  · rw [if_pos c1, if_pos c1]
  · rw [if_neg c1, if_neg c1]
    by_cases c2 : c = 0
    · rw [if_pos c2, if_pos c2]; omega
    · rw [if_neg c2, if_neg c2]
theorem J_text (hn : 0 ≤ n ∧ n ≤ 120) : ∀ j p s st op, j ≤ p → 0 ≤ p → p ≤ n → 0 ≤ s → s ≤ p → TXS 66 n tx p s st op := by
  refine ts_ind n (fun j ih p s st op jp p0 pn s0 sp => ?_)
  have d8 : ∀ d : Nat, 66 ≤ d → ∃ d', d = d' + 8 := fun d h => ⟨d - 8, by omega⟩
  rcases J_line hn (tx := tx) p s st op p0 pn s0 sp with ⟨q, s1, st1, op1, c, w, f1, f2, f3, hx, hm, hr⟩ | ⟨q, f1, hx, hm⟩
  · by_cases qn : q < n
    · by_cases hq : t_nx n tx q = 59
      · rcases ih (by omega) (q + 1) s1 st1 op1 (by omega) (by omega) (by omega) (by omega) (by omega) with ⟨s2, st2, op2, v, g1, g2, g3, gx, gm, gr⟩ | ⟨q2, g1, gx, gm⟩
        · refine Or.inl ⟨s2, st2, op2, fun N => if c N = 0 then v N else w N, by omega, fun k hk => ⟨(g2 k (by omega)).1.trans (f2 k hk).1, (g2 k (by omega)).2.trans (f2 k hk).2⟩, fun N => ?_, ?_, ?_, ?_⟩
          · show -2147483648 ≤ (if c N = 0 then v N else w N) ∧ (if c N = 0 then v N else w N) ≤ 2147483647
            split
            · exact g3 N
            · exact f3 N
          · intro X d I L sw K ln hd l0 l1 hS hK
            exact CT_more hd hn l0 (by omega) (by omega) hS hx hq (fun J hJ hSJ => gx X d J L sw K (ln + 1) hd (by omega) (by omega) hSJ (fun M hM => hK M (fr_tr hJ hM)))
          · intro X d I L sw K N b tc fb fn g gs o6 o7 hd hg hs hS hK
            refine hm X d I L sw K N b tc fb fn g gs o6 o7 hd (by omega) hS (fun J hJ hSJ o6 o7 => ?_)
            obtain ⟨d, rfl⟩ := d8 d hd
            refine RT_more hSJ (by omega) hq (fun M hM hSM o6 o7 => ?_) _ o6 o7
            refine gm X (d + 8) M L sw K N b tc fb fn _ _ o6 o7 hd (gn_c hg) (gs_r hs (f3 N)) hSM (fun Q hQ hSQ => ?_)
            exact zK (hK Q (fr_tr (fr_tr hJ hM) hQ) hSQ) (gn_v hg).symm
          · intro X I L sw K d cc ST OP N a1 a2 a3 a4 a5 a6 hc hW he hK o
            refine hr X I L sw K d cc s2 ST OP N a1 a2 a3 a4 a5 a6 hc hW (fun k k0 k1 => ⟨(he k k0 (by omega)).1.trans (g2 k k1).1, (he k k0 (by omega)).2.trans (g2 k k1).2⟩) (by omega) (fun z J hJ => zK (hK J hJ) (if_neg z)) (fun z J o hJ => ?_) o
            exact gr X J L sw K d cc ST OP N a1 a2 a3 a4 a5 a6 hc (hW.co hJ) (fun k k0 k1 => he k (by omega) k1) (fun M hM => zK (hK M (fr_tr hJ hM)) (if_pos z)) o
        · refine Or.inr ⟨q2, by omega, ?_, ?_⟩
          · intro X d I L sw K ln hd l0 l1 hS hK
            exact CT_more hd hn l0 (by omega) (by omega) hS hx hq (fun J hJ hSJ => gx X d J L sw K (ln + 1) hd (by omega) (by omega) hSJ (fun M hM => hK M (fr_tr hJ hM)))
          · intro X d I L sw K N b tc fb fn g gs o6 o7 hd hg hs hS hK
            refine hm X d I L sw K N b tc fb fn g gs o6 o7 hd (by omega) hS (fun J hJ hSJ o6 o7 => ?_)
            obtain ⟨d, rfl⟩ := d8 d hd
            refine RT_more hSJ (by omega) hq (fun M hM hSM o6 o7 => ?_) _ o6 o7
            exact gm X (d + 8) M L sw K N b tc fb fn _ _ o6 o7 hd (gn_c hg) (gs_r hs (f3 N)) hSM (fun Q r hQ => hK Q r (fr_tr (fr_tr hJ hM) hQ))
      · refine Or.inr ⟨q, by omega, ?_, ?_⟩
        · intro X d I L sw K ln hd l0 l1 hS hK
          exact CT_bad hd hn l0 (by omega) (by omega) qn hS hx hq hK
        · intro X d I L sw K N b tc fb fn g gs o6 o7 hd hg hs hS hK
          refine hm X d I L sw K N b tc fb fn g gs o6 o7 hd (by omega) hS (fun J hJ hSJ o6 o7 => ?_)
          obtain ⟨d, rfl⟩ := d8 d hd
          exact RT_bad hSJ (by omega) qn hq (gs_r hs (f3 N)) (fun Q r hQ => hK Q r (fr_tr hJ hQ)) _ o6 o7
    · obtain rfl : q = n := by omega
      refine Or.inl ⟨s1, st1, op1, fun N => if c N = 0 then 0 else w N, by omega, f2, fun N => ?_, ?_, ?_, ?_⟩
      · show -2147483648 ≤ (if c N = 0 then 0 else w N) ∧ (if c N = 0 then 0 else w N) ≤ 2147483647
        split
        · decide
        · exact f3 N
      · intro X d I L sw K ln hd l0 l1 hS hK
        exact CT_end hd hn l0 (by omega) hS hx hK
      · intro X d I L sw K N b tc fb fn g gs o6 o7 hd hg hs hS hK
        refine hm X d I L sw K N b tc fb fn g gs o6 o7 hd (by omega) hS (fun J hJ hSJ o6 o7 => ?_)
        obtain ⟨d, rfl⟩ := d8 d hd
        exact RT_end hSJ (gs_r hs (f3 N)) (fun Q hQ hSQ => zK (hK Q (fr_tr hJ hQ) hSQ) (gs_v hg).symm) _ o6 o7
      · intro X I L sw K d cc ST OP N a1 a2 a3 a4 a5 a6 hc hW he hK o
        exact hr X I L sw K d cc s1 ST OP N a1 a2 a3 a4 a5 a6 hc hW he (by omega) (fun z J hJ => zK (hK J hJ) (if_neg z)) (fun z J o hJ => W_end hc (hW.co hJ) (zK (hK J hJ) (if_pos z)) o) o
  · refine Or.inr ⟨q, by omega, ?_, ?_⟩
    · intro X d I L sw K ln hd l0 l1 hS hK
      exact CT_F hd hn l0 (by omega) hS hx hK
    · intro X d I L sw K N b tc fb fn g gs o6 o7 hd hg hs hS hK
      exact hm X d I L sw K N b tc fb fn g gs o6 o7 hd (by omega) hs hS hK
end TE
