/-! BOTH READERS read alike: a level's text is read whole, with one value, or has its fault at one place -/
def PRS (E : Nat) (cx cm : CP) (n : Int) (tx : Int → Int) (p s : Int) (st op : Int → Int) (o : Int) : Prop :=
  (∃ (q s' : Int) (st' op' : Int → Int) (v : (Int → Int) → Int), (p < q ∧ q ≤ n ∧ s < s' ∧ s' - s ≤ q - p) ∧ (∀ k, k < s → st' k = st k ∧ op' k = op k) ∧ (∀ N, -2147483648 ≤ v N ∧ v N ≤ 2147483647) ∧ CXs E cx n tx p s st op q s' st' op' ∧ CMs E cm n tx p o q v ∧ RN s s' st' op' v)
  ∨ (∃ q : Int, (p ≤ q ∧ q ≤ n) ∧ CXf E cx n tx p s st op q ∧ CMf E cm n tx p o q)
section JO
variable {E F : Nat} {cx cm cm' : CP} {R : LPr} {n p s q s' lv o s0 : Int} {tx st op st' op' : Int → Int} {v : (Int → Int) → Int}
theorem PRS.mono (h : PRS E cx cm n tx p s st op o) (e : E ≤ F) : PRS F cx cm n tx p s st op o := by
  rcases h with ⟨q, s', st', op', v, h1, h2, h3, h4, h5, h6⟩ | ⟨q, h1, h2, h3⟩
  · exact Or.inl ⟨q, s', st', op', v, h1, h2, h3, fun X d I L sw K hE => h4 X d I L sw K (by omega), fun X d I L sw K N b tc hE => h5 X d I L sw K N b tc (by omega), h6⟩
  · exact Or.inr ⟨q, h1, fun X d I L sw K hE => h2 X d I L sw K (by omega), fun X d I L sw K N b tc hE => h3 X d I L sw K N b tc (by omega)⟩
theorem J_one (hn : 0 ≤ n ∧ n ≤ 120) (ho : 0 ≤ o ∧ o ≤ 6) (hE : 8 ≤ E) (IH0 : o < 6 → ∀ p s st op, 0 ≤ p → p ≤ n → 0 ≤ s → s ≤ p → PRS E (cxl 0 (o + 1)) cm0 n tx p s st op (o + 1)) (IH1 : o < 6 → ∀ p s st op, 0 ≤ p → p ≤ n → 0 ≤ s → s ≤ p → PRS E (cxo (o + 1)) cm5 n tx p s st op (o + 1)) (p s : Int) (st op : Int → Int) (p0 : 0 ≤ p) (pn : p ≤ n) (s0 : 0 ≤ s) (sp : s ≤ p) : PRS (E + 1) (cxo o) cm5 n tx p s st op o := by
  have dd : ∀ d : Nat, E + 1 ≤ d → ∃ d', d = d' + 1 ∧ E ≤ d' ∧ 8 ≤ d' := fun d h => ⟨d - 1, by omega, by omega, by omega⟩
  by_cases c1 : 48 ≤ t_nx n tx p ∧ t_nx n tx p ≤ 57
  · have lt := t_nx_lt (n := n) (tx := tx) (p := p) (by omega)
    have e : rdn n tx 4 p 0 = rdn n tx 3 (p + 1) (0 * 10 + t_nx n tx p - 48) := by
      show (if _ then rdn n tx 3 _ _ else _) = _
      rw [if_pos c1]
    have r1 := rdn_p (n := n) (tx := tx) 3 (p + 1) (0 * 10 + t_nx n tx p - 48) (by omega)
    rw [← e] at r1
    have r2 := rdn_v (n := n) (tx := tx) 4 p 0 0 rfl (Or.inl ⟨rfl, rfl⟩)
    refine Or.inl ⟨(rdn n tx 4 p 0).1, s + 1, zu st s 0, zu op s (rdn n tx 4 p 0).2, fun _ => (rdn n tx 4 p 0).2, by omega, fun k hk => ⟨zu_n (by omega), zu_n (by omega)⟩, fun _ => ⟨by show -2147483648 ≤ (rdn n tx 4 p 0).2; omega, by show (rdn n tx 4 p 0).2 ≤ 2147483647; omega⟩, ?_, ?_, RN_num s0 (by omega)⟩
    · intro X d I L sw K hd hS hK
      obtain ⟨d, rfl, h1, h2⟩ := dd d hd
      exact XO_num h2 hS p0 (by omega) c1 hK
    · intro X d I L sw K N b tc hd hS hK
      obtain ⟨d, rfl, h1, h2⟩ := dd d hd
      exact O_num h2 hS p0 c1 hK
  by_cases c2 : 0 ≤ nmi (t_nx n tx p)
  · have hx : 97 ≤ t_nx n tx p := by unfold nmi at c2; omega
    have hx2 : nmi (t_nx n tx p) ≤ 5 := by unfold nmi; omega
    have lt := t_nx_lt (n := n) (tx := tx) (p := p) (by omega)
    refine Or.inl ⟨p + 1, s + 1, zu st s 1, zu op s (nmi (t_nx n tx p)), fun N => zw (N (nmi (t_nx n tx p))), by omega, fun k hk => ⟨zu_n (by omega), zu_n (by omega)⟩, fun _ => zw_r _, ?_, ?_, RN_name s0 (by omega) (by omega)⟩
    · intro X d I L sw K hd hS hK
      obtain ⟨d, rfl, h1, h2⟩ := dd d hd
      exact XO_name h2 hS p0 (by omega) c2 hK
    · intro X d I L sw K N b tc hd hS hK
      obtain ⟨d, rfl, h1, h2⟩ := dd d hd
      exact O_name h2 hS p0 c2 hK
  have c3 : nmi (t_nx n tx p) = -1 := by unfold nmi at c2 ⊢; omega
  by_cases c4 : t_nx n tx p = 40 ∧ o < 6
  · have lt := t_nx_lt (n := n) (tx := tx) (p := p) (by omega)
    rcases IH0 c4.2 (p + 1) s st op (by omega) (by omega) s0 (by omega) with ⟨q, s', st', op', v, h1, h2, h3, h4, h5, h6⟩ | ⟨q, h1, h4, h5⟩
    · by_cases c5 : t_nx n tx q = 41
      · have lq := t_nx_lt (n := n) (tx := tx) (p := q) (by omega)
        refine Or.inl ⟨q + 1, s', st', op', v, by omega, h2, h3, ?_, ?_, h6⟩
        · intro X d I L sw K hd hS hK
          obtain ⟨d, rfl, g1, g2⟩ := dd d hd
          exact XO_par g2 g1 hS p0 (by omega) (by omega) c4.1 h4 (fun _ => hK) (fun r => absurd c5 r)
        · intro X d I L sw K N b tc hd hS hK
          obtain ⟨d, rfl, g1, g2⟩ := dd d hd
          exact O_par g2 g1 hS p0 (by omega) (by omega) c4.1 h5 (fun _ => hK) (fun r => absurd c5 r)
      · refine Or.inr ⟨q, by omega, ?_, ?_⟩
        · intro X d I L sw K hd hS hK
          obtain ⟨d, rfl, g1, g2⟩ := dd d hd
          exact XO_par g2 g1 hS p0 (by omega) (by omega) c4.1 h4 (fun r => absurd r c5) (fun _ => hK)
        · intro X d I L sw K N b tc hd hS hK
          obtain ⟨d, rfl, g1, g2⟩ := dd d hd
          exact O_par g2 g1 hS p0 (by omega) (by omega) c4.1 h5 (fun r => absurd r c5) (fun _ => hK)
    · refine Or.inr ⟨q, by omega, ?_, ?_⟩
      · intro X d I L sw K hd hS hK
        obtain ⟨d, rfl, g1, g2⟩ := dd d hd
        exact XO_parF g2 g1 hS p0 (by omega) c4.1 h4 hK
      · intro X d I L sw K N b tc hd hS hK
        obtain ⟨d, rfl, g1, g2⟩ := dd d hd
        exact O_parF g2 g1 hS p0 (by omega) c4.1 h5 hK
  by_cases c6 : (t_nx n tx p = 33 ∨ t_nx n tx p = 45) ∧ o < 6
  · have lt := t_nx_lt (n := n) (tx := tx) (p := p) (by omega)
    rcases IH1 c6.2 (p + 1) s st op (by omega) (by omega) s0 (by omega) with ⟨q, s', st', op', v, h1, h2, h3, h4, h5, h6⟩ | ⟨q, h1, h4, h5⟩
    · refine Or.inl ⟨q, s' + 1, zu st' s' (if t_nx n tx p = 33 then 4 else 5), zu op' s' 0, fun N => ng (if t_nx n tx p = 33 then 4 else 5) (v N), by omega, fun k hk => ⟨(zu_n (by omega)).trans (h2 k hk).1, (zu_n (by omega)).trans (h2 k hk).2⟩, fun _ => ng_r _ _, ?_, ?_, RN_un h6 s0 (by omega) (by omega) (by omega)⟩
      · intro X d I L sw K hd hS hK
        obtain ⟨d, rfl, g1, g2⟩ := dd d hd
        exact XO_un g2 g1 hS p0 (by omega) c6.1 h4 (by omega) hK
      · intro X d I L sw K N b tc hd hS hK
        obtain ⟨d, rfl, g1, g2⟩ := dd d hd
        exact O_un g2 g1 hS p0 (by omega) c6.1 h5 (h3 N) hK
    · refine Or.inr ⟨q, by omega, ?_, ?_⟩
      · intro X d I L sw K hd hS hK
        obtain ⟨d, rfl, g1, g2⟩ := dd d hd
        exact XO_unF g2 g1 hS p0 (by omega) c6.1 h4 hK
      · intro X d I L sw K N b tc hd hS hK
        obtain ⟨d, rfl, g1, g2⟩ := dd d hd
        exact O_unF g2 g1 hS p0 (by omega) c6.1 h5 hK
  refine Or.inr ⟨p, by omega, ?_, ?_⟩
  · intro X d I L sw K hd hS hK
    obtain ⟨d, rfl, g1, g2⟩ := dd d hd
    by_cases c7 : t_nx n tx p = -1
    · exact XO_end g2 hS p0 c7 (hK I (fr_rfl _ _) hS.at)
    · exact XO_bad g2 hS p0 ho c7 c1 c3 (by omega) (hK I (fr_rfl _ _) hS.at)
  · intro X d I L sw K N b tc hd hS hK
    obtain ⟨d, rfl, g1, g2⟩ := dd d hd
    exact O_bad g2 hS p0 c1 c3 (by omega) hK
def LPS (lv : Int) (R : LPr) (E : Nat) (n : Int) (tx : Int → Int) (o s0 p s : Int) (st op : Int → Int) (i : Int) (v0 : (Int → Int) → Int) : Prop :=
  (∃ (q s' : Int) (st' op' : Int → Int) (v : (Int → Int) → Int), (p ≤ q ∧ q ≤ n ∧ s ≤ s' ∧ s' - s ≤ q - p) ∧ (∀ k, k < s → st' k = st k ∧ op' k = op k) ∧ (∀ N, -2147483648 ≤ v N ∧ v N ≤ 2147483647) ∧
    (∀ (X : ts_X) (d : Nat) (I : Nat → Nat → Int32) (L : Nat → Nat → Int64) (sw : Bool) (K : Option Value → ts_H → Prop), E ≤ d → SX I sw n tx p s st op → (∀ J, fr (fzr sw) I J → SX J sw n tx q s' st' op' → K (some (.int (zI (1)))) (J, L, ts_P0 sw, ts_S0)) → ∀ o5, ts_Ev X (ts_Cal X (d + 1)) 45 ts_S0 K 39 [.ref 24, .int (zI (lv)), .int (zI (o)), .int (zI (if lv = 2 then 1 else 120)), .int (zI (i)), o5] [] (I, L, ts_P0 sw, ts_S0)) ∧
    (∀ (X : ts_X) (d : Nat) (I : Nat → Nat → Int32) (L : Nat → Nat → Int64) (sw : Bool) (K : Option Value → ts_H → Prop) (N : Int → Int) (b : Int) (tc : Nat), E ≤ d → SM I b tc n tx p o N → (∀ J, fr frw I J → SM J b tc n tx q o N → K (some (.int (zI (v N)))) (J, L, ts_P0 sw, ts_S0)) → R X (d + 1) I L sw K p (v0 N)) ∧ RN s0 s' st' op' v)
  ∨ (∃ q : Int, (p ≤ q ∧ q ≤ n) ∧
    (∀ (X : ts_X) (d : Nat) (I : Nat → Nat → Int32) (L : Nat → Nat → Int64) (sw : Bool) (K : Option Value → ts_H → Prop), E ≤ d → SX I sw n tx p s st op → (∀ J, fr (fzr sw) I J → rd (J 24 2) 0 120 q → K (some (.int (zI (0)))) (J, L, ts_P0 sw, ts_S0)) → ∀ o5, ts_Ev X (ts_Cal X (d + 1)) 45 ts_S0 K 39 [.ref 24, .int (zI (lv)), .int (zI (o)), .int (zI (if lv = 2 then 1 else 120)), .int (zI (i)), o5] [] (I, L, ts_P0 sw, ts_S0)) ∧
    (∀ (X : ts_X) (d : Nat) (I : Nat → Nat → Int32) (L : Nat → Nat → Int64) (sw : Bool) (K : Option Value → ts_H → Prop) (N : Int → Int) (b : Int) (tc : Nat), E ≤ d → SM I b tc n tx p o N → (∀ J r, fr frw I J → FM J b tc n tx q → -2147483648 ≤ r ∧ r ≤ 2147483647 → K (some (.int (zI (r)))) (J, L, ts_P0 sw, ts_S0)) → R X (d + 1) I L sw K p (v0 N)))
theorem sgn_6 {c : Int} (h : lof c < 5) : 6 ≤ c := by unfold lof at h; omega
theorem sgn_e {c : Int} (h : lof c < 5) : ¬ c = -1 := by unfold lof at h; omega
theorem J_loop (hn : 0 ≤ n ∧ n ≤ 120) (hE : 8 ≤ E) (hl : 0 ≤ lv ∧ lv < 5 ∧ ¬ lv = 2) (he : Rend lv R n tx o) (hst : Rstep lv R E cm' n tx o) (hf : Rfail lv R E cm' n tx o) (IH : ∀ p s st op, 0 ≤ p → p ≤ n → 0 ≤ s → s ≤ p → PRS E (cxl (lv + 1) o) cm' n tx p s st op o) (h00 : 0 ≤ s0) : ∀ j p s st op i v0, j ≤ p → 0 ≤ p → p ≤ n → s0 < s → s ≤ p → 0 ≤ i → i ≤ p → RN s0 s st op v0 → (∀ N, -2147483648 ≤ v0 N ∧ v0 N ≤ 2147483647) → LPS lv R E n tx o s0 p s st op i v0 := by
  have em : (if lv = 2 then (1 : Int) else 120) = 120 := if_neg hl.2.2
  refine ts_ind n (fun j ih p s st op i v0 jp p0 pn ss sp i0 ip hr hv => ?_)
  by_cases hc : lof (t_nx n tx p) = lv
  · have lt := t_nx_lt (n := n) (tx := tx) (p := p) (sgn_e (by omega))
    have c6 := sgn_6 (c := t_nx n tx p) (by omega)
    rcases IH (p + 1) s st op (by omega) (by omega) (by omega) (by omega) with ⟨q, s1, st1, op1, w, f1, f2, f3, hx, hm, hr1⟩ | ⟨q, f1, hx, hm⟩
    · have hr2 := RN_bin (k := t_nx n tx p) hr hr1 h00 (by omega) (by omega) (by omega) (fun k _ k1 => f2 k k1) c6
      rcases ih (by omega) q (s1 + 1) (zu st1 s1 (t_nx n tx p)) (zu op1 s1 0) (i + 1) (fun N => jn (t_nx n tx p) (v0 N) (w N)) (by omega) (by omega) (by omega) (by omega) (by omega) (by omega) (by omega) hr2 (fun N => jn_r _ _ _) with ⟨q2, s2, st2, op2, v, g1, g2, g3, gx, gm, gr⟩ | ⟨q2, g1, gx, gm⟩
      · refine Or.inl ⟨q2, s2, st2, op2, v, by omega, fun k hk => ?_, g3, ?_, ?_, gr⟩
        · have e1 := g2 k (by omega)
          have e2 := f2 k hk
          rw [zu_n (by omega), zu_n (by omega)] at e1
          exact ⟨e1.1.trans e2.1, e1.2.trans e2.2⟩
        · intro X d I L sw K hd hS hK o5
          rw [em] at gx ⊢
          exact XL_step hd hS p0 (by omega) (by omega) (by omega) hc hx (by omega) (fun J hJ hSJ => gx X d J L sw K hd hSJ (fun M hM => hK M (fr_tr hJ hM))) o5
        · intro X d I L sw K N b tc hd hS hK
          exact hst X d I L sw K N b tc p (v0 N) q w (by omega) hd p0 (by omega) hS hc hm (hv N) (f3 N) (fun J hJ hSJ => gm X d J L sw K N b tc hd hSJ (fun M hM => hK M (fr_tr hJ hM)))
      · refine Or.inr ⟨q2, by omega, ?_, ?_⟩
        · intro X d I L sw K hd hS hK o5
          rw [em] at gx ⊢
          exact XL_step hd hS p0 (by omega) (by omega) (by omega) hc hx (by omega) (fun J hJ hSJ => gx X d J L sw K hd hSJ (fun M hM => hK M (fr_tr hJ hM))) o5
        · intro X d I L sw K N b tc hd hS hK
          exact hst X d I L sw K N b tc p (v0 N) q w (by omega) hd p0 (by omega) hS hc hm (hv N) (f3 N) (fun J hJ hSJ => gm X d J L sw K N b tc hd hSJ (fun M r hM => hK M r (fr_tr hJ hM)))
    · refine Or.inr ⟨q, by omega, ?_, ?_⟩
      · intro X d I L sw K hd hS hK o5
        rw [em]
        exact XL_fail hd hS p0 (by omega) (by omega) (by omega) hc hx hK o5
      · intro X d I L sw K N b tc hd hS hK
        exact hf X d I L sw K N b tc p (v0 N) q (by omega) hd p0 (by omega) hS hc hm (hv N) hK
  · refine Or.inl ⟨p, s, st, op, v0, by omega, fun k _ => ⟨rfl, rfl⟩, hv, ?_, ?_, hr⟩
    · intro X d I L sw K hd hS hK o5
      rw [em]
      exact XL_end hS p0 (by omega) (by omega) (by omega) (Or.inr hc) (hK I (fr_rfl _ _) hS) o5
    · intro X d I L sw K N b tc hd hS hK
      exact he X (d + 1) I L sw K N b tc p (v0 N) (by omega) p0 hS hc hK
theorem J_once (hn : 0 ≤ n ∧ n ≤ 120) (hE : 8 ≤ E) (IH : ∀ p s st op, 0 ≤ p → p ≤ n → 0 ≤ s → s ≤ p → PRS E (cxl 3 o) cm3 n tx p s st op o) (h00 : 0 ≤ s0) (p s : Int) (st op : Int → Int) (v0 : (Int → Int) → Int) (p0 : 0 ≤ p) (pn : p ≤ n) (ss : s0 < s) (sp : s ≤ p) (hr : RN s0 s st op v0) (hv : ∀ N, -2147483648 ≤ v0 N ∧ v0 N ≤ 2147483647) : LPS 2 RL2 E n tx o s0 p s st op 0 v0 := by
  have em : (if (2 : Int) = 2 then (1 : Int) else 120) = 1 := if_pos rfl
  by_cases hc : lof (t_nx n tx p) = 2
  · have lt := t_nx_lt (n := n) (tx := tx) (p := p) (sgn_e (by omega))
    have c6 := sgn_6 (c := t_nx n tx p) (by omega)
    rcases IH (p + 1) s st op (by omega) (by omega) (by omega) (by omega) with ⟨q, s1, st1, op1, w, f1, f2, f3, hx, hm, hr1⟩ | ⟨q, f1, hx, hm⟩
    · refine Or.inl ⟨q, s1 + 1, zu st1 s1 (t_nx n tx p), zu op1 s1 0, fun N => jn (t_nx n tx p) (v0 N) (w N), by omega, fun k hk => ⟨(zu_n (by omega)).trans (f2 k hk).1, (zu_n (by omega)).trans (f2 k hk).2⟩, fun N => jn_r _ _ _, ?_, ?_, RN_bin (k := t_nx n tx p) hr hr1 h00 (by omega) (by omega) (by omega) (fun k _ k1 => f2 k k1) c6⟩
      · intro X d I L sw K hd hS hK o5
        rw [em]
        exact XL_step hd hS p0 (by omega) (by omega) (by omega) hc hx (by omega) (fun J hJ hSJ => XL_end hSJ (by omega) (by omega) (by omega) (by omega) (Or.inl (by omega)) (hK J hJ hSJ)) o5
      · intro X d I L sw K N b tc hd hS hK
        exact R2_step (by omega) hd p0 hS hc hm (hv N) (f3 N) hK
    · refine Or.inr ⟨q, by omega, ?_, ?_⟩
      · intro X d I L sw K hd hS hK o5
        rw [em]
        exact XL_fail hd hS p0 (by omega) (by omega) (by omega) hc hx hK o5
      · intro X d I L sw K N b tc hd hS hK
        exact R2_fail X d I L sw K N b tc p (v0 N) q (by omega) hd p0 (by omega) hS hc hm (hv N) hK
  · refine Or.inl ⟨p, s, st, op, v0, by omega, fun k _ => ⟨rfl, rfl⟩, hv, ?_, ?_, hr⟩
    · intro X d I L sw K hd hS hK o5
      rw [em]
      exact XL_end hS p0 (by omega) (by omega) (by omega) (Or.inr hc) (hK I (fr_rfl _ _) hS) o5
    · intro X d I L sw K N b tc hd hS hK
      exact R2_end X (d + 1) I L sw K N b tc p (v0 N) (by omega) p0 hS hc hK
/-- a level out of the next and its own loop -/
theorem J_lev (hn : 0 ≤ n ∧ n ≤ 120) (hE : 8 ≤ E) (hl : 0 ≤ lv ∧ lv < 5) (hen : Rent R E cm cm' n tx o) (hef : Rentf E cm cm' n tx o) (IH : ∀ p s st op, 0 ≤ p → p ≤ n → 0 ≤ s → s ≤ p → PRS E (cxl (lv + 1) o) cm' n tx p s st op o) (lo : ∀ s0 p s st op v0, 0 ≤ s0 → 0 ≤ p → p ≤ n → s0 < s → s ≤ p → RN s0 s st op v0 → (∀ N, -2147483648 ≤ v0 N ∧ v0 N ≤ 2147483647) → LPS lv R E n tx o s0 p s st op 0 v0) (p s : Int) (st op : Int → Int) (p0 : 0 ≤ p) (pn : p ≤ n) (h0 : 0 ≤ s) (sp : s ≤ p) : PRS (E + 1) (cxl lv o) cm n tx p s st op o := by
  have dd : ∀ d : Nat, E + 1 ≤ d → ∃ d', d = d' + 1 ∧ E ≤ d' ∧ 8 ≤ d' := fun d h => ⟨d - 1, by omega, by omega, by omega⟩
  rcases IH p s st op p0 pn h0 sp with ⟨q, s1, st1, op1, w, f1, f2, f3, hx, hm, hr1⟩ | ⟨q, f1, hx, hm⟩
  · rcases lo s q s1 st1 op1 w h0 (by omega) (by omega) (by omega) (by omega) hr1 f3 with ⟨q2, s2, st2, op2, v, g1, g2, g3, gx, gm, gr⟩ | ⟨q2, g1, gx, gm⟩
    · refine Or.inl ⟨q2, s2, st2, op2, v, by omega, fun k hk => ⟨(g2 k (by omega)).1.trans (f2 k hk).1, (g2 k (by omega)).2.trans (f2 k hk).2⟩, g3, ?_, ?_, gr⟩
      · intro X d I L sw K hd hS hK
        obtain ⟨d, rfl, e1, e2⟩ := dd d hd
        exact XL_enter e1 hS hl hx (fun J hJ hSJ => gx X d J L sw K e1 hSJ (fun M hM => hK M (fr_tr hJ hM)))
      · intro X d I L sw K N b tc hd hS hK
        obtain ⟨d, rfl, e1, e2⟩ := dd d hd
        exact hen X d I L sw K N b tc p q w e2 e1 (by omega) hS hm (fun J hJ hSJ => gm X d J L sw K N b tc e1 hSJ (fun M hM => hK M (fr_tr hJ hM)))
    · refine Or.inr ⟨q2, by omega, ?_, ?_⟩
      · intro X d I L sw K hd hS hK
        obtain ⟨d, rfl, e1, e2⟩ := dd d hd
        exact XL_enter e1 hS hl hx (fun J hJ hSJ => gx X d J L sw K e1 hSJ (fun M hM => hK M (fr_tr hJ hM)))
      · intro X d I L sw K N b tc hd hS hK
        obtain ⟨d, rfl, e1, e2⟩ := dd d hd
        exact hen X d I L sw K N b tc p q w e2 e1 (by omega) hS hm (fun J hJ hSJ => gm X d J L sw K N b tc e1 hSJ (fun M r hM => hK M r (fr_tr hJ hM)))
  · refine Or.inr ⟨q, by omega, ?_, ?_⟩
    · intro X d I L sw K hd hS hK
      obtain ⟨d, rfl, e1, e2⟩ := dd d hd
      exact XL_enterF e1 hS hl hx hK
    · intro X d I L sw K N b tc hd hS hK
      obtain ⟨d, rfl, e1, e2⟩ := dd d hd
      exact hef X d I L sw K N b tc p q e2 e1 (by omega) hS hm hK
theorem J_five (h : PRS E (cxo o) cm5 n tx p s st op o) : PRS (E + 1) (cxl 5 o) cm5 n tx p s st op o := by
  rcases h with ⟨q, s', st', op', v, h1, h2, h3, h4, h5, h6⟩ | ⟨q, h1, h2, h3⟩
  · exact Or.inl ⟨q, s', st', op', v, h1, h2, h3, XL_five h4, fun X d I L sw K N b tc hE => h5 X d I L sw K N b tc (by omega), h6⟩
  · exact Or.inr ⟨q, h1, XL_fiveF h2, fun X d I L sw K N b tc hE => h3 X d I L sw K N b tc (by omega)⟩
/-- all levels out of one -/
theorem J_up (hn : 0 ≤ n ∧ n ≤ 120) (hE : 8 ≤ E) (IH : ∀ p s st op, 0 ≤ p → p ≤ n → 0 ≤ s → s ≤ p → PRS E (cxo o) cm5 n tx p s st op o) : ∀ p s st op, 0 ≤ p → p ≤ n → 0 ≤ s → s ≤ p → PRS (E + 6) (cxl 0 o) cm0 n tx p s st op o := by
  have h5 : ∀ p s st op, 0 ≤ p → p ≤ n → 0 ≤ s → s ≤ p → PRS (E + 1) (cxl 5 o) cm5 n tx p s st op o := fun p s st op a b c d => J_five (IH p s st op a b c d)
  have h4 : ∀ p s st op, 0 ≤ p → p ≤ n → 0 ≤ s → s ≤ p → PRS (E + 2) (cxl 4 o) cm4 n tx p s st op o := J_lev (R := RL4 n tx) hn (by omega) (by decide) R4_ent R4_entf h5 (fun s0 p s st op v0 a b c d e => J_loop hn (by omega) (by decide) R4_end R4_step R4_fail h5 a 0 p s st op 0 v0 b b c d e (by decide) b)
  have h3 : ∀ p s st op, 0 ≤ p → p ≤ n → 0 ≤ s → s ≤ p → PRS (E + 3) (cxl 3 o) cm3 n tx p s st op o := J_lev (R := RL3) hn (by omega) (by decide) R3_ent R3_entf h4 (fun s0 p s st op v0 a b c d e => J_loop hn (by omega) (by decide) R3_end R3_step R3_fail h4 a 0 p s st op 0 v0 b b c d e (by decide) b)
  have h2 : ∀ p s st op, 0 ≤ p → p ≤ n → 0 ≤ s → s ≤ p → PRS (E + 4) (cxl 2 o) cm2 n tx p s st op o := J_lev (R := RL2) hn (by omega) (by decide) R2_ent R2_entf h3 (fun s0 p s st op v0 a b c d e => J_once hn (by omega) h3 a p s st op v0 b c d e)
  have h1 : ∀ p s st op, 0 ≤ p → p ≤ n → 0 ≤ s → s ≤ p → PRS (E + 5) (cxl 1 o) cm1 n tx p s st op o := J_lev (R := RL1) hn (by omega) (by decide) R1_ent R1_entf h2 (fun s0 p s st op v0 a b c d e => J_loop hn (by omega) (by decide) R1_end R1_step R1_fail h2 a 0 p s st op 0 v0 b b c d e (by decide) b)
  exact J_lev (R := RL0) hn (by omega) (by decide) R0_ent R0_entf h1 (fun s0 p s st op v0 a b c d e => J_loop hn (by omega) (by decide) R0_end R0_step R0_fail h1 a 0 p s st op 0 v0 b b c d e (by decide) b)
theorem J_all (hn : 0 ≤ n ∧ n ≤ 120) : ∀ (k : Nat) (o : Int), o + k = 6 → 0 ≤ o → (∀ p s st op, 0 ≤ p → p ≤ n → 0 ≤ s → s ≤ p → PRS (9 + 7 * k) (cxo o) cm5 n tx p s st op o) ∧ (∀ p s st op, 0 ≤ p → p ≤ n → 0 ≤ s → s ≤ p → PRS (15 + 7 * k) (cxl 0 o) cm0 n tx p s st op o) := by
  intro k
  induction k with
  | zero =>
    intro o ho o0
    have h1 : ∀ p s st op, 0 ≤ p → p ≤ n → 0 ≤ s → s ≤ p → PRS 9 (cxo o) cm5 n tx p s st op o := J_one (E := 8) hn (by omega) (by omega) (fun h => absurd h (by omega)) (fun h => absurd h (by omega))
    exact ⟨h1, J_up (E := 9) hn (by omega) h1⟩
  | succ k ih =>
    intro o ho o0
    obtain ⟨i1, i0⟩ := ih (o + 1) (by omega) (by omega)
    have h1 : ∀ p s st op, 0 ≤ p → p ≤ n → 0 ≤ s → s ≤ p → PRS (15 + 7 * k + 1) (cxo o) cm5 n tx p s st op o := J_one (E := 15 + 7 * k) hn (by omega) (by omega) (fun _ => i0) (fun _ p s st op a b c d => (i1 p s st op a b c d).mono (by omega))
    have h2 := J_up (E := 15 + 7 * k + 1) hn (by omega) h1
    exact ⟨fun p s st op a b c d => (h1 p s st op a b c d).mono (by omega), fun p s st op a b c d => (h2 p s st op a b c d).mono (by omega)⟩
end JO
