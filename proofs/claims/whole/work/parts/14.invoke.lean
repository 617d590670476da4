/-! the calls, by their kinds -/
theorem ts_calr_all {c i k y n : Nat} (h : ts_calr ((c, i), k, y, n) = true) (hk : k = 0 ∨ k = 1 ∨ k = 2 ∨ k = 3 ∨ k = 4) : y < 250 ∧ ¬ y = 238 ∧ (parseMethodDescriptor (ts_y y).desc).map (fun d => d.parameters.length) = some n ∧ (k = 2 ∨ k = 4 → (ts_y y).name = "<init>") := by
  unfold ts_calr at h
  rcases hk with rfl | rfl | rfl | rfl | rfl <;> simp only [Bool.and_eq_true, decide_eq_true_eq, Bool.not_eq_true', decide_eq_false_iff_not, Bool.or_eq_true] at h
  · exact ⟨h.1.1.1, h.1.1.2, h.1.2, fun q => by omega⟩
  · exact ⟨h.1.1.1, h.1.1.2, h.1.2, fun q => by omega⟩
  · refine ⟨h.1.1.1, h.1.1.2, h.1.2, fun _ => ?_⟩
    rcases h.2 with ((h | h) | h) | h
    · exact h
    · cases h
    · cases h
    · cases h
  · exact ⟨h.1.1.1, h.1.1.2, h.1.2, fun q => by omega⟩
  · refine ⟨h.1.1.1, h.1.1.2, h.1.2, fun _ => ?_⟩
    rcases h.2 with ((h | h) | h) | h
    · exact h
    · cases h
    · cases h
    · cases h
theorem ts_nest_mem {c i k y n : Nat} (h : ts_cal c i = some (k, y, n)) (hk : k = 3 ∨ k = 4) : Jvm.Cond.methodLinkNest (ts_cn.getD c "") i (ts_y y) "ThreshedSound" ∈ ts_nest := by
  have h1 := List.all_eq_true.mp ts_nest_all _ (ts_lookup_mem h)
  simp only [Bool.or_eq_true, decide_eq_true_eq] at h1
  rcases h1 with h1 | h1
  · rcases hk with rfl | rfl <;> cases h1
  · exact h1
section INVOKE
variable {p : Program} {l : Launch} {e : Env} {Rm : Room} {s : State} {mi : MethodId} {args : Array Value} {below : List Frame} {meth : Method} {c : Code} {Qf : State → Prop} {D : va_G} {b0 m d : Nat} {E : ts_S} {cA0 : Nat → ClassId} {ad0 : Nat → Nat} {X : ts_X} {C : ts_C} {K : Option Value → ts_H → Prop} {pc nx tg : Nat} {lv st : List Value} {h : ts_H}
theorem ts_split {n : Nat} {ad : Nat → Nat} {rest : List Value} {a : Nat} (hd : st.drop n = .ref a :: rest) : st.map (ts_tr ad) = ((st.take n).reverse.map (ts_tr ad)).reverse ++ .ref (ad a) :: rest.map (ts_tr ad) := by
  conv => lhs; rw [← List.take_append_drop n st, hd]
  rw [List.map_append, List.map_reverse, List.reverse_reverse]
  rfl
theorem ts_splitS {n : Nat} {ad : Nat → Nat} : st.map (ts_tr ad) = ((st.take n).reverse.map (ts_tr ad)).reverse ++ (st.drop n).map (ts_tr ad) := by
  conv => lhs; rw [← List.take_append_drop n st]
  rw [List.map_append, List.map_reverse, List.reverse_reverse]
theorem ts_asl {n : Nat} {ad : Nat → Nat} (hl : (st.take n).length = n) : ((st.take n).reverse.map (ts_tr ad)).length = n := by
  rw [List.length_map, List.length_reverse]
  exact hl
theorem sd_invokevirtual {k : Nat} (Fx : ts_Fx p Rm s mi args meth c b0 X ad0 m d) (hSnd : ts_Snd l D b0 X C d) (hi : ts_ins m pc = some (.invokevirtual k, nx, tg)) (H0 : ts_Fi X C m E K (ts_Ws p l e Rm s mi args below meth c Qf D b0 m E cA0 ad0) (.invokevirtual k) nx tg pc lv st h) : ts_Ws p l e Rm s mi args below meth c Qf D b0 m E cA0 ad0 pc lv st h := by
  have hnx : nx = pc + ts_len _ := ts_len1 hi (fun _ _ _ _ q => by cases q) (fun _ _ q => by cases q)
  simp only [ts_len] at hnx
  subst hnx
  simp only [ts_Fi] at H0
  split at H0
  · rename_i y n hc
    split at H0
    · rename_i a rest hd
      obtain ⟨hrc, hlen, H0⟩ := H0
      intro cA ad H locs ls hK hP hD hS hl hg
      obtain ⟨hw, hr⟩ := ts_cal_ok hc
      obtain ⟨hy, hy2, hpar, -⟩ := ts_calr_all hr (Or.inl rfl)
      obtain ⟨m1, m2, m3, m4, m5, m6⟩ := ts_mr_all hy hy2
      have hcat := H0.1
      refine ts_call_step (av := (Value.ref (ad a) :: (st.take n).reverse.map (ts_tr ad)).toArray) Fx hSnd hy hy2 H0 hK hS hl hg (fun K' hM hf => ?_)
      have Fx' := Fx
      obtain ⟨hx, hb, hml, hown, hts, hb0, hZ, -⟩ := Fx
      rw [ts_split hd]
      have hrecv : ∃ cellB : Cell, H[ad a]? = some cellB ∧ cellB.vm.isStatics = false ∧ s.vm.findClass (ts_y y).cls = some cellB.cls := by
        rcases hrc with ⟨rfl, e17⟩ | e17
        · have zS := hZ.2.2.2.2.2.1.2
          have a4 := hg.1 1004 (Or.inr (by decide))
          have a5 := hg.1 1005 (Or.inr (by decide))
          rw [← a4, ← a5] at zS
          rw [m2]
          unfold ts_own
          rw [e17]
          exact vk_recv (i := 0) zS (by decide) hS
        · unfold ts_rcv at e17
          rw [Bool.and_eq_true] at e17
          have h13 : ts_mc y < 13 := by simpa using e17.2
          obtain ⟨ha1, i, n2, rfl, hsi⟩ := ts_isI_some e17.1
          rw [m2]
          exact va_recv hK hP (ts_cl_get h13) (by rw [ts_W_get hsi, ts_cto])
      refine va_runV (As := (st.take n).reverse.map (ts_tr ad)) (C := (ts_y y).cls) ⟨hx, hb, hml, hown, hts⟩ hM (cwV n hts (ts_good (fun w hw1 => ?_)) rfl rfl rfl ⟨rfl, m3, m4, hpar⟩ (ts_hR Fx' m5)) ⟨ts_blind, hrecv, fun U hU hW => ⟨rfl, ts_pre Fx' hK hP hD hS hg.1 U hU hW⟩⟩ rfl (ts_asl hlen) hl.1 rfl (lv_room (by rw [ts_cat_tr]; exact hcat)) (ts_dec hi rfl) hf
      unfold wsV at hw1
      rcases List.mem_append.mp hw1 with q | q
      · simp only [List.mem_cons, List.not_mem_nil, or_false] at q
        rcases q with rfl | rfl | rfl | rfl
        · exact hw _ List.mem_cons_self
        · exact hw _ (List.mem_cons_of_mem _ List.mem_cons_self)
        · exact hw _ (List.mem_cons_of_mem _ (List.mem_cons_of_mem _ List.mem_cons_self))
        · exact (ts_m_ok hy hy2).1 _ List.mem_cons_self
      · exact ts_ws_gw hy hy2 w q
    · exact H0.elim
  · exact H0.elim
end INVOKE
section INVOKES
variable {p : Program} {l : Launch} {e : Env} {Rm : Room} {s : State} {mi : MethodId} {args : Array Value} {below : List Frame} {meth : Method} {c : Code} {Qf : State → Prop} {D : va_G} {b0 m d : Nat} {E : ts_S} {cA0 : Nat → ClassId} {ad0 : Nat → Nat} {X : ts_X} {C : ts_C} {K : Option Value → ts_H → Prop} {pc nx tg : Nat} {lv st : List Value} {h : ts_H}
theorem sd_invokespecial {k : Nat} (Fx : ts_Fx p Rm s mi args meth c b0 X ad0 m d) (hSnd : ts_Snd l D b0 X C d) (hi : ts_ins m pc = some (.invokespecial k, nx, tg)) (H0 : ts_Fi X C m E K (ts_Ws p l e Rm s mi args below meth c Qf D b0 m E cA0 ad0) (.invokespecial k) nx tg pc lv st h) : ts_Ws p l e Rm s mi args below meth c Qf D b0 m E cA0 ad0 pc lv st h := by
  have hnx : nx = pc + ts_len _ := ts_len1 hi (fun _ _ _ _ q => by cases q) (fun _ _ q => by cases q)
  simp only [ts_len] at hnx
  subst hnx
  simp only [ts_Fi] at H0
  split at H0
  · rename_i z1 z2 hc
    split at H0
    · rename_i a rest
      obtain ⟨hcat, H0⟩ := H0
      intro cA ad H locs ls hK hP hD hS hl hg
      obtain ⟨hw, -⟩ := ts_cal_ok hc
      obtain ⟨hx, hb, hml, hown, hts, hb0, hZ, hnm, hfr, hlo, -, -⟩ := Fx
      refine W.objInit hx hb hown (hts _ (hw _ List.mem_cons_self)) (hts _ (ts_misc _ (by simp))) (hts _ (ts_misc _ (by simp))) (g := F0 mi pc ls (.ref (ad a) :: rest.map (ts_tr ad))) rfl (by show ls.size = _; rw [hml]; exact hl.1) rfl (ts_dec hi rfl) (by omega) ?_ ?_
      · have := lv_room (m := mi) (pc := pc) (ls := ls) (rest := .ref (ad a) :: rest.map (ts_tr ad)) (st := rest.map (ts_tr ad)) (by rw [ts_cat_tr]; exact hcat)
        omega
      · exact H0 cA ad H locs ls hK hP hD hS hl hg
    · exact H0.elim
  · rename_i y n hc
    split at H0
    · rename_i a rest hd
      obtain ⟨ha, hlen, H0⟩ := H0
      intro cA ad H locs ls hK hP hD hS hl hg
      obtain ⟨hw, hr⟩ := ts_cal_ok hc
      obtain ⟨hy, hy2, hpar, hin⟩ := ts_calr_all hr (Or.inr (Or.inr (Or.inl rfl)))
      obtain ⟨m1, m2, m3, m4, m5, m6⟩ := ts_mr_all hy hy2
      have hcat := H0.1
      refine ts_call_step (av := (Value.ref (ad a) :: (st.take n).reverse.map (ts_tr ad)).toArray) Fx hSnd hy hy2 H0 hK hS hl hg (fun K' hM hf => ?_)
      have Fx' := Fx
      obtain ⟨hx, hb, hml, hown, hts, hb0, hZ, -⟩ := Fx
      rw [ts_split hd]
      have hret : ts_rt1 y = none := m6 (hin (Or.inl rfl))
      have hws : ts_ws y = Cond.code (ts_y y) (ts_bt y) (ts_ml y) none :: ts_gw := by unfold ts_ws; rw [hret]
      exact va_runI (As := (st.take n).reverse.map (ts_tr ad)) ⟨hx, hb, hml, hown, hts⟩ hM (cwI n hts (ts_good (ts_ws_gw hy hy2)) hws rfl rfl (hts _ ((ts_m_ok hy hy2).1 _ List.mem_cons_self)) (hts _ (hw _ List.mem_cons_self)) (hts _ (hw _ (List.mem_cons_of_mem _ List.mem_cons_self))) (hin (Or.inl rfl)) ⟨m3, m4, hpar⟩ (ts_hR Fx' m5)) ⟨ts_blind, fun U hU hW => ⟨rfl, ts_pre Fx' hK hP hD hS hg.1 U hU hW⟩⟩ rfl (ts_asl hlen) hl.1 rfl (lv_room (by rw [ts_cat_tr]; exact hcat)) (ts_dec hi rfl) hf
    · exact H0.elim
  · rename_i y n hc
    split at H0
    · rename_i a rest hd
      obtain ⟨ha, hlen, H0⟩ := H0
      intro cA ad H locs ls hK hP hD hS hl hg
      obtain ⟨hw, hr⟩ := ts_cal_ok hc
      obtain ⟨hy, hy2, hpar, hin⟩ := ts_calr_all hr (Or.inr (Or.inr (Or.inr (Or.inr rfl))))
      obtain ⟨m1, m2, m3, m4, m5, m6⟩ := ts_mr_all hy hy2
      have hcat := H0.1
      refine ts_call_step (av := (Value.ref (ad a) :: (st.take n).reverse.map (ts_tr ad)).toArray) Fx hSnd hy hy2 H0 hK hS hl hg (fun K' hM hf => ?_)
      have Fx' := Fx
      obtain ⟨hx, hb, hml, hown, hts, hb0, hZ, -⟩ := Fx
      rw [ts_split hd]
      have hret : ts_rt1 y = none := m6 (hin (Or.inr rfl))
      have hws : ts_ws y = Cond.code (ts_y y) (ts_bt y) (ts_ml y) none :: ts_gw := by unfold ts_ws; rw [hret]
      exact va_runIN (As := (st.take n).reverse.map (ts_tr ad)) ⟨hx, hb, hml, hown, hts⟩ hM ⟨va_cnB n hts (ts_good (ts_ws_gw hy hy2)) hws rfl rfl (hZ.2.2.2.2.2.2.1 _ (ts_nest_mem hc (Or.inr rfl))) (hts _ ((ts_m_ok hy hy2).1 _ List.mem_cons_self)) ⟨m3, m4, hpar⟩ (ts_hR Fx' m5), hin (Or.inr rfl), hts _ (hw _ List.mem_cons_self)⟩ ⟨ts_blind, fun U hU hW => ⟨rfl, ts_pre Fx' hK hP hD hS hg.1 U hU hW⟩⟩ rfl (ts_asl hlen) hl.1 rfl (lv_room (by rw [ts_cat_tr]; exact hcat)) (ts_dec hi rfl) hf
    · exact H0.elim
  · exact H0.elim
theorem ts_copy_words {k z zz : Nat} (hc : ts_cal (ts_mc m) k = some (9, z, zz)) (hts : ∀ w ∈ ts_gw, w.before args s = true) : (Cond.methodLink (ts_own m) k arraycopyName).before args s = true ∧ (Cond.native arraycopyName).before args s = true ∧ (Cond.static arraycopyName).before args s = true ∧ (Cond.initialized "java/lang/System").before args s = true :=
  ⟨hts _ ((ts_cal_ok hc).1 _ List.mem_cons_self), hts _ (ts_misc _ (by simp)), hts _ (ts_misc _ (by simp)), hts _ (ts_misc _ (by simp))⟩
theorem sd_invokestatic {k : Nat} (Fx : ts_Fx p Rm s mi args meth c b0 X ad0 m d) (hSnd : ts_Snd l D b0 X C d) (hi : ts_ins m pc = some (.invokestatic k, nx, tg)) (H0 : ts_Fi X C m E K (ts_Ws p l e Rm s mi args below meth c Qf D b0 m E cA0 ad0) (.invokestatic k) nx tg pc lv st h) : ts_Ws p l e Rm s mi args below meth c Qf D b0 m E cA0 ad0 pc lv st h := by
  have hnx : nx = pc + ts_len _ := ts_len1 hi (fun _ _ _ _ q => by cases q) (fun _ _ q => by cases q)
  simp only [ts_len] at hnx
  subst hnx
  simp only [ts_Fi] at H0
  split at H0
  · rename_i y n hc
    obtain ⟨hlen, H0⟩ := H0
    intro cA ad H locs ls hK hP hD hS hl hg
    obtain ⟨hw, hr⟩ := ts_cal_ok hc
    obtain ⟨hy, hy2, hpar, -⟩ := ts_calr_all hr (Or.inr (Or.inl rfl))
    obtain ⟨m1, m2, m3, m4, m5, m6⟩ := ts_mr_all hy hy2
    have hcat := H0.1
    refine ts_call_step (av := ((st.take n).reverse.map (ts_tr ad)).toArray) Fx hSnd hy hy2 H0 hK hS hl hg (fun K' hM hf => ?_)
    have Fx' := Fx
    obtain ⟨hx, hb, hml, hown, hts, hb0, hZ, -⟩ := Fx
    rw [ts_splitS (n := n)]
    refine va_runS (As := (st.take n).reverse.map (ts_tr ad)) ⟨hx, hb, hml, hown, hts⟩ hM (va_cwS n hts (ts_good (fun w hw1 => ?_)) rfl rfl rfl ⟨m3, m4, hpar⟩ (ts_hR Fx' m5)) ⟨ts_blind, fun U hU hW => ⟨rfl, ts_pre Fx' hK hP hD hS hg.1 U hU hW⟩⟩ rfl (ts_asl hlen) hl.1 rfl (lv_room (by rw [ts_cat_tr]; exact hcat)) (ts_dec hi rfl) hf
    unfold va_wsS at hw1
    rcases List.mem_append.mp hw1 with q | q
    · simp only [List.mem_cons, List.not_mem_nil, or_false] at q
      rcases q with rfl | rfl | rfl
      · exact hw _ List.mem_cons_self
      · exact hw _ (List.mem_cons_of_mem _ List.mem_cons_self)
      · exact (ts_m_ok hy hy2).1 _ List.mem_cons_self
    · exact ts_ws_gw hy hy2 w q
  · rename_i y n hc
    obtain ⟨hlen, H0⟩ := H0
    intro cA ad H locs ls hK hP hD hS hl hg
    obtain ⟨hw, hr⟩ := ts_cal_ok hc
    obtain ⟨hy, hy2, hpar, -⟩ := ts_calr_all hr (Or.inr (Or.inr (Or.inr (Or.inl rfl))))
    obtain ⟨m1, m2, m3, m4, m5, m6⟩ := ts_mr_all hy hy2
    have hcat := H0.1
    refine ts_call_step (av := ((st.take n).reverse.map (ts_tr ad)).toArray) Fx hSnd hy hy2 H0 hK hS hl hg (fun K' hM hf => ?_)
    have Fx' := Fx
    obtain ⟨hx, hb, hml, hown, hts, hb0, hZ, -⟩ := Fx
    rw [ts_splitS (n := n)]
    exact va_runSN (As := (st.take n).reverse.map (ts_tr ad)) ⟨hx, hb, hml, hown, hts⟩ hM ⟨va_cnB n hts (ts_good (ts_ws_gw hy hy2)) rfl rfl rfl (hZ.2.2.2.2.2.2.1 _ (ts_nest_mem hc (Or.inl rfl))) (hts _ ((ts_m_ok hy hy2).1 _ List.mem_cons_self)) ⟨m3, m4, hpar⟩ (ts_hR Fx' m5), hts _ (hw _ List.mem_cons_self), trivial⟩ ⟨ts_blind, fun U hU hW => ⟨rfl, ts_pre Fx' hK hP hD hS hg.1 U hU hW⟩⟩ rfl (ts_asl hlen) hl.1 rfl (lv_room (by rw [ts_cat_tr]; exact hcat)) (ts_dec hi rfl) hf
  · rename_i z1 z2 hc
    split at H0
    · rename_i b a rest
      obtain ⟨hcat, H0⟩ := H0
      intro cA ad H locs ls hK hP hD hS hl hg
      obtain ⟨hx, hb, hml, hown, hts, hb0, hZ, hnm, hfr, hlo, hce, hsl⟩ := Fx
      refine va_mmax hx hb (hml.trans hl.1.symm) hown (hts _ ((ts_cal_ok hc).1 _ List.mem_cons_self)) (hts _ (ts_misc _ (by simp))) (hts _ (ts_misc _ (by simp))) (hts _ (ts_misc _ (by simp))) (by omega) (by rw [ts_cat_tr]; omega) (by omega) (by omega) (ts_dec hi rfl) ?_
      exact H0 cA ad H locs ls hK hP hD hS hl hg
    · exact H0.elim
  · rename_i z1 z2 hc
    split at H0
    · rename_i b a rest
      obtain ⟨hcat, H0⟩ := H0
      intro cA ad H locs ls hK hP hD hS hl hg
      obtain ⟨hx, hb, hml, hown, hts, hb0, hZ, hnm, hfr, hlo, hce, hsl⟩ := Fx
      refine va_mmin hx hb (hml.trans hl.1.symm) hown (hts _ ((ts_cal_ok hc).1 _ List.mem_cons_self)) (hts _ (ts_misc _ (by simp))) (hts _ (ts_misc _ (by simp))) (hts _ (ts_misc _ (by simp))) (by omega) (by rw [ts_cat_tr]; omega) (by omega) (by omega) (ts_dec hi rfl) ?_
      exact H0 cA ad H locs ls hK hP hD hS hl hg
    · exact H0.elim
  · rename_i z1 z2 hc
    split at H0
    · rename_i a rest
      obtain ⟨hcat, H0⟩ := H0
      intro cA ad H locs ls hK hP hD hS hl hg
      obtain ⟨hx, hb, hml, hown, hts, hb0, hZ, hnm, hfr, hlo, hce, hsl⟩ := Fx
      refine va_mabs hx hb (hml.trans hl.1.symm) hown (hts _ ((ts_cal_ok hc).1 _ List.mem_cons_self)) (hts _ (ts_misc _ (by simp))) (hts _ (ts_misc _ (by simp))) (hts _ (ts_misc _ (by simp))) (by omega) (by rw [ts_cat_tr]; omega) (by omega) (by omega) (ts_dec hi rfl) ?_
      exact H0 cA ad H locs ls hK hP hD hS hl hg
    · exact H0.elim
  · rename_i z1 z2 hc
    split at H0
    · rename_i n dp b sp a rest
      obtain ⟨kk, na, nb, hsa, hsb, n1, n2, n3, n4, n5, hcat, H0⟩ := H0
      intro cA ad H locs ls hK hP hD hS hl hg
      obtain ⟨hx, hb, hml, hown, hts, hb0, hZ, hnm, hfr, hlo, hce, hsl⟩ := Fx
      obtain ⟨w1, w2, w3, w4⟩ := ts_copy_words hc hts
      obtain ⟨ha1, i, rfl, hsi⟩ := ts_sA_some hsa
      obtain ⟨hb1, j, rfl, hsj⟩ := ts_sA_some hsb
      have hnat : nativeFrameWords "java/lang/System" "arraycopy" 5 ≤ 40 := by decide +kernel
      rcases H0 with ⟨rfl, H0⟩ | ⟨rfl, H0⟩
      · refine va_copyi hx hb (hml.trans hl.1.symm) hown w1 w2 w3 w4 hK hP hD hS i j (i + 2) (j + 2) (ty := .int) (by rw [ts_W_get hsi, ts_ct0]) (by rw [ts_W_get hsj, ts_ct0]) (ts_tys_get hsi (by decide)) (ts_tys_get hsj (by decide)) rfl n1 n2 n3 n4 n5 (fun _ _ => rfl) (by omega) (by rw [ts_cat_tr]; omega) (ts_dec hi rfl) (fun H1 locs1 hP1 hD1 hS1 => ?_)
        rw [ts_W_cpI hsj] at hP1 hD1
        exact H0 cA ad H1 locs1 ls hK hP1 hD1 hS1 hl hg
      · refine va_copyl hx hb (hml.trans hl.1.symm) hown w1 w2 w3 w4 hK hP hD hS i j (i + 2) (j + 2) (ty := .long) (by rw [ts_W_get hsi, ts_ct1]) (by rw [ts_W_get hsj, ts_ct1]) (ts_tys_get hsi (by decide)) (ts_tys_get hsj (by decide)) rfl n1 n2 n3 n4 n5 (fun _ _ => rfl) (by omega) (by rw [ts_cat_tr]; omega) (ts_dec hi rfl) (fun H1 locs1 hP1 hD1 hS1 => ?_)
        rw [ts_W_cpL hsj] at hP1 hD1
        exact H0 cA ad H1 locs1 ls hK hP1 hD1 hS1 hl hg
    · exact H0.elim
  · exact H0.elim
end INVOKES
