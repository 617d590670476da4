/-! new cells -/
theorem ts_W_grow {cA cA' : Nat → ClassId} {ad ad' : Nat → Nat} {h h' : ts_H} {S2 : ts_S} {w2 : va_W} (hS : h'.2.2.2 = h.2.2.2 ++ S2) (hl : w2.length = S2.length) (hw2 : ∀ j k n, S2[j]? = some (k, n) → w2[j]? = some (ad' (h.2.2.2.length + j + 1), ts_ct cA' ad' h' (h.2.2.2.length + j + 1) k n)) (hold : ∀ i k n, h.2.2.2[i]? = some (k, n) → ad' (i + 1) = ad (i + 1) ∧ ts_ct cA' ad' h' (i + 1) k n = ts_ct cA ad h (i + 1) k n) : ts_W cA ad h ++ w2 = ts_W cA' ad' h' := by
  refine ts_W_ext (cA := cA) (ad := ad) (h := h) (by simp [ts_W_len, hS, hl]) fun i k n hi => ?_
  rw [hS] at hi
  by_cases hlt : i < h.2.2.2.length
  · rw [List.getElem?_append_left hlt] at hi
    rw [List.getElem?_append_left (by rw [ts_W_len]; exact hlt), ts_W_get hi]
    obtain ⟨e1, e2⟩ := hold i k n hi
    rw [e1, e2]
  · rw [List.getElem?_append_right (by omega)] at hi
    rw [List.getElem?_append_right (by rw [ts_W_len]; omega), ts_W_len, hw2 _ k n hi, show h.2.2.2.length + (i - h.2.2.2.length) + 1 = i + 1 by omega]
theorem ts_po_old {P P2 : List (List Nat)} {ad ad' : Nat → Nat} {n i : Nat} (hag : ts_ag n ad ad') (hv : ts_vp n P = true) (hi : i < P.length) : ts_po ad' (P ++ P2) (i + 1) = ts_po ad P (i + 1) := by
  funext j
  have e : ts_pg (P ++ P2) (i + 1) j = ts_pg P (i + 1) j := by simp only [ts_pg, List.getElem?_append_left hi]
  simp only [ts_po, e]
  cases hp : ts_pg P (i + 1) j with
  | none => rfl
  | some r =>
    have hr : r ≤ n := by
      simp only [ts_pg] at hp
      cases hq : P[i]? with
      | none => rw [hq] at hp; cases hp
      | some row =>
        simp only [hq] at hp
        have h1 := List.all_eq_true.mp hv row (List.mem_of_getElem? hq)
        exact Nat.le_of_ble_eq_true (List.all_eq_true.mp h1 r (List.mem_of_getElem? hp))
    simp only [hag r (Or.inl hr)]
theorem ts_ct_old {cA cA' : Nat → ClassId} {ad ad' : Nat → Nat} {h h' : ts_H} {b k n : Nat} (h1 : h'.1 b = h.1 b) (h2 : h'.2.1 b = h.2.1 b) (h3 : ts_po ad' h'.2.2.1 b = ts_po ad h.2.2.1 b) (h0 : cA' 0 = cA 0) (h0' : cA' 1 = cA 1) (hk : k < 10 → cA' k = cA k) : ts_ct cA' ad' h' b k n = ts_ct cA ad h b k n := by
  have e4 : ts_fv ad' h' b (k - 10) = ts_fv ad h b (k - 10) := by
    funext j
    simp only [ts_fv, h3, h1]
  unfold ts_ct
  by_cases a0 : k = 0
  · rw [if_pos a0, if_pos a0, h0, h1]
  rw [if_neg a0, if_neg a0]
  by_cases a1 : k = 1
  · rw [if_pos a1, if_pos a1, h0', h2]
  rw [if_neg a1, if_neg a1]
  by_cases a2 : k < 10
  · rw [if_pos a2, if_pos a2, hk a2, h3]
  rw [if_neg a2, if_neg a2, e4]
theorem ts_rz_off {α : Type} {f : Nat → Nat → α} {z : α} {lo hi b : Nat} (h : b < lo) : ts_rz f z lo hi b = f b := by
  funext k
  simp only [ts_rz]
  rw [if_neg (by omega)]
theorem ts_rz_in {α : Type} {f : Nat → Nat → α} {z : α} {lo hi b : Nat} (h : lo ≤ b) (h2 : b < hi) : ts_rz f z lo hi b = fun _ => z := by
  funext k
  simp only [ts_rz]
  rw [if_pos ⟨h, h2⟩]
theorem ts_sz_app (S S2 : ts_S) : ts_sz (S ++ S2) = ts_sz S + ts_sz S2 := by simp [ts_sz, List.map_append, List.sum_append]
theorem ts_K_app {D : va_G} {cl : List vw_C} {tys t2 : List (ClassId × FieldType)} {U : State} (h : va_K D cl tys U) (h2 : ∀ q ∈ t2, ArrOfT U q.1 q.2 ∧ va_RA U q.1 q.2) : va_K D cl (tys ++ t2) U := by
  refine ⟨h.1, fun k q hk => ?_⟩
  rcases List.mem_append.mp (List.mem_of_getElem? hk) with hq | hq
  · obtain ⟨i, hi⟩ := List.getElem?_of_mem hq
    exact h.2 i q hi
  · exact h2 q hq
theorem ts_tys_app {cA : Nat → ClassId} {S S2 : ts_S} : ts_tys cA (S ++ S2) = ts_tys cA S ++ S2.map (fun q => (cA (ts_ak q.1), ts_at (ts_ak q.1))) := by
  unfold ts_tys
  rw [List.map_append]
  rfl
theorem ts_tys_cA {cA cA' : Nat → ClassId} {S : ts_S} (h0 : cA' 0 = cA 0) (h1 : cA' 1 = cA 1) (hq : ∀ q ∈ S, cA' (ts_ak q.1) = cA (ts_ak q.1)) : ts_tys cA' S = ts_tys cA S := by
  unfold ts_tys
  rw [h0, h1]
  congr 2
  apply List.map_congr_left
  intro q h
  rw [hq q h]
section ALLOC
variable {p : Program} {l : Launch} {e : Env} {Rm : Room} {s : State} {mi : MethodId} {args : Array Value} {below : List Frame} {meth : Method} {c : Code} {Qf : State → Prop} {D : va_G} {b0 m d : Nat} {E : ts_S} {cA0 : Nat → ClassId} {ad0 : Nat → Nat} {X : ts_X} {C : ts_C} {K : Option Value → ts_H → Prop} {pc nx tg : Nat} {lv st : List Value} {h : ts_H}
/-- going on over a grown heap -/
theorem ts_grown {st1 : List Value} {pc1 : Nat} {h' : ts_H} {S2 : ts_S} {cA cA' : Nat → ClassId} {ad ad' : Nat → Nat} {H1 : Heap} {locs1 : List Loc} {ls : Array Slot} {cc nn : Nat}
    (hR : ts_room m E lv st h cc nn) (hS2 : S2.length = cc) (hz2 : ts_sz S2 = nn) (hcc : 0 < cc) (hSh : h'.2.2.2 = h.2.2.2 ++ S2) (hag : ts_ag h.2.2.2.length ad ad')
    (hg : ts_ag E.length ad0 ad ∧ (h.2.2.2.length = E.length → ad = ad0 ∧ cA = cA0) ∧ E.length ≤ h.2.2.2.length ∧ ts_sz E ≤ ts_sz h.2.2.2 ∧ h.2.2.2.length ≤ E.length + (ts_mk m).1 ∧ ts_sz h.2.2.2 ≤ ts_sz E + (ts_mk m).2)
    (hl : ts_lok ls (ts_ml m) ad lv) (hst : ts_vl h.2.2.2.length st1 = true)
    (H0 : ts_Ws p l e Rm s mi args below meth c Qf D b0 m E cA0 ad0 pc1 lv (.ref (h.2.2.2.length + 1) :: st1) h')
    (hK1 : va_K D ts_cl (ts_tys cA' h'.2.2.2) s) (hP1 : va_P D ts_cl (ts_W cA' ad' h') H1) (hD1 : va_D (ts_A b0) (ts_W cA' ad' h')) (hS1 : va_S (ts_A b0) s.heap H1 locs1) :
    W p l e Rm s mi args below meth c H1 locs1 (h.2.2.2.length - E.length + cc) (ts_sz h.2.2.2 - ts_sz E + nn) Qf (F0 mi pc1 ls (.ref (ad' (h.2.2.2.length + 1)) :: st1.map (ts_tr ad))) := by
  obtain ⟨r1, r2, r3, r4, r5, r6, r7⟩ := hR
  obtain ⟨g1, g2, g3, g4, g5, g6⟩ := hg
  have hlen : h'.2.2.2.length = h.2.2.2.length + cc := by rw [hSh, List.length_append, hS2]
  have hsz : ts_sz h'.2.2.2 = ts_sz h.2.2.2 + nn := by rw [hSh, ts_sz_app, hz2]
  have hfin := H0 cA' ad' H1 locs1 ls hK1 hP1 hD1 hS1 (hl.ad hag r3) ⟨fun k hk => (hag k (hk.imp (fun q => by omega) id)).trans (g1 k hk), fun q => by omega, by omega, by omega, by omega, by omega⟩
  rw [show h'.2.2.2.length - E.length = h.2.2.2.length - E.length + cc by omega, show ts_sz h'.2.2.2 - ts_sz E = ts_sz h.2.2.2 - ts_sz E + nn by omega] at hfin
  have e : (Value.ref (h.2.2.2.length + 1) :: st1).map (ts_tr ad') = .ref (ad' (h.2.2.2.length + 1)) :: st1.map (ts_tr ad) := by
    rw [List.map_cons, ts_tr_vl hag hst]
    rfl
  rw [e] at hfin
  exact hfin
/-- a cell more: the map of addresses -/
def ts_adn (ad : Nat → Nat) (n q : Nat) : Nat → Nat := fun k => if k = n then q else ad k
theorem ts_adn_ag {ad : Nat → Nat} {n q : Nat} (hn : n + 1 < 1000) : ts_ag n ad (ts_adn ad (n + 1) q) := fun k hk => by
  unfold ts_adn
  rw [if_neg (by omega)]
theorem sd_new {k : Nat} (Fx : ts_Fx p Rm s mi args meth c b0 X ad0 m d) (hi : ts_ins m pc = some (.new k, nx, tg)) (H0 : ts_Fi X C m E K (ts_Ws p l e Rm s mi args below meth c Qf D b0 m E cA0 ad0) (.new k) nx tg pc lv st h) : ts_Ws p l e Rm s mi args below meth c Qf D b0 m E cA0 ad0 pc lv st h := by
  have hnx : nx = pc + ts_len _ := ts_len1 hi (fun _ _ _ _ q => by cases q) (fun _ _ q => by cases q)
  simp only [ts_len] at hnx
  subst hnx
  simp only [ts_Fi] at H0
  split at H0
  · rename_i ci hc
    obtain ⟨n, hn, hR, H0⟩ := H0
    intro cA ad H locs ls hK hP hD hS hl hg
    obtain ⟨hw, hci⟩ := ts_nw_ok hc
    obtain ⟨hx, hb, hml, hown, hts, hb0, hZ, hnm, hfr, hlo, hce, hsl⟩ := Fx
    have hR' := hR
    obtain ⟨r1, r2, r3, r4, r5, r6, r7⟩ := hR'
    obtain ⟨g1, g2, g3, g4, g5, g6⟩ := hg
    have hnN : n = ts_nf ci := hn
    subst hnN
    refine va_new (ci := ci) (fs := (List.range (ts_nf ci)).map (fun j => if (ts_fk.getD ci []).getD j 9 = 2 then Value.null else .int 0)) hx hb hts (ts_cl_ws hci) (ts_tyf ci) (ts_ty_ok hci) hown (hts _ (hw _ List.mem_cons_self)) (hts _ (hw _ (List.mem_cons_of_mem _ List.mem_cons_self))) (hts _ (hw _ (List.mem_cons_of_mem _ (List.mem_cons_of_mem _ List.mem_cons_self)))) hK hP hD hS (fun q hq => Nat.le_trans hb0 hq) (ts_cl_get hci) (fun j hj => ?_) (by omega) (by omega) (ts_dec hi rfl) (fun q H1 hP1 hD1 hS1 => ?_)
    · rw [ts_fd_def hci hj]
      unfold vp_V
      have e9 : ((List.range (ts_nf ci)).map (fun j => if (ts_fk.getD ci []).getD j 9 = 2 then Value.null else .int 0))[j]? = some (if (ts_fk.getD ci []).getD j 9 = 2 then Value.null else .int 0) := by rw [List.getElem?_map, List.getElem?_range hj]; rfl
      rw [List.getD_eq_getElem?_getD (l := List.map _ _), e9]
      rfl
    · have hag := ts_adn_ag (ad := ad) (q := q) (n := h.2.2.2.length) (by omega)
      have hWe : ts_W cA ad h ++ [(q, .inr (ci, (List.range (ts_nf ci)).map (fun j => if (ts_fk.getD ci []).getD j 9 = 2 then Value.null else .int 0)))] = ts_W cA (ts_adn ad (h.2.2.2.length + 1) q) (ts_rz h.1 0 (h.2.2.2.length + 1) (h.2.2.2.length + 2), ts_rz h.2.1 0 (h.2.2.2.length + 1) (h.2.2.2.length + 2), h.2.2.1 ++ [List.replicate (ts_nf ci) 0], h.2.2.2 ++ [(10 + ci, ts_nf ci)]) := by
        refine ts_W_grow (S2 := [(10 + ci, ts_nf ci)]) rfl rfl (fun j k' n' hj => ?_) (fun i k' n' hi' => ?_)
        · cases j with
          | zero =>
            cases hj
            rw [ts_cto]
            show some (q, _) = some (ts_adn ad (h.2.2.2.length + 1) q (h.2.2.2.length + 1), _)
            rw [show ts_adn ad (h.2.2.2.length + 1) q (h.2.2.2.length + 1) = q from if_pos rfl]
            congr 3
            congr 1
            apply List.map_congr_left
            intro j hj
            have hj' := List.mem_range.mp hj
            unfold ts_fv
            have e1 : ts_pg (h.2.2.1 ++ [List.replicate (ts_nf ci) 0]) (h.2.2.2.length + 1) j = some 0 := by
              simp only [ts_pg]
              rw [List.getElem?_append_right (by omega), show h.2.2.2.length - h.2.2.1.length = 0 by omega]
              show (List.replicate (ts_nf ci) 0)[j]? = some 0
              rw [List.getElem?_replicate, if_pos hj']
            have e2 : ts_rz h.1 0 (h.2.2.2.length + 1) (h.2.2.2.length + 2) (h.2.2.2.length + 1) j = 0 := by rw [ts_rz_in (Nat.le_refl _) (by omega)]
            by_cases hk2 : (ts_fk.getD ci []).getD j 9 = 2
            · rw [if_pos hk2, if_pos hk2]
              simp only [ts_po, e1]
              rfl
            · rw [if_neg hk2, if_neg hk2]
              simp only [Nat.add_zero, e2]
          | succ j => cases hj
        · have hlt := (List.getElem?_eq_some_iff.mp hi').1
          refine ⟨hag _ (Or.inl (by omega)), ts_ct_old (ts_rz_off (by omega)) (ts_rz_off (by omega)) (ts_po_old hag r5 (by omega)) rfl rfl (fun _ => rfl)⟩
      rw [hWe] at hP1 hD1
      have hfin := ts_grown (S2 := [(10 + ci, ts_nf ci)]) (cc := 1) (nn := ts_nf ci) hR rfl (by simp [ts_sz]) (by decide) rfl hag ⟨g1, g2, g3, g4, g5, g6⟩ hl r4 H0 (by
        show va_K D ts_cl (ts_tys cA (h.2.2.2 ++ [(10 + ci, ts_nf ci)])) s
        rw [ts_tys_app]
        refine ts_K_app hK (fun x hx1 => ?_)
        simp only [List.map_cons, List.map_nil, List.mem_cons, List.not_mem_nil, or_false] at hx1
        subst hx1
        have e0 : ts_ak (10 + ci) = 0 := by unfold ts_ak; rw [if_neg (by omega)]
        rw [e0]
        exact hK.2 0 _ rfl) hP1 hD1 hS1
      rw [show ts_adn ad (h.2.2.2.length + 1) q (h.2.2.2.length + 1) = q from if_pos rfl] at hfin
      exact hfin
  · exact H0.elim
theorem sd_newarray {ty : ArrayType} (Fx : ts_Fx p Rm s mi args meth c b0 X ad0 m d) (hi : ts_ins m pc = some (.newarray ty, nx, tg)) (H0 : ts_Fi X C m E K (ts_Ws p l e Rm s mi args below meth c Qf D b0 m E cA0 ad0) (.newarray ty) nx tg pc lv st h) : ts_Ws p l e Rm s mi args below meth c Qf D b0 m E cA0 ad0 pc lv st h := by
  have hnx : nx = pc + ts_len _ := ts_len1 hi (fun _ _ _ _ q => by cases q) (fun _ _ q => by cases q)
  simp only [ts_len] at hnx
  subst hnx
  simp only [ts_Fi] at H0
  split at H0
  · rename_i x st1
    obtain ⟨k, n, hty, hx0, hxn, hn1, hR, H0⟩ := H0
    intro cA ad H locs ls hK hP hD hS hl hg
    obtain ⟨hx, hb, hml, hown, hts, hb0, hZ, hnm, hfr, hlo, hce, hsl⟩ := Fx
    have hR' := hR
    obtain ⟨r1, r2, r3, r4, r5, r6, r7⟩ := hR'
    obtain ⟨g1, g2, g3, g4, g5, g6⟩ := hg
    have key : ∀ (q : Nat) (H1 : Heap) (a0 : vp_A) (hk : k = 0 ∧ a0 = (n, .inl (fun _ => 0)) ∨ k = 1 ∧ a0 = (n, .inr (.inl (fun _ => 0)))), va_P D ts_cl (ts_W cA ad h ++ [(q, .inl (cA k, a0))]) H1 → va_D (ts_A b0) (ts_W cA ad h ++ [(q, .inl (cA k, a0))]) → va_S (ts_A b0) s.heap H1 locs → W p l e Rm s mi args below meth c H1 locs (h.2.2.2.length - E.length + 1) (ts_sz h.2.2.2 - ts_sz E + n) Qf (F0 mi (pc + 2) ls (.ref q :: st1.map (ts_tr ad))) := by
      intro q H1 a0 hk hP1 hD1 hS1
      have hag := ts_adn_ag (ad := ad) (q := q) (n := h.2.2.2.length) (by omega)
      have hWe : ts_W cA ad h ++ [(q, .inl (cA k, a0))] = ts_W cA (ts_adn ad (h.2.2.2.length + 1) q) (ts_rz h.1 0 (h.2.2.2.length + 1) (h.2.2.2.length + 2), ts_rz h.2.1 0 (h.2.2.2.length + 1) (h.2.2.2.length + 2), h.2.2.1 ++ [[]], h.2.2.2 ++ [(k, n)]) := by
        refine ts_W_grow (S2 := [(k, n)]) rfl rfl (fun j k' n' hj => ?_) (fun i k' n' hi' => ?_)
        · cases j with
          | zero =>
            cases hj
            show some (q, _) = some (ts_adn ad (h.2.2.2.length + 1) q (h.2.2.2.length + 1), _)
            rw [show ts_adn ad (h.2.2.2.length + 1) q (h.2.2.2.length + 1) = q from if_pos rfl]
            rcases hk with ⟨rfl, rfl⟩ | ⟨rfl, rfl⟩
            · rw [ts_ct0]
              show _ = some (q, Sum.inl (cA 0, n, Sum.inl (ts_rz h.1 0 (h.2.2.2.length + 1) (h.2.2.2.length + 2) (h.2.2.2.length + 1))))
              rw [ts_rz_in (Nat.le_refl _) (by omega)]
            · rw [ts_ct1]
              show _ = some (q, Sum.inl (cA 1, n, Sum.inr (Sum.inl (ts_rz h.2.1 0 (h.2.2.2.length + 1) (h.2.2.2.length + 2) (h.2.2.2.length + 1)))))
              rw [ts_rz_in (Nat.le_refl _) (by omega)]
          | succ j => cases hj
        · have hlt := (List.getElem?_eq_some_iff.mp hi').1
          refine ⟨hag _ (Or.inl (by omega)), ts_ct_old (ts_rz_off (by omega)) (ts_rz_off (by omega)) (ts_po_old hag r5 (by omega)) rfl rfl (fun _ => rfl)⟩
      rw [hWe] at hP1 hD1
      have hfin := ts_grown (S2 := [(k, n)]) (cc := 1) (nn := n) hR rfl (by simp [ts_sz]) (by decide) rfl hag ⟨g1, g2, g3, g4, g5, g6⟩ hl r4 H0 (by
        show va_K D ts_cl (ts_tys cA (h.2.2.2 ++ [(k, n)])) s
        rw [ts_tys_app]
        refine ts_K_app hK (fun x hx1 => ?_)
        simp only [List.map_cons, List.map_nil, List.mem_cons, List.not_mem_nil, or_false] at hx1
        subst hx1
        rcases hk with ⟨rfl, -⟩ | ⟨rfl, -⟩
        · exact hK.2 0 _ rfl
        · exact hK.2 1 _ rfl) hP1 hD1 hS1
      rw [show ts_adn ad (h.2.2.2.length + 1) q (h.2.2.2.length + 1) = q from if_pos rfl] at hfin
      exact hfin
    rcases hty with ⟨rfl, rfl⟩ | ⟨rfl, rfl⟩
    · refine va_newa (atype := .int) (ty := .int) (a0 := (n, .inl (fun _ => 0))) hx hb (hts _ (ts_misc _ (by first | exact List.mem_cons_self | exact List.mem_cons_of_mem _ List.mem_cons_self))) rfl hK hP hD hS (fun q hq => Nat.le_trans hb0 hq) (fun _ => rfl) hx0 hxn (by show n * 4 ≤ _; omega) (by omega) (by omega) (ts_dec hi rfl) (fun q cA1 H1 hK1 hP1 hD1 hS1 => ?_)
      have e1 : cA1 = cA 0 := by
        have f1 : va_RA s cA1 .int := (hK1.2 (ts_tys cA h.2.2.2).length (cA1, .int) (by rw [List.getElem?_append_right (Nat.le_refl _), Nat.sub_self]; rfl)).2
        have f2 : va_RA s (cA 0) .int := (hK.2 0 (cA 0, .int) rfl).2
        exact Option.some.inj (f1.symm.trans f2)
      subst e1
      exact key q H1 _ (Or.inl ⟨rfl, rfl⟩) hP1 hD1 hS1
    · refine va_newa (atype := .long) (ty := .long) (a0 := (n, .inr (.inl (fun _ => 0)))) hx hb (hts _ (ts_misc _ (by first | exact List.mem_cons_self | exact List.mem_cons_of_mem _ List.mem_cons_self))) rfl hK hP hD hS (fun q hq => Nat.le_trans hb0 hq) (fun _ => rfl) hx0 hxn (by show n * 8 ≤ _; omega) (by omega) (by omega) (ts_dec hi rfl) (fun q cA1 H1 hK1 hP1 hD1 hS1 => ?_)
      have e1 : cA1 = cA 1 := by
        have f1 : va_RA s cA1 .long := (hK1.2 (ts_tys cA h.2.2.2).length (cA1, .long) (by rw [List.getElem?_append_right (Nat.le_refl _), Nat.sub_self]; rfl)).2
        have f2 : va_RA s (cA 1) .long := (hK.2 1 (cA 1, .long) rfl).2
        exact Option.some.inj (f1.symm.trans f2)
      subst e1
      exact key q H1 _ (Or.inr ⟨rfl, rfl⟩) hP1 hD1 hS1
  · exact H0.elim
def ts_cAn (cA : Nat → ClassId) (k : Nat) (x : ClassId) : Nat → ClassId := fun j => if j = k then x else cA j
theorem sd_anewarray {k : Nat} (Fx : ts_Fx p Rm s mi args meth c b0 X ad0 m d) (hi : ts_ins m pc = some (.anewarray k, nx, tg)) (H0 : ts_Fi X C m E K (ts_Ws p l e Rm s mi args below meth c Qf D b0 m E cA0 ad0) (.anewarray k) nx tg pc lv st h) : ts_Ws p l e Rm s mi args below meth c Qf D b0 m E cA0 ad0 pc lv st h := by
  have hnx : nx = pc + ts_len _ := ts_len1 hi (fun _ _ _ _ q => by cases q) (fun _ _ q => by cases q)
  simp only [ts_len] at hnx
  subst hnx
  simp only [ts_Fi] at H0
  split at H0
  · rename_i x st1
    obtain ⟨hm11, rfl, n, hx0, hxn, hn1, hR, hno, H0⟩ := H0
    intro cA ad H locs ls hK hP hD hS hl hg
    obtain ⟨hx, hb, hml, hown, hts, hb0, hZ, hnm, hfr, hlo, hce, hsl⟩ := Fx
    have hR' := hR
    obtain ⟨r1, r2, r3, r4, r5, r6, r7⟩ := hR'
    obtain ⟨g1, g2, g3, g4, g5, g6⟩ := hg
    have hcl : (Cond.classLink (ts_own m) 85 "ThreshedSound$Shelf").before args s = true := by
      have h85 : ts_nw 11 85 = some 7 := by decide +kernel
      unfold ts_own
      rw [hm11]
      exact hts _ ((ts_nw_ok h85).1 _ List.mem_cons_self)
    refine va_newq (C := "ThreshedSound$Shelf") hx hb hown hcl hZ.2.2.2.2.2.2.2.1 hK hP hD hS (fun q hq => Nat.le_trans hb0 hq) hx0 hxn (by omega) (by omega) (by omega) (ts_dec hi rfl) (fun q cA1 H1 hK1 hP1 hD1 hS1 => ?_)
    have hag := ts_adn_ag (ad := ad) (q := q) (n := h.2.2.2.length) (by omega)
    have hWe : ts_W cA ad h ++ [(q, .inl (cA1, n, .inr (.inr (.inr (.inr (fun _ => none))))))] = ts_W (ts_cAn cA 2 cA1) (ts_adn ad (h.2.2.2.length + 1) q) (ts_rz h.1 0 (h.2.2.2.length + 1) (h.2.2.2.length + 2), ts_rz h.2.1 0 (h.2.2.2.length + 1) (h.2.2.2.length + 2), h.2.2.1 ++ [List.replicate n 0], h.2.2.2 ++ [(2, n)]) := by
      refine ts_W_grow (S2 := [(2, n)]) rfl rfl (fun j k' n' hj => ?_) (fun i k' n' hi' => ?_)
      · cases j with
        | zero =>
          cases hj
          show some (q, _) = some (ts_adn ad (h.2.2.2.length + 1) q (h.2.2.2.length + 1), _)
          rw [show ts_adn ad (h.2.2.2.length + 1) q (h.2.2.2.length + 1) = q from if_pos rfl, ts_ctq (Or.inl rfl)]
          have e1 : ts_po (ts_adn ad (h.2.2.2.length + 1) q) (h.2.2.1 ++ [List.replicate n 0]) (h.2.2.2.length + 1) = fun _ => none := by
            funext j
            unfold ts_po
            have e2 : ts_pg (h.2.2.1 ++ [List.replicate n 0]) (h.2.2.2.length + 1) j = (List.replicate n 0)[j]? := by
              simp only [ts_pg]
              rw [List.getElem?_append_right (by omega), show h.2.2.2.length - h.2.2.1.length = 0 by omega]
              rfl
            rw [e2, List.getElem?_replicate]
            by_cases hj : j < n
            · rw [if_pos hj]; rfl
            · rw [if_neg hj]
          show _ = some (q, Sum.inl (cA1, n, Sum.inr (Sum.inr (Sum.inr (Sum.inr (ts_po (ts_adn ad (h.2.2.2.length + 1) q) (h.2.2.1 ++ [List.replicate n 0]) (h.2.2.2.length + 1)))))))
          rw [e1]
        | succ j => cases hj
      · have hlt := (List.getElem?_eq_some_iff.mp hi').1
        have hk2 : ¬ k' = 2 := hno _ (List.mem_of_getElem? hi')
        refine ⟨hag _ (Or.inl (by omega)), ts_ct_old (ts_rz_off (by omega)) (ts_rz_off (by omega)) (ts_po_old hag r5 (by omega)) rfl rfl (fun _ => if_neg hk2)⟩
    rw [hWe] at hP1 hD1
    have hfin := ts_grown (S2 := [(2, n)]) (cc := 1) (nn := n) hR rfl (by simp [ts_sz]) (by decide) rfl hag ⟨g1, g2, g3, g4, g5, g6⟩ hl r4 H0 (cA' := ts_cAn cA 2 cA1) (by
      show va_K D ts_cl (ts_tys (ts_cAn cA 2 cA1) (h.2.2.2 ++ [(2, n)])) s
      rw [ts_tys_app, ts_tys_cA (cA' := ts_cAn cA 2 cA1) (cA := cA) rfl rfl (fun x hx1 => ?_)]
      · exact hK1
      · have := hno x hx1
        unfold ts_cAn ts_ak
        by_cases h4 : x.1 < 4
        · rw [if_pos h4, if_neg this]
        · rw [if_neg h4, if_neg (by decide)]) hP1 hD1 hS1
    rw [show ts_adn ad (h.2.2.2.length + 1) q (h.2.2.2.length + 1) = q from if_pos rfl] at hfin
    exact hfin
  · exact H0.elim
end ALLOC
