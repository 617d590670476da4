/-! calls -/
theorem ts_tr_vv {n : Nat} {ad ad' : Nat → Nat} (hag : ts_ag n ad ad') {v : Value} (hv : ts_vv n v = true) : ts_tr ad' v = ts_tr ad v := by
  cases v <;> first | rfl | skip
  rename_i k
  unfold ts_vv at hv
  simp only [Bool.or_eq_true] at hv
  show Value.ref (ad' k) = Value.ref (ad k)
  rw [hag k (hv.imp Nat.le_of_ble_eq_true Nat.le_of_ble_eq_true)]
theorem ts_tr_vl {n : Nat} {ad ad' : Nat → Nat} (hag : ts_ag n ad ad') {l : List Value} (hv : ts_vl n l = true) : l.map (ts_tr ad') = l.map (ts_tr ad) := by
  apply List.map_congr_left
  intro v h
  exact ts_tr_vv hag (List.all_eq_true.mp hv v h)
theorem ts_lok.ad {ls : Array Slot} {n k : Nat} {ad ad' : Nat → Nat} {lv : List Value} (h : ts_lok ls n ad lv) (hag : ts_ag k ad ad') (hv : ts_vl k lv = true) : ts_lok ls n ad' lv := by
  refine ⟨h.1, h.2.1, h.2.2.1, fun i v hi hn => ?_⟩
  rw [ts_tr_vv hag (List.all_eq_true.mp hv v (List.mem_of_getElem? hi))]
  exact h.2.2.2 i v hi hn
theorem ts_gw_good {w : Jvm.Cond} (h : w ∈ ts_gw) : w ∈ ts_gw ∧ ((w.onTables && w.keeps) = true ∨ ∃ ty, w = .arrayClass ty) := ⟨h, good_of_word (List.mem_filter.mp h).2⟩
theorem ts_good {ws : List Jvm.Cond} (h : ∀ w ∈ ws, w ∈ ts_gw) : GoodIn ts_gw ws := fun w hw => ts_gw_good (h w hw)
theorem ts_ws_gw {y : Nat} (hy : y < 250) (hy2 : ¬ y = 238) : ∀ w ∈ ts_ws y, w ∈ ts_gw := fun w hw => by
  rcases List.mem_cons.mp hw with rfl | h
  · exact ts_cw_all hy hy2
  · exact h
theorem ts_mr_all {y : Nat} (hy : y < 250) (hy2 : ¬ y = 238) : plainName (ts_y y).cls = true ∧ (ts_y y).cls = ts_own y ∧ (ts_y y).cls ≠ "java/lang/invoke/MethodHandle" ∧ (ts_y y).cls ≠ "java/lang/invoke/VarHandle" ∧ ts_ml y < 20 ∧ ((ts_y y).name = "<init>" → ts_rt1 y = none) := by
  have h := (ts_m_ok hy hy2).2
  unfold ts_mr at h
  simp only [Bool.and_eq_true, decide_eq_true_eq, Bool.not_eq_true', decide_eq_false_iff_not, Bool.or_eq_true] at h
  exact ⟨h.1.1.1.1.1, h.1.1.1.1.2, h.1.1.1.2, h.1.1.2, h.1.2, fun q => h.2.elim (fun z => absurd q z) id⟩
section CALLS
variable {p : Program} {l : Launch} {e : Env} {Rm : Room} {s : State} {mi : MethodId} {args : Array Value} {below : List Frame} {meth : Method} {c : Code} {Qf : State → Prop} {D : va_G} {b0 m d : Nat} {E : ts_S} {cA0 : Nat → ClassId} {ad0 : Nat → Nat} {X : ts_X} {C : ts_C} {K : Option Value → ts_H → Prop} {pc nx tg : Nat} {lv st : List Value} {h : ts_H}
theorem ts_run {y : Nat} {K' : Option Value → ts_H → Prop} {cA : Nat → ClassId} {ad : Nat → Nat} {H : Heap} {locs : List Loc} {cells slots : Nat} {ls : Array Slot} {st0 rest : List Value} {a : Array Value} (hr : va_Run p l e Rm s mi args below meth c H locs cells slots (ts_mk y).1 (ts_mk y).2 (F0 mi pc ls st0) rest (ts_Qc D b0 cA ad h y K' a) (ts_A b0)) (hS : va_S (ts_A b0) s.heap H locs)
    (kk : ∀ (r : Option Value) (h' : ts_H) (cA' : Nat → ClassId) (ad' : Nat → Nat) (H1 : Heap) (locs1 : List Loc), K' r h' → ts_ag h.2.2.2.length ad ad' → ((ts_mk y).1 = 0 → ad' = ad ∧ cA' = cA) → h'.2.2.2.length = h.2.2.2.length + (ts_mk y).1 → ts_sz h'.2.2.2 = ts_sz h.2.2.2 + (ts_mk y).2 → va_K D ts_cl (ts_tys cA' h'.2.2.2) s → va_P D ts_cl (ts_W cA' ad' h') H1 → va_D (ts_A b0) (ts_W cA' ad' h') → va_S (ts_A b0) s.heap H1 locs1 →
      W p l e Rm s mi args below meth c H1 locs1 (cells + (ts_mk y).1) (slots + (ts_mk y).2) Qf (F0 mi (pc + 3) ls ((r.map (ts_tr ad')).toList ++ rest))) : W p l e Rm s mi args below meth c H locs cells slots Qf (F0 mi pc ls st0) := by
  intro T hT Xs
  obtain ⟨v, st₀, t, T', L, h0, X', hL, e1, e2, ⟨⟨r, h', cA', ad', hv, hk, hag, hsm, hlen, hsz, hWn⟩, hz, hkp⟩, stp⟩ := hr T hT Xs
  cases hv
  obtain ⟨hK1, hP1, hD1⟩ := hWn
  rw [h0] at hz hkp
  have hal : s.vm.Alike t.vm := by rw [← e2]; exact X'.warmed.alike
  obtain ⟨t2, a1, b1⟩ := kk r h' cA' ad' T'.heap (locs ++ L) hk hag hsm hlen hsz (va_K.moved hal.symm hK1) (by rw [e1]; exact hP1) hD1
    ⟨Nat.le_trans hS.1 (by rw [e1]; exact hz), fun q h1 h2 => by rw [e1, hkp q (Nat.lt_of_lt_of_le h1 hS.1) h2]; exact hS.2.1 q h1 h2, fun q hq => by
      rcases List.mem_append.mp hq with h | h
      · exact hS.2.2 q h
      · exact hL q h⟩ T' rfl X'
  exact ⟨t2, stp t2 a1, b1⟩
/-- behind a call: the caller goes on -/
theorem ts_call_step {y : Nat} {as rest : List Value} (Fx : ts_Fx p Rm s mi args meth c b0 X ad0 m d) (hSnd : ts_Snd l D b0 X C d) (hy : y < 250) (hy2 : ¬ y = 238) (H0 : ts_call C m E (ts_Ws p l e Rm s mi args below meth c Qf D b0 m E cA0 ad0) (pc + 3) lv y as rest h)
    {cA : Nat → ClassId} {ad : Nat → Nat} {H : Heap} {locs : List Loc} {ls : Array Slot} {st0 : List Value} {av : Array Value} (hK : va_K D ts_cl (ts_tys cA h.2.2.2) s) (hS : va_S (ts_A b0) s.heap H locs) (hl : ts_lok ls (ts_ml m) ad lv)
    (hg : ts_ag E.length ad0 ad ∧ (h.2.2.2.length = E.length → ad = ad0 ∧ cA = cA0) ∧ E.length ≤ h.2.2.2.length ∧ ts_sz E ≤ ts_sz h.2.2.2 ∧ h.2.2.2.length ≤ E.length + (ts_mk m).1 ∧ ts_sz h.2.2.2 ≤ ts_sz E + (ts_mk m).2)
    (run : ∀ K' : Option Value → ts_H → Prop, Met l (ts_y y) (ts_ws y) (ts_rm y d) (va_Pc (as.map (ts_tr ad)) (ts_Wd D b0 X cA ad h)) (ts_Qc D b0 cA ad h y K') (ts_mk y).1 (ts_mk y).2 (ts_A b0) → h.2.2.2.length - E.length + (ts_mk y).1 ≤ Rm.cells ∧ ts_sz h.2.2.2 - ts_sz E + (ts_mk y).2 ≤ Rm.slots → va_Run p l e Rm s mi args below meth c H locs (h.2.2.2.length - E.length) (ts_sz h.2.2.2 - ts_sz E) (ts_mk y).1 (ts_mk y).2 (F0 mi pc ls st0) (rest.map (ts_tr ad)) (ts_Qc D b0 cA ad h y K' av) (ts_A b0)) :
    W p l e Rm s mi args below meth c H locs (h.2.2.2.length - E.length) (ts_sz h.2.2.2 - ts_sz E) Qf (F0 mi pc ls st0) := by
  obtain ⟨hx, hb, hml, hown, hts, hb0, hZ, hnm, hfr, hlo, hce, hsl⟩ := Fx
  obtain ⟨hcat, hroom, hC⟩ := H0
  obtain ⟨g1, g2, g3, g4, g5, g6⟩ := hg
  have hf : h.2.2.2.length - E.length + (ts_mk y).1 ≤ Rm.cells ∧ ts_sz h.2.2.2 - ts_sz E + (ts_mk y).2 ≤ Rm.slots := by
    rcases hroom with e | e
    · rw [e]; exact ⟨by show _ + 0 ≤ _; omega, by show _ + 0 ≤ _; omega⟩
    · obtain ⟨e1, e2, -⟩ := e; omega
  refine ts_run (run _ (hSnd y as h _ cA ad hy hy2 hC) hf) hS ?_
  intro r h' cA' ad' H1 locs1 hk hag hsm hlen hsz hK1 hP1 hD1 hS1
  have hroom2 : ad' = ad ∨ (ts_vl h.2.2.2.length lv = true ∧ ts_vl h.2.2.2.length rest = true ∧ h.2.2.2.length + (ts_mk y).1 ≤ E.length + (ts_mk m).1 ∧ ts_sz h.2.2.2 + (ts_mk y).2 ≤ ts_sz E + (ts_mk m).2) := by
    rcases hroom with e1 | e1
    · exact Or.inl (hsm (by rw [e1])).1
    · exact Or.inr ⟨e1.2.2.1, e1.2.2.2.1, e1.1, e1.2.1⟩
  have hrest : rest.map (ts_tr ad') = rest.map (ts_tr ad) := by
    rcases hroom2 with e1 | e1
    · rw [e1]
    · exact ts_tr_vl hag e1.2.1
  have hl' : ts_lok ls (ts_ml m) ad' lv := by
    rcases hroom2 with e1 | e1
    · rw [e1]; exact hl
    · exact hl.ad hag e1.1
  have hbound : h'.2.2.2.length ≤ E.length + (ts_mk m).1 ∧ ts_sz h'.2.2.2 ≤ ts_sz E + (ts_mk m).2 := by
    rcases hroom with e1 | e1
    · rw [e1] at hlen hsz
      exact ⟨by rw [hlen]; exact g5, by rw [hsz]; exact g6⟩
    · exact ⟨by rw [hlen]; exact e1.1, by rw [hsz]; exact e1.2.1⟩
  have hfin := hk cA' ad' H1 locs1 ls hK1 hP1 hD1 hS1 hl' ⟨fun k hk => (hag k (hk.imp (fun q => by omega) id)).trans (g1 k hk), fun q => by
    have h0 : (ts_mk y).1 = 0 := by omega
    obtain ⟨e1, e2⟩ := hsm h0
    obtain ⟨e3, e4⟩ := g2 (by omega)
    exact ⟨e1.trans e3, e2.trans e4⟩, by omega, by omega, hbound.1, hbound.2⟩
  rw [show h'.2.2.2.length - E.length = h.2.2.2.length - E.length + (ts_mk y).1 by omega, show ts_sz h'.2.2.2 - ts_sz E = ts_sz h.2.2.2 - ts_sz E + (ts_mk y).2 by omega] at hfin
  have hst : (ts_push r rest).map (ts_tr ad') = (r.map (ts_tr ad')).toList ++ rest.map (ts_tr ad) := by
    rw [← hrest]
    cases r <;> rfl
  rw [hst] at hfin
  exact hfin
/-- the world at a call -/
theorem ts_pre (Fx : ts_Fx p Rm s mi args meth c b0 X ad0 m d) {cA : Nat → ClassId} {ad : Nat → Nat} {H : Heap} {locs : List Loc} (hK : va_K D ts_cl (ts_tys cA h.2.2.2) s) (hP : va_P D ts_cl (ts_W cA ad h) H) (hD : va_D (ts_A b0) (ts_W cA ad h)) (hS : va_S (ts_A b0) s.heap H locs) (hag : ts_ag E.length ad0 ad) (U : State) (hU : U.heap = H) (hW : s.WarmedH U.vm) : ts_Wd D b0 X cA ad h U := by
  obtain ⟨hx, hb, hml, hown, hts, hb0, hZ, -⟩ := Fx
  refine ⟨by rw [hU]; exact Nat.le_trans hb0 hS.1, va_K.moved hW.alike hK, by rw [hU]; exact hP, hD, ?_⟩
  rw [hU]
  exact ((hZ.ad (fun k hk => hag k (Or.inr hk))).kept (fun a h1 h2 => hS.2.1 a h1 h2)).warm hW
theorem ts_hR (Fx : ts_Fx p Rm s mi args meth c b0 X ad0 m d) {y : Nat} (hml : ts_ml y < 20) : (ts_rm y d).frames + 1 ≤ Rm.frames ∧ 8 + (ts_ml y + 11) + (ts_rm y d).locals ≤ Rm.locals := by
  obtain ⟨-, -, -, -, -, -, -, -, hfr, hlo, -, -⟩ := Fx
  exact ⟨hfr, by show 8 + (ts_ml y + 11) + 64 * d ≤ _; omega⟩
end CALLS
