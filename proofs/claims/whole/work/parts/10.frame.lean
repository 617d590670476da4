/-! frames: locals, the world that a method starts in and leaves -/
theorem ts_tr_cat (ad : Nat → Nat) (v : Value) : (ts_tr ad v).category = v.category := by cases v <;> rfl
theorem ts_tr_nn {ad : Nat → Nat} {v : Value} (h : v ≠ .null) : ts_tr ad v ≠ .null := by
  cases v <;> first | exact absurd rfl h | (intro q; cases q)
theorem ts_cat_tr (ad : Nat → Nat) (st : List Value) : ((st.map (ts_tr ad)).map fun v => v.category).sum = ts_cat st := by
  unfold ts_cat
  rw [List.map_map]
  congr 2
  funext v
  exact ts_tr_cat ad v
/-- the locals that are known -/
def ts_lok (ls : Array Slot) (n : Nat) (ad : Nat → Nat) (lv : List Value) : Prop := ls.size = n ∧ lv_wf ls ∧ lv.length = n ∧ ∀ (i : Nat) (v : Value), lv[i]? = some v → v ≠ .null → ls[i]? = some (Slot.val (ts_tr ad v))
/-- the same as the kit's list -/
def ts_lvl (ad : Nat → Nat) (lv : List Value) : List (Nat × Value) := (lv.zipIdx.filter (fun q => !(q.1 == .null))).map (fun q => (q.2, ts_tr ad q.1))
theorem ts_lvl_mem {ad : Nat → Nat} {lv : List Value} {q : Nat × Value} : q ∈ ts_lvl ad lv ↔ ∃ v, lv[q.1]? = some v ∧ v ≠ .null ∧ q.2 = ts_tr ad v := by
  unfold ts_lvl
  rw [List.mem_map]
  constructor
  · rintro ⟨x, hx, rfl⟩
    rw [List.mem_filter] at hx
    obtain ⟨h1, h2⟩ := hx
    have h3 := List.mem_zipIdx_iff_getElem?.mp h1
    exact ⟨x.1, h3, by simpa using h2, rfl⟩
  · rintro ⟨v, h1, h2, h3⟩
    refine ⟨(v, q.1), List.mem_filter.mpr ⟨List.mem_zipIdx_iff_getElem?.mpr h1, by simpa using h2⟩, ?_⟩
    rw [← h3]
theorem ts_lok.has {ls : Array Slot} {n : Nat} {ad : Nat → Nat} {lv : List Value} (h : ts_lok ls n ad lv) : lv_has ls n (ts_lvl ad lv) := ⟨h.1, h.2.1, fun q hq => by
  obtain ⟨v, h1, h2, h3⟩ := ts_lvl_mem.mp hq
  rw [h3]
  exact h.2.2.2 _ _ h1 h2⟩
theorem ts_kl_get {lv : List Value} {k i : Nat} {v : Value} (h : (ts_kl lv k)[i]? = some v) (hv : v ≠ .null) : lv[i]? = some v ∧ ¬ (i + 1 = k ∧ v.category = 2) := by
  cases k with
  | zero => exact ⟨h, fun q => by omega⟩
  | succ j =>
    unfold ts_kl at h
    cases hj : lv[j]? with
    | none =>
      simp only [hj] at h
      refine ⟨h, fun q => ?_⟩
      have : i = j := by omega
      subst this
      rw [hj] at h
      cases h
    | some w =>
      simp only [hj] at h
      cases hc : Nat.beq w.category 2 with
      | true =>
        rw [hc] at h
        by_cases hq : j = i
        · subst hq
          have h' : (lv.set j .null)[j]? = some v := h
          rw [List.getElem?_set_self ((List.getElem?_eq_some_iff.mp hj).1)] at h'
          cases h'
          exact absurd rfl hv
        · have h' : (lv.set j .null)[i]? = some v := h
          rw [List.getElem?_set_ne hq] at h'
          exact ⟨h', fun q => by omega⟩
      | false =>
        rw [hc] at h
        have h' : lv[i]? = some v := h
        refine ⟨h', fun q => ?_⟩
        have : i = j := by omega
        subst this
        rw [hj] at h'
        cases h'
        rw [q.2] at hc
        cases hc
theorem ts_kl_len {lv : List Value} {k : Nat} : (ts_kl lv k).length = lv.length := by
  cases k with
  | zero => rfl
  | succ j =>
    cases hj : lv[j]? with
    | none => simp only [ts_kl, hj]
    | some w =>
      simp only [ts_kl, hj]
      cases Nat.beq w.category 2 <;> simp
/-- a word stored -/
theorem ts_lok.put1 {ls' : Array Slot} {n : Nat} {ad : Nat → Nat} {lv : List Value} {k : Nat} {v : Value} (hl : lv.length = n) (h : lv_has ls' n ((k, ts_tr ad v) :: (ts_lvl ad lv).filter (fun q => !(q.1 == k) && !(q.1 + 1 == k && q.2.category == 2)))) : ts_lok ls' n ad (ts_s1 lv k v) := by
  refine ⟨h.1, h.2.1, by simp [ts_s1, ts_kl_len, hl], fun i w hi hw => ?_⟩
  unfold ts_s1 at hi
  by_cases hq : k = i
  · subst hq
    have hlt : k < (ts_kl lv k).length := by
      have := (List.getElem?_eq_some_iff.mp hi).1
      simpa using this
    rw [List.getElem?_set_self hlt] at hi
    cases hi
    exact h.2.2 _ List.mem_cons_self
  · rw [List.getElem?_set_ne hq] at hi
    obtain ⟨h1, h2⟩ := ts_kl_get hi hw
    refine h.2.2 (i, ts_tr ad w) (List.mem_cons_of_mem _ (List.mem_filter.mpr ⟨ts_lvl_mem.mpr ⟨w, h1, hw, rfl⟩, ?_⟩))
    simp only [ts_tr_cat, Bool.and_eq_true, Bool.not_eq_true', beq_eq_false_iff_ne, Bool.and_eq_false_imp, beq_iff_eq]
    exact ⟨fun q => hq q.symm, fun q1 => by simpa using fun q2 => h2 ⟨q1, q2⟩⟩
theorem ts_lok.put2 {ls' : Array Slot} {n : Nat} {ad : Nat → Nat} {lv : List Value} {k : Nat} {v : Value} (hl : lv.length = n) (h : lv_has ls' n ((k, ts_tr ad v) :: (ts_lvl ad lv).filter (fun q => !(q.1 == k) && (!(q.1 == k + 1) && !(q.1 + 1 == k && q.2.category == 2))))) : ts_lok ls' n ad ((ts_s1 lv k v).set (k + 1) .null) := by
  refine ⟨h.1, h.2.1, by simp [ts_s1, ts_kl_len, hl], fun i w hi hw => ?_⟩
  by_cases hq1 : k + 1 = i
  · subst hq1
    have hlt : k + 1 < (ts_s1 lv k v).length := by
      have := (List.getElem?_eq_some_iff.mp hi).1
      simpa using this
    rw [List.getElem?_set_self hlt] at hi
    cases hi
    exact absurd rfl hw
  rw [List.getElem?_set_ne hq1] at hi
  unfold ts_s1 at hi
  by_cases hq : k = i
  · subst hq
    have hlt : k < (ts_kl lv k).length := by
      have := (List.getElem?_eq_some_iff.mp hi).1
      simpa using this
    rw [List.getElem?_set_self hlt] at hi
    cases hi
    exact h.2.2 _ List.mem_cons_self
  · rw [List.getElem?_set_ne hq] at hi
    obtain ⟨h1, h2⟩ := ts_kl_get hi hw
    refine h.2.2 (i, ts_tr ad w) (List.mem_cons_of_mem _ (List.mem_filter.mpr ⟨ts_lvl_mem.mpr ⟨w, h1, hw, rfl⟩, ?_⟩))
    simp only [ts_tr_cat, Bool.and_eq_true, Bool.not_eq_true', beq_eq_false_iff_ne, Bool.and_eq_false_imp, beq_iff_eq]
    exact ⟨fun q => hq q.symm, fun q => hq1 q.symm, fun q1 => by simpa using fun q2 => h2 ⟨q1, q2⟩⟩
theorem ts_lay_args (ad : Nat → Nat) : ∀ (vs : List Value) (k i : Nat) (v : Value), (ts_lay vs)[i]? = some v → v ≠ .null → (k + i, ts_tr ad v) ∈ lv_args k (vs.map (ts_tr ad))
  | [], k, i, v, h, _ => by cases h
  | x :: l, k, i, v, h, hv => by
    show _ ∈ (k, ts_tr ad x) :: lv_args (if (ts_tr ad x).category = 2 then k + 2 else k + 1) (l.map (ts_tr ad))
    rw [ts_tr_cat]
    unfold ts_lay at h
    by_cases hc : x.category = 2
    · rw [if_pos hc] at h ⊢
      match i, h with
      | 0, h => cases h; exact List.mem_cons_self
      | 1, h => cases h; exact absurd rfl hv
      | i + 2, h =>
        have := ts_lay_args ad l (k + 2) i v h hv
        rw [show k + (i + 2) = k + 2 + i by omega]
        exact List.mem_cons_of_mem _ this
    · rw [if_neg hc] at h ⊢
      match i, h with
      | 0, h => cases h; exact List.mem_cons_self
      | i + 1, h =>
        have := ts_lay_args ad l (k + 1) i v h hv
        rw [show k + (i + 1) = k + 1 + i by omega]
        exact List.mem_cons_of_mem _ this
theorem ts_lok_entry {ls : Array Slot} {n : Nat} {ad : Nat → Nat} {vs : List Value} (hn : (ts_lay vs).length ≤ n) (h : lv_has ls n (lv_args 0 (vs.map (ts_tr ad)))) : ts_lok ls n ad (ts_ent n vs) := by
  refine ⟨h.1, h.2.1, by simp [ts_ent]; omega, fun i v hi hv => ?_⟩
  unfold ts_ent at hi
  by_cases hl : i < (ts_lay vs).length
  · rw [List.getElem?_append_left hl] at hi
    have := ts_lay_args ad vs 0 i v hi hv
    rw [Nat.zero_add] at this
    exact h.2.2 _ this
  · rw [List.getElem?_append_right (by omega)] at hi
    exact absurd (List.eq_of_mem_replicate (List.mem_of_getElem? hi)) hv
