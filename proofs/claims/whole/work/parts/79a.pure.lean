/-! what stays true of the floor, the changes, the shelves -/
section PU
variable {I : Nat → Nat → Int32} {f f' : ts_Fl} {c : ts_Ch} {s : ts_Sh} {b : ts_Bo} {n w v : Int}
theorem set_same (f : ts_Fl) (n w v : Int) : f_men (g_set f n w v) = f_men f ∧ f_told (g_set f n w v) = f_told f ∧ f_len (g_set f n w v) = f_len f := by
  unfold g_set
  repeat' split
  all_goals exact ⟨rfl, rfl, rfl⟩
theorem set_names {x y : Int} (h : g_names f x y) : g_names (g_set f n w v) x y := by
  obtain ⟨e1, e2, e3⟩ := set_same f n w v
  unfold g_names at h ⊢
  rw [e1, e2, e3]
  exact h
theorem RO.set (h : RO f) (hg : g_names f n w) : RO (g_set f n w v) := by
  obtain ⟨e1, e2, e3⟩ := set_same f n w v
  refine ⟨fun p p0 p1 p2 => ?_, fun t t0 t1 => ?_⟩
  · rw [e1] at p2
    have el : f_late (g_set f n w v) p = f_late f p := by
      unfold g_names at hg
      unfold g_set
      repeat' split
      all_goals first
        | rfl
        | exact zu_n (by omega)
    rw [el]
    exact h.1 p p0 p1 p2
  · rw [e2] at t1
    rw [e3]
    exact h.2 t t0 t1
theorem ROc.mono (h : ROc f c) (e : ∀ x y, g_names f x y → g_names f' x y) : ROc f' c := ⟨h.1, fun k k0 k1 => ⟨e _ _ (h.2 k k0 k1).1, (h.2 k k0 k1).2⟩⟩
theorem ROc.add {o a : Int} (h : ROc f c) (hd : 0 ≤ c_done c ∧ c_done c ≤ 40) (hg : g_names f n w) (ho : 0 ≤ o ∧ o ≤ g_most w) (ha : 0 ≤ a ∧ a ≤ g_most w) : ROc f (c_add c n w o a) := by
  by_cases q : c_done c < 40
  · unfold c_add
    rw [c_room_1 q]
    refine ⟨Int.le_refl _, fun k k0 k1 => ?_⟩
    have k2 : k < c_done c + 1 := k1
    show g_names f (zu (c_num c) (c_done c) n k) (zu (c_wh c) (c_done c) w k) ∧ (0 ≤ zu (c_be c) (c_done c) o k ∧ zu (c_be c) (c_done c) o k ≤ g_most (zu (c_wh c) (c_done c) w k)) ∧ (0 ≤ zu (c_af c) (c_done c) a k ∧ zu (c_af c) (c_done c) a k ≤ g_most (zu (c_wh c) (c_done c) w k))
    by_cases e : k = c_done c
    · rw [e, zu_e, zu_e, zu_e, zu_e]
      exact ⟨hg, ho, ha⟩
    · rw [zu_n e, zu_n e, zu_n e, zu_n e]
      exact h.2 k k0 (by have := h.1; omega)
  · unfold c_add
    rw [c_room_2 q]
    refine ⟨Int.le_refl _, fun k k0 k1 => ?_⟩
    have k2 : k < 39 + 1 := k1
    show g_names f (zu (zsk (c_num c) 40) 39 n k) (zu (zsk (c_wh c) 40) 39 w k) ∧ (0 ≤ zu (zsk (c_be c) 40) 39 o k ∧ zu (zsk (c_be c) 40) 39 o k ≤ g_most (zu (zsk (c_wh c) 40) 39 w k)) ∧ (0 ≤ zu (zsk (c_af c) 40) 39 a k ∧ zu (zsk (c_af c) 40) 39 a k ≤ g_most (zu (zsk (c_wh c) 40) 39 w k))
    by_cases e : k = 39
    · rw [e, zu_e, zu_e, zu_e, zu_e]
      exact ⟨hg, ho, ha⟩
    · rw [zu_n e, zu_n e, zu_n e, zu_n e]
      have z : ∀ g : Int → Int, zsk g 40 k = g (k + 1) := fun g => if_pos (by omega)
      rw [z, z, z, z]
      exact h.2 (k + 1) (by omega) (by have := h.1; omega)
theorem g_num_m (hX : RX I f) (h : g_names f n w) : 0 ≤ g_num f n w ∧ g_num f n w ≤ g_most w := by
  have b1 := hX.men.2
  have b2 := hX.told.2
  unfold g_names at h
  rcases (show w = 0 ∨ w = 1 ∨ w = 2 ∨ w = 3 ∨ w = 4 ∨ w = 5 ∨ w = 6 ∨ w = 7 by omega) with rfl | rfl | rfl | rfl | rfl | rfl | rfl | rfl
  · exact (hX.tone n (by omega) (by omega)).2
  · exact (hX.corn n (by omega) (by omega)).2
  · exact (hX.stand n (by omega) (by omega)).2
  · exact (hX.reach n (by omega) (by omega)).2
  · exact (hX.arm n (by omega) (by omega)).2
  · exact (hX.late n (by omega) (by omega)).2
  · exact hX.road.2
  · have b3 := (hX.len (n / 10) (by omega) (by omega)).2
    exact (hX.say (s := n / 10) (by omega) (by omega) (n % 10) (by omega) (by omega)).2
theorem ROc.man (h : ROc f c) (p : Int) : ROc (g_manF f p) c := by
  unfold g_manF
  split
  · refine h.mono (fun x y q => ?_)
    unfold g_names at q ⊢
    rcases q with q | q | q | q
    · exact Or.inl q
    · refine Or.inr (Or.inl ⟨q.1, q.2.1, q.2.2.1, ?_⟩)
      have e : x < f_men f := q.2.2.2
      show x < f_men f + 1
      omega
    · exact Or.inr (Or.inr (Or.inl q))
    · exact Or.inr (Or.inr (Or.inr q))
  · exact h
theorem ROc.saying (h : ROc f c) {x i m : Int} : ROc (g_sayF s f x i m) c := by
  unfold g_sayF
  split
  · refine h.mono (fun x y q => ?_)
    unfold g_names at q ⊢
    rcases q with q | q | q | q
    · exact Or.inl q
    · exact Or.inr (Or.inl q)
    · exact Or.inr (Or.inr (Or.inl q))
    · refine Or.inr (Or.inr (Or.inr ⟨q.1, q.2.1, ?_, ?_⟩))
      · have e : x / 10 < f_told f := q.2.2.1
        show x / 10 < f_told f + 1
        omega
      · show x % 10 < zu (f_len f) (f_told f) _ (x / 10)
        rw [zu_n (by omega)]
        exact q.2.2.2
  · exact h
theorem RO.mend (h : RO f) : RO (g_mendF f n w v) := by
  unfold g_mendF
  split
  · rename_i q
    exact h.set q.1.1
  · exact h
theorem ROc.mend (h : ROc f c) (hX : RX I f) (hd : 0 ≤ c_done c ∧ c_done c ≤ 40) : ROc (g_mendF f n w v) (g_mendC f c n w v) := by
  unfold g_mendF g_mendC
  by_cases q : g_mOk f n w v ∧ ¬ g_num f n w = v
  · rw [if_pos q, if_pos q]
    exact (h.add hd q.1.1 (g_num_m hX q.1.1) q.1.2).mono (fun x y r => set_names r)
  · rw [if_neg q, if_neg q]
    exact h
theorem RO.undo (h : RO f) (hc : ROc f c) (hd : 0 ≤ c_done c) : RO (g_undoF f c) := by
  unfold g_undoF
  split
  · exact h
  · exact h.set (hc.2 _ (by omega) (by have := hc.1; omega)).1
theorem ROc.undo (h : ROc f c) (hd : 0 ≤ c_done c) : ROc (g_undoF f c) (g_undoC c) := by
  unfold g_undoF g_undoC
  by_cases q : c_done c = 0
  · rw [if_pos q, if_pos q]
    exact h
  · rw [if_neg q, if_neg q]
    refine ROc.mono (f := f) ⟨?_, h.2⟩ (fun x y r => set_names r)
    have e := h.1
    show c_done c - 1 ≤ c_all c
    omega
theorem RO.redo (h : RO f) (hc : ROc f c) (hd : 0 ≤ c_done c) : RO (g_redoF f c) := by
  unfold g_redoF
  split
  · exact h
  · exact h.set (hc.2 _ (by omega) (by have := hc.1; omega)).1
theorem ROc.redo (h : ROc f c) (hd : 0 ≤ c_done c) : ROc (g_redoF f c) (g_redoC c) := by
  unfold g_redoF g_redoC
  by_cases q : c_done c = c_all c
  · rw [if_pos q, if_pos q]
    exact h
  · rw [if_neg q, if_neg q]
    refine ROc.mono (f := f) ⟨?_, h.2⟩ (fun x y r => set_names r)
    have e := h.1
    show c_done c + 1 ≤ c_all c
    omega
theorem RO.strike (h : RO f) (e : ts_De) (p : Int) : RO (g_strF f e p) := by
  unfold g_strF
  split
  · exact h
  · exact h
theorem ROc.strike (h : ROc f c) (e : ts_De) (p : Int) : ROc (g_strF f e p) c := by
  unfold g_strF
  split
  · exact h
  · exact h
theorem RO.sow (h : RO f) (p : Int) : RO (g_sowF f p) := by
  unfold g_sowF
  split
  · exact h
  · exact h
theorem ROc.sow (h : ROc f c) (p : Int) : ROc (g_sowF f p) c := by
  unfold g_sowF
  split
  · exact h
  · exact h
theorem RO.back (h : RO f) (i : ts_Im) : RO (g_backF f i) := by
  unfold g_backF
  split
  · exact h
  · exact h
theorem ROc.back (h : ROc f c) (i : ts_Im) : ROc (g_backF f i) c := by
  unfold g_backF
  split
  · exact h
  · exact h
/-- every shelf that holds a flail holds one that there is -/
def FLK (s : ts_Sh) (b : ts_Bo) : Prop := ∀ q, 0 ≤ q → q < 6 → s.1 q < 50 → s.1 q < b.1
theorem FLK.keep (h : FLK s b) {x k : Int} : FLK (g_keep s b.1 x k) b := by
  unfold g_keep
  split
  · intro q q0 q1 q2
    have q3 : zu s.1 x k q < 50 := q2
    show zu s.1 x k q < b.1
    by_cases e : q = x
    · rw [e, zu_e]; omega
    · rw [zu_n e] at q3 ⊢
      exact h q q0 q1 q3
  · exact h
theorem FLK.row (h : FLK s b) {x so m : Int} : FLK (g_rowS s x so m) b := by
  unfold g_rowS
  split
  · intro q q0 q1 q2
    have q3 : zu s.1 x (50 + so) q < 50 := q2
    show zu s.1 x (50 + so) q < b.1
    by_cases e : q = x
    · rw [e, zu_e] at q3; omega
    · rw [zu_n e] at q3 ⊢
      exact h q q0 q1 q3
  · exact h
theorem FLK.put (h : FLK s b) {x i m : Int} : FLK (g_putS s x i m) b := by
  unfold g_putS
  split
  · exact h
  · exact h
theorem FLK.shift (h : FLK s b) {x i y j m : Int} : FLK (g_shS s x i y j m) b := by
  unfold g_shS
  split
  · exact h
  · exact h
theorem FLK.body (h : FLK s b) {k : Int} : FLK s (g_bodyB b k) := by
  unfold g_bodyB
  split
  · intro q q0 q1 q2
    have e := h q q0 q1 q2
    show s.1 q < b.1 + 1
    omega
  · exact h
theorem FLK.act (h : FLK s b) {k a : Int} : FLK s (g_actB b k a) := h
theorem RX.noLaw {J : Nat → Nat → Int32} (h : RX I f) (e : fr fxw I J) : RX J f := by
  refine ⟨?_, ?_, ?_, ?_, ?_, ?_, ?_, ?_, ?_, ?_, ?_⟩
  · rw [e 2 8 (by omega)]; exact h.men
  · rw [e 2 9 (by omega)]; exact h.told
  · rw [e 2 10 (by omega)]; exact h.road
  · exact ar_co h.tone (fr_row e (fun k => by omega))
  · exact ar_co h.corn (fr_row e (fun k => by omega))
  · exact ar_co h.stand (fr_row e (fun k => by omega))
  · exact ar_co h.reach (fr_row e (fun k => by omega))
  · exact ar_co h.arm (fr_row e (fun k => by omega))
  · exact ar_co h.late (fr_row e (fun k => by omega))
  · exact ar_co h.len (fr_row e (fun k => by omega))
  · intro s h0 h1
    exact ar_co (h.say h0 h1) (fr_row e (fun k => by omega))
end PU
