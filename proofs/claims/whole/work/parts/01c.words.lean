theorem ts_chkM_all (m : Nat) : ts_chkM m = true := by
  by_cases hm : m < 250
  · have key : ∀ a k : Nat, (List.range' a k).all ts_chkM = true → a ≤ m → m < a + k → ts_chkM m = true := fun a k h h1 h2 => List.all_eq_true.mp h m (List.mem_range'_1.mpr ⟨h1, h2⟩)
    by_cases h0 : m < 13
    · exact key 0 13 ts_ch0 (by omega) (by omega)
    by_cases h1 : m < 18
    · exact key 13 5 ts_ch1 (by omega) (by omega)
    by_cases h2 : m < 29
    · exact key 18 11 ts_ch2 (by omega) (by omega)
    by_cases h3 : m < 36
    · exact key 29 7 ts_ch3 (by omega) (by omega)
    by_cases h4 : m < 41
    · exact key 36 5 ts_ch4 (by omega) (by omega)
    by_cases h5 : m < 48
    · exact key 41 7 ts_ch5 (by omega) (by omega)
    by_cases h6 : m < 55
    · exact key 48 7 ts_ch6 (by omega) (by omega)
    by_cases h7 : m < 70
    · exact key 55 15 ts_ch7 (by omega) (by omega)
    by_cases h8 : m < 78
    · exact key 70 8 ts_ch8 (by omega) (by omega)
    by_cases h9 : m < 86
    · exact key 78 8 ts_ch9 (by omega) (by omega)
    by_cases h10 : m < 91
    · exact key 86 5 ts_ch10 (by omega) (by omega)
    by_cases h11 : m < 95
    · exact key 91 4 ts_ch11 (by omega) (by omega)
    by_cases h12 : m < 104
    · exact key 95 9 ts_ch12 (by omega) (by omega)
    by_cases h13 : m < 113
    · exact key 104 9 ts_ch13 (by omega) (by omega)
    by_cases h14 : m < 120
    · exact key 113 7 ts_ch14 (by omega) (by omega)
    by_cases h15 : m < 127
    · exact key 120 7 ts_ch15 (by omega) (by omega)
    by_cases h16 : m < 141
    · exact key 127 14 ts_ch16 (by omega) (by omega)
    by_cases h17 : m < 147
    · exact key 141 6 ts_ch17 (by omega) (by omega)
    by_cases h18 : m < 155
    · exact key 147 8 ts_ch18 (by omega) (by omega)
    by_cases h19 : m < 165
    · exact key 155 10 ts_ch19 (by omega) (by omega)
    by_cases h20 : m < 170
    · exact key 165 5 ts_ch20 (by omega) (by omega)
    by_cases h21 : m < 177
    · exact key 170 7 ts_ch21 (by omega) (by omega)
    by_cases h22 : m < 180
    · exact key 177 3 ts_ch22 (by omega) (by omega)
    by_cases h23 : m < 184
    · exact key 180 4 ts_ch23 (by omega) (by omega)
    by_cases h24 : m < 190
    · exact key 184 6 ts_ch24 (by omega) (by omega)
    by_cases h25 : m < 196
    · exact key 190 6 ts_ch25 (by omega) (by omega)
    by_cases h26 : m < 203
    · exact key 196 7 ts_ch26 (by omega) (by omega)
    by_cases h27 : m < 209
    · exact key 203 6 ts_ch27 (by omega) (by omega)
    by_cases h28 : m < 211
    · exact key 209 2 ts_ch28 (by omega) (by omega)
    by_cases h29 : m < 213
    · exact key 211 2 ts_ch29 (by omega) (by omega)
    by_cases h30 : m < 222
    · exact key 213 9 ts_ch30 (by omega) (by omega)
    by_cases h31 : m < 230
    · exact key 222 8 ts_ch31 (by omega) (by omega)
    by_cases h32 : m < 236
    · exact key 230 6 ts_ch32 (by omega) (by omega)
    by_cases h33 : m < 238
    · exact key 236 2 ts_ch33 (by omega) (by omega)
    by_cases h34 : m < 239
    · exact key 238 1 ts_ch34 (by omega) (by omega)
    by_cases h35 : m < 250
    · exact key 239 11 ts_ch35 (by omega) (by omega)
    omega
  · unfold ts_chkM
    have hlen : ts_LL.length = 250 := by decide +kernel
    rw [List.getD_eq_getElem?_getD, List.getElem?_eq_none (by omega)]
    rfl
theorem ts_lookup_mem {α β : Type} [BEq α] [LawfulBEq α] {k : α} {v : β} : ∀ {l : List (α × β)}, l.lookup k = some v → (k, v) ∈ l
  | [], h => by cases h
  | (a, b) :: l, h => by
    rw [List.lookup_cons] at h
    cases hq : k == a with
    | true =>
      rw [hq] at h
      cases h
      rw [eq_of_beq hq]
      exact List.mem_cons_self
    | false =>
      rw [hq] at h
      exact List.mem_cons_of_mem _ (ts_lookup_mem h)
/-- the instruction that the table has is the one that the machine decodes -/
theorem ts_ins_ok {m pc nx tg : Nat} {i : Instr} (h : ts_ins m pc = some (i, nx, tg)) : ts_chk (ts_bt m) (pc, i, nx, tg) = true := List.all_eq_true.mp (ts_chkM_all m) _ (ts_lookup_mem h)
theorem ts_dec {m pc nx tg : Nat} {i : Instr} (h : ts_ins m pc = some (i, nx, tg)) {k : Nat} (hk : nx = pc + k) : decode (ts_bt m) pc = .ok (i, k) := by
  have h1 := ts_ins_ok h
  unfold ts_chk at h1
  simp only [Bool.and_eq_true, decide_eq_true_eq] at h1
  rw [h1.1.1.1, hk, Nat.add_sub_cancel_left]
theorem ts_nx {m pc nx tg : Nat} {i : Instr} (h : ts_ins m pc = some (i, nx, tg)) : ∃ k, nx = pc + k ∧ decode (ts_bt m) pc = .ok (i, k) := by
  have h1 := ts_ins_ok h
  unfold ts_chk at h1
  simp only [Bool.and_eq_true, decide_eq_true_eq] at h1
  exact ⟨nx - pc, by omega, h1.1.1.1⟩
