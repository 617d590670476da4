theorem i239_0 : ts_ins 239 0 = some (.iload_n 0, 1, 0) := by decide +kernel
theorem i239_1 : ts_ins 239 1 = some (.iload_n 0, 2, 0) := by decide +kernel
theorem i239_2 : ts_ins 239 2 = some (.iconst 1, 3, 0) := by decide +kernel
theorem i239_3 : ts_ins 239 3 = some (.iushr, 4, 0) := by decide +kernel
theorem i239_4 : ts_ins 239 4 = some (.ldc_w 265, 7, 0) := by decide +kernel
theorem g239_4 : ts_lc (ts_mc 239) 265 = some (.int (1431655765)) := by decide +kernel
theorem i239_7 : ts_ins 239 7 = some (.iand, 8, 0) := by decide +kernel
theorem i239_8 : ts_ins 239 8 = some (.isub, 9, 0) := by decide +kernel
theorem i239_9 : ts_ins 239 9 = some (.istore_n 0, 10, 0) := by decide +kernel
theorem i239_10 : ts_ins 239 10 = some (.iload_n 0, 11, 0) := by decide +kernel
theorem i239_11 : ts_ins 239 11 = some (.ldc_w 266, 14, 0) := by decide +kernel
theorem g239_11 : ts_lc (ts_mc 239) 266 = some (.int (858993459)) := by decide +kernel
theorem i239_14 : ts_ins 239 14 = some (.iand, 15, 0) := by decide +kernel
theorem i239_15 : ts_ins 239 15 = some (.iload_n 0, 16, 0) := by decide +kernel
theorem i239_16 : ts_ins 239 16 = some (.iconst 2, 17, 0) := by decide +kernel
theorem i239_17 : ts_ins 239 17 = some (.iushr, 18, 0) := by decide +kernel
theorem i239_18 : ts_ins 239 18 = some (.ldc_w 266, 21, 0) := by decide +kernel
theorem g239_18 : ts_lc (ts_mc 239) 266 = some (.int (858993459)) := by decide +kernel
theorem i239_21 : ts_ins 239 21 = some (.iand, 22, 0) := by decide +kernel
theorem i239_22 : ts_ins 239 22 = some (.iadd, 23, 0) := by decide +kernel
theorem i239_23 : ts_ins 239 23 = some (.istore_n 0, 24, 0) := by decide +kernel
theorem i239_24 : ts_ins 239 24 = some (.iload_n 0, 25, 0) := by decide +kernel
theorem i239_25 : ts_ins 239 25 = some (.iload_n 0, 26, 0) := by decide +kernel
theorem i239_26 : ts_ins 239 26 = some (.iconst 4, 27, 0) := by decide +kernel
theorem i239_27 : ts_ins 239 27 = some (.iushr, 28, 0) := by decide +kernel
theorem i239_28 : ts_ins 239 28 = some (.iadd, 29, 0) := by decide +kernel
theorem i239_29 : ts_ins 239 29 = some (.ldc_w 267, 32, 0) := by decide +kernel
theorem g239_29 : ts_lc (ts_mc 239) 267 = some (.int (252645135)) := by decide +kernel
theorem i239_32 : ts_ins 239 32 = some (.iand, 33, 0) := by decide +kernel
theorem i239_33 : ts_ins 239 33 = some (.istore_n 0, 34, 0) := by decide +kernel
theorem i239_34 : ts_ins 239 34 = some (.iload_n 0, 35, 0) := by decide +kernel
theorem i239_35 : ts_ins 239 35 = some (.iload_n 0, 36, 0) := by decide +kernel
theorem i239_36 : ts_ins 239 36 = some (.bipush 8, 38, 0) := by decide +kernel
theorem i239_38 : ts_ins 239 38 = some (.iushr, 39, 0) := by decide +kernel
theorem i239_39 : ts_ins 239 39 = some (.iadd, 40, 0) := by decide +kernel
theorem i239_40 : ts_ins 239 40 = some (.istore_n 0, 41, 0) := by decide +kernel
theorem i239_41 : ts_ins 239 41 = some (.iload_n 0, 42, 0) := by decide +kernel
theorem i239_42 : ts_ins 239 42 = some (.iload_n 0, 43, 0) := by decide +kernel
theorem i239_43 : ts_ins 239 43 = some (.bipush 16, 45, 0) := by decide +kernel
theorem i239_45 : ts_ins 239 45 = some (.iushr, 46, 0) := by decide +kernel
theorem i239_46 : ts_ins 239 46 = some (.iadd, 47, 0) := by decide +kernel
theorem i239_47 : ts_ins 239 47 = some (.istore_n 0, 48, 0) := by decide +kernel
theorem i239_48 : ts_ins 239 48 = some (.iload_n 0, 49, 0) := by decide +kernel
theorem i239_49 : ts_ins 239 49 = some (.bipush 63, 51, 0) := by decide +kernel
theorem i239_51 : ts_ins 239 51 = some (.iand, 52, 0) := by decide +kernel
theorem i239_52 : ts_ins 239 52 = some (.ireturn, 53, 0) := by decide +kernel
theorem r239 : ts_rt 239 = ((some .int), 0, 0) := by decide +kernel
theorem l239 : ts_ml 239 = 1 := by decide +kernel
theorem i193_0 : ts_ins 193 0 = some (.iconst 0, 1, 0) := by decide +kernel
theorem i193_1 : ts_ins 193 1 = some (.istore_n 1, 2, 0) := by decide +kernel
theorem i193_2 : ts_ins 193 2 = some (.iconst 0, 3, 0) := by decide +kernel
theorem i193_3 : ts_ins 193 3 = some (.istore_n 2, 4, 0) := by decide +kernel
theorem i193_4 : ts_ins 193 4 = some (.iload_n 2, 5, 0) := by decide +kernel
theorem i193_5 : ts_ins 193 5 = some (.bipush 6, 7, 0) := by decide +kernel
theorem i193_7 : ts_ins 193 7 = some (.if_icmp .ge 17, 10, 24) := by decide +kernel
theorem i193_10 : ts_ins 193 10 = some (.iload_n 1, 11, 0) := by decide +kernel
theorem i193_11 : ts_ins 193 11 = some (.iload_n 0, 12, 0) := by decide +kernel
theorem i193_12 : ts_ins 193 12 = some (.iload_n 2, 13, 0) := by decide +kernel
theorem i193_13 : ts_ins 193 13 = some (.ishr, 14, 0) := by decide +kernel
theorem i193_14 : ts_ins 193 14 = some (.iconst 1, 15, 0) := by decide +kernel
theorem i193_15 : ts_ins 193 15 = some (.iand, 16, 0) := by decide +kernel
theorem i193_16 : ts_ins 193 16 = some (.iadd, 17, 0) := by decide +kernel
theorem i193_17 : ts_ins 193 17 = some (.istore_n 1, 18, 0) := by decide +kernel
theorem i193_18 : ts_ins 193 18 = some (.iinc 2 1, 21, 0) := by decide +kernel
theorem i193_21 : ts_ins 193 21 = some (.goto (-17), 24, 4) := by decide +kernel
theorem i193_24 : ts_ins 193 24 = some (.iload_n 1, 25, 0) := by decide +kernel
theorem i193_25 : ts_ins 193 25 = some (.ireturn, 26, 0) := by decide +kernel
theorem r193 : ts_rt 193 = ((some .int), 0, 0) := by decide +kernel
theorem l193 : ts_ml 193 = 3 := by decide +kernel
/-! BITS of up to eight -/
theorem zbits_e {G H : Int → Prop} [DecidablePred G] [DecidablePred H] : ∀ n : Nat, (∀ k : Int, 0 ≤ k → k < n → (G k ↔ H k)) → zbits G n = zbits H n := by
  intro n
  induction n with
  | zero => intro _; rfl
  | succ n ih =>
    intro h
    have e := ih (fun k k0 k1 => h k k0 (by omega))
    have e2 := h n (by omega) (by omega)
    show (if G n then zor (zbits G n) (zshl 1 n) else zbits G n) = (if H n then zor (zbits H n) (zshl 1 n) else zbits H n)
    rw [e]
    by_cases c : G n
    · rw [if_pos c, if_pos (e2.mp c)]
    · rw [if_neg c, if_neg (fun r => c (e2.mpr r))]
theorem zbits_more {G : Int → Prop} [DecidablePred G] (n : Nat) : ∀ m : Nat, zbits (fun k => G k ∧ k < n) (n + m) = zbits G n := by
  intro m
  induction m with
  | zero => exact zbits_e n (fun k k0 k1 => ⟨fun r => r.1, fun r => ⟨r, k1⟩⟩)
  | succ m ih =>
    show (if G ((n + m : Nat) : Int) ∧ ((n + m : Nat) : Int) < n then _ else zbits (fun k => G k ∧ k < n) (n + m)) = _
    rw [if_neg (by omega), ih]
theorem zsum_e {g h : Int → Int} : ∀ n : Nat, (∀ k : Int, 0 ≤ k → k < n → g k = h k) → zsum g n = zsum h n := by
  intro n
  induction n with
  | zero => intro _; rfl
  | succ n ih =>
    intro q
    show zsum g n + g n = zsum h n + h n
    rw [ih (fun k k0 k1 => q k k0 (by omega)), q n (by omega) (by omega)]
theorem zsum_more {g : Int → Int} (n : Nat) : ∀ m : Nat, zsum (fun k => if k < n then g k else 0) (n + m) = zsum g n := by
  intro m
  induction m with
  | zero => exact zsum_e n (fun k k0 k1 => if_pos k1)
  | succ m ih =>
    show zsum (fun k => if k < n then g k else 0) (n + m) + (if ((n + m : Nat) : Int) < n then g ((n + m : Nat) : Int) else 0) = _
    rw [if_neg (by omega), ih, Int.add_zero]
/-- how many bits, as the host counts them -/
def zbc (a : Int) : Int :=
  let b := a - zand (zushr a 1) 1431655765
  let c := zand b 858993459 + zand (zushr b 2) 858993459
  let e := zand (c + zushr c 4) 252645135
  let g := e + zushr e 8
  let h := g + zushr g 16
  zand h 63
abbrev zv8 (b0 b1 b2 b3 b4 b5 b6 b7 : Bool) (k : Int) : Prop := [b0, b1, b2, b3, b4, b5, b6, b7].getD k.toNat false = true
abbrev zb8 (b0 b1 b2 b3 b4 b5 b6 b7 : Bool) : Int := zbits (zv8 b0 b1 b2 b3 b4 b5 b6 b7) 8
theorem zb8_1 : ∀ b0 b1 b2 b3 b4 b5 b6 b7 : Bool, 0 ≤ zb8 b0 b1 b2 b3 b4 b5 b6 b7 ∧ zb8 b0 b1 b2 b3 b4 b5 b6 b7 < 256 ∧ ((b6 = false ∧ b7 = false) → zb8 b0 b1 b2 b3 b4 b5 b6 b7 < 64) := by decide +kernel
theorem zb8_2 : ∀ b0 b1 b2 b3 b4 b5 b6 b7 : Bool, ∀ k : Nat, k < 8 → zand (zshr (zb8 b0 b1 b2 b3 b4 b5 b6 b7) k) 1 = if zv8 b0 b1 b2 b3 b4 b5 b6 b7 k then 1 else 0 := by decide +kernel
theorem zb8_3 : ∀ b0 b1 b2 b3 b4 b5 b6 b7 : Bool, zbc (zb8 b0 b1 b2 b3 b4 b5 b6 b7) = zsum (fun k => if zv8 b0 b1 b2 b3 b4 b5 b6 b7 k then 1 else 0) 8 := by decide +kernel
theorem zb8_4 : ∀ b0 b1 b2 b3 b4 b5 b6 b7 : Bool, (zb8 b0 b1 b2 b3 b4 b5 b6 b7 = 0 ↔ zsum (fun k => if zv8 b0 b1 b2 b3 b4 b5 b6 b7 k then 1 else 0) 8 = 0) := by decide +kernel
theorem zb8_ex (G : Int → Prop) [DecidablePred G] {n : Nat} (hn : n ≤ 8) : ∃ b0 b1 b2 b3 b4 b5 b6 b7 : Bool, zbits G n = zb8 b0 b1 b2 b3 b4 b5 b6 b7 ∧ (∀ k : Int, 0 ≤ k → k < 8 → (zv8 b0 b1 b2 b3 b4 b5 b6 b7 k ↔ (G k ∧ k < n))) ∧ (n ≤ 6 → b6 = false ∧ b7 = false) ∧ zsum (fun k => if G k then 1 else 0) n = zsum (fun k => if zv8 b0 b1 b2 b3 b4 b5 b6 b7 k then 1 else 0) 8 := by
  have hv : ∀ k : Int, 0 ≤ k → k < 8 → (zv8 (decide (G 0 ∧ 0 < (n : Int))) (decide (G 1 ∧ 1 < (n : Int))) (decide (G 2 ∧ 2 < (n : Int))) (decide (G 3 ∧ 3 < (n : Int))) (decide (G 4 ∧ 4 < (n : Int))) (decide (G 5 ∧ 5 < (n : Int))) (decide (G 6 ∧ 6 < (n : Int))) (decide (G 7 ∧ 7 < (n : Int))) k ↔ (G k ∧ k < n)) := by
    intro k k0 k1
    rcases (show k = 0 ∨ k = 1 ∨ k = 2 ∨ k = 3 ∨ k = 4 ∨ k = 5 ∨ k = 6 ∨ k = 7 by omega) with rfl | rfl | rfl | rfl | rfl | rfl | rfl | rfl <;> exact decide_eq_true_iff
  refine ⟨_, _, _, _, _, _, _, _, ?_, hv, fun h => ⟨decide_eq_false (by omega), decide_eq_false (by omega)⟩, ?_⟩
  · rw [← zbits_more (G := G) n (8 - n)]
    have e : n + (8 - n) = 8 := by omega
    rw [e]
    exact (zbits_e 8 (fun k k0 k1 => hv k k0 (by omega))).symm
  · rw [← zsum_more (g := fun k => if G k then 1 else 0) n (8 - n)]
    have e : n + (8 - n) = 8 := by omega
    rw [e]
    refine zsum_e 8 (fun k k0 k1 => ?_)
    have q := hv k k0 (by omega)
    by_cases c : k < n
    · show (if k < n then (if G k then 1 else 0) else 0) = _
      rw [if_pos c]
      by_cases c2 : G k
      · rw [if_pos c2, if_pos (q.mpr ⟨c2, c⟩)]
      · rw [if_neg c2, if_neg (fun r => c2 (q.mp r).1)]
    · show (if k < n then (if G k then 1 else 0) else 0) = _
      rw [if_neg c, if_neg (fun r => c (q.mp r).2)]
/-- how many are g -/
abbrev zcnt (G : Int → Prop) [DecidablePred G] (n : Nat) : Int := zsum (fun k => if G k then 1 else 0) n
theorem zcnt_r (G : Int → Prop) [DecidablePred G] (n : Nat) : 0 ≤ zcnt G n ∧ zcnt G n ≤ n := by
  induction n with
  | zero => exact ⟨Int.le_refl _, Int.le_refl _⟩
  | succ n ih =>
    show 0 ≤ zcnt G n + (if G n then 1 else 0) ∧ zcnt G n + (if G n then 1 else 0) ≤ ((n + 1 : Nat) : Int)
    split <;> omega
theorem zbits_8 (G : Int → Prop) [DecidablePred G] {n : Nat} (hn : n ≤ 8) : 0 ≤ zbits G n ∧ zbits G n < 256 ∧ (n ≤ 6 → zbits G n < 64) := by
  obtain ⟨b0, b1, b2, b3, b4, b5, b6, b7, e, h1, h2, h3⟩ := zb8_ex G hn
  have q := zb8_1 b0 b1 b2 b3 b4 b5 b6 b7
  rw [e]
  exact ⟨q.1, q.2.1, fun r => q.2.2 (h2 r)⟩
theorem zbits_bit (G : Int → Prop) [DecidablePred G] {n : Nat} (hn : n ≤ 8) {k : Int} (k0 : 0 ≤ k) (k1 : k < 8) : zand (zshr (zbits G n) k) 1 = if G k ∧ k < n then 1 else 0 := by
  obtain ⟨b0, b1, b2, b3, b4, b5, b6, b7, e, h1, h2, h3⟩ := zb8_ex G hn
  have q := zb8_2 b0 b1 b2 b3 b4 b5 b6 b7 k.toNat (by omega)
  rw [e]
  rw [show ((k.toNat : Nat) : Int) = k from by omega] at q
  rw [q]
  have r := h1 k k0 k1
  by_cases c : G k ∧ k < n
  · rw [if_pos c, if_pos (r.mpr c)]
  · rw [if_neg c, if_neg (fun s => c (r.mp s))]
theorem zbits_bc (G : Int → Prop) [DecidablePred G] {n : Nat} (hn : n ≤ 8) : zbc (zbits G n) = zcnt G n := by
  obtain ⟨b0, b1, b2, b3, b4, b5, b6, b7, e, h1, h2, h3⟩ := zb8_ex G hn
  unfold zcnt
  rw [h3, e]
  exact zb8_3 b0 b1 b2 b3 b4 b5 b6 b7
theorem zbits_z (G : Int → Prop) [DecidablePred G] {n : Nat} (hn : n ≤ 8) : zbits G n = 0 ↔ zcnt G n = 0 := by
  obtain ⟨b0, b1, b2, b3, b4, b5, b6, b7, e, h1, h2, h3⟩ := zb8_ex G hn
  unfold zcnt
  rw [h3, e]
  exact zb8_4 b0 b1 b2 b3 b4 b5 b6 b7
section BI
variable {X : ts_X} {I : Nat → Nat → Int32} {L : Nat → Nat → Int64} {sw : Bool} {K : Option Value → ts_H → Prop} {d : Nat} {f : ts_Fl}
theorem x_bitCount {a : Int} (hK : K (some (.int (zI (zbc a)))) (I, L, ts_P0 sw, ts_S0)) : ts_Cal X (d + 1) 239 [.int (zI (a))] (I, L, ts_P0 sw, ts_S0) K := by
  unfold zbc at hK
  refine ev_enter (lv := [.int (zI (a))]) l239 rfl (Nat.le_of_ble_eq_true rfl) ?_
  refine ev_iloadn_0 i239_0 ?_
  refine ev_iloadn_0 i239_1 ?_
  refine ew_iconst i239_2 ?_
  refine ew_iushr i239_3 ?_
  refine ew_ldc_w (z := (1431655765)) i239_4 g239_4 (by decide) ?_
  refine ew_iand i239_7 ?_
  refine ew_isub i239_8 ?_
  refine ev_istoren_0 i239_9 ?_
  refine ev_iloadn_0 i239_10 ?_
  refine ew_ldc_w (z := (858993459)) i239_11 g239_11 (by decide) ?_
  refine ew_iand i239_14 ?_
  refine ev_iloadn_0 i239_15 ?_
  refine ew_iconst i239_16 ?_
  refine ew_iushr i239_17 ?_
  refine ew_ldc_w (z := (858993459)) i239_18 g239_18 (by decide) ?_
  refine ew_iand i239_21 ?_
  refine ew_iadd i239_22 ?_
  refine ev_istoren_0 i239_23 ?_
  refine ev_iloadn_0 i239_24 ?_
  refine ev_iloadn_0 i239_25 ?_
  refine ew_iconst i239_26 ?_
  refine ew_iushr i239_27 ?_
  refine ew_iadd i239_28 ?_
  refine ew_ldc_w (z := (252645135)) i239_29 g239_29 (by decide) ?_
  refine ew_iand i239_32 ?_
  refine ev_istoren_0 i239_33 ?_
  refine ev_iloadn_0 i239_34 ?_
  refine ev_iloadn_0 i239_35 ?_
  refine ew_bipush i239_36 (by decide) ?_
  refine ew_iushr i239_38 ?_
  refine ew_iadd i239_39 ?_
  refine ev_istoren_0 i239_40 ?_
  refine ev_iloadn_0 i239_41 ?_
  refine ev_iloadn_0 i239_42 ?_
  refine ew_bipush i239_43 (by decide) ?_
  refine ew_iushr i239_45 ?_
  refine ew_iadd i239_46 ?_
  refine ev_istoren_0 i239_47 ?_
  refine ev_iloadn_0 i239_48 ?_
  refine ew_bipush i239_49 (by decide) ?_
  refine ew_iand i239_51 ?_
  refine ev_ireturn i239_52 r239 ?_
  first | exact hK | exact zK hK (by omega)
theorem m_bitsOf (G : Int → Prop) [DecidablePred G] {n : Nat} (hn : n ≤ 6) (hK : K (some (.int (zI (zcnt G n)))) (I, L, ts_P0 sw, ts_S0)) : ts_Cal X (d + 1) 193 [.int (zI (zbits G n))] (I, L, ts_P0 sw, ts_S0) K := by
  have loop : ∀ k : Int, 0 ≤ k → k ≤ 6 → ts_Ev X (ts_Cal X (d + 0)) 193 ts_S0 K 4 [.int (zI (zbits G n)), .int (zI (zsum (fun k => if G k ∧ k < n then 1 else 0) k.toNat)), .int (zI (k))] [] (I, L, ts_P0 sw, ts_S0) := by
    refine ts_ind 6 (fun k ih h0 h1 => ?_)
    refine ev_iloadn_2 i193_4 ?_
    refine ew_bipush i193_5 (by decide) ?_
    refine ew_icmpge i193_7 (by omega) (fun c7 => ?_) (fun c7 => ?_)
    · refine ev_iloadn_1 i193_24 ?_
      refine ev_ireturn i193_25 r193 ?_
      obtain rfl : k = 6 := by omega
      have e : zsum (fun k => if G k ∧ k < n then 1 else 0) 6 = zcnt G n := by
        unfold zcnt
        rw [← zsum_more (g := fun k => if G k then 1 else 0) n (6 - n)]
        rw [show n + (6 - n) = 6 from by omega]
        refine zsum_e 6 (fun k k0 k1 => ?_)
        show (if G k ∧ k < n then 1 else 0) = (if k < n then (if G k then 1 else 0) else 0)
        by_cases c : k < n
        · rw [if_pos c]
          by_cases c2 : G k
          · rw [if_pos c2, if_pos ⟨c2, c⟩]
          · rw [if_neg c2, if_neg (fun r => c2 r.1)]
        · rw [if_neg c, if_neg (fun r => c r.2)]
      rw [← e] at hK
      exact hK
    · refine ev_iloadn_1 i193_10 ?_
      refine ev_iloadn_0 i193_11 ?_
      refine ev_iloadn_2 i193_12 ?_
      refine ew_ishr i193_13 ?_
      refine ew_iconst i193_14 ?_
      refine ew_iand i193_15 ?_
      refine ew_iadd i193_16 ?_
      refine ev_istoren_1 i193_17 rfl ?_
      refine ew_iinc_2 i193_18 rfl ?_
      refine ev_goto i193_21 ?_
      have e := ih (by omega) (by omega) (by omega)
      rw [zsum_s h0] at e
      rw [zbits_bit G (by omega) h0 (by omega)]
      exact e
  refine ev_enter (lv := [.int (zI (zbits G n)), .null, .null]) l193 rfl (Nat.le_of_ble_eq_true rfl) ?_
  refine ew_iconst i193_0 ?_
  refine ev_istoren_1 i193_1 rfl ?_
  refine ew_iconst i193_2 ?_
  refine ev_istoren_2 i193_3 rfl ?_
  exact loop 0 (by decide) (by decide)
end BI
