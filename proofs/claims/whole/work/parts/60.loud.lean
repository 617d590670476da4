theorem i30_0 : ts_ins 30 0 = some (.aload_n 0, 1, 0) := by decide +kernel
theorem i30_1 : ts_ins 30 1 = some (.iload_n 1, 2, 0) := by decide +kernel
theorem i30_2 : ts_ins 30 2 = some (.invokevirtual 69, 5, 0) := by decide +kernel
theorem g30_2 : ts_cal (ts_mc 30) 69 = some (0, 19, 1) := by decide +kernel
theorem i30_5 : ts_ins 30 5 = some (.ifCond .ne 5, 8, 10) := by decide +kernel
theorem i30_8 : ts_ins 30 8 = some (.iconst 0, 9, 0) := by decide +kernel
theorem i30_9 : ts_ins 30 9 = some (.ireturn, 10, 0) := by decide +kernel
theorem i30_10 : ts_ins 30 10 = some (.aload_n 0, 11, 0) := by decide +kernel
theorem i30_11 : ts_ins 30 11 = some (.getfield 55, 14, 0) := by decide +kernel
theorem g30_11 : ts_fm 30 55 = some (3, 12, 1) := by decide +kernel
theorem i30_14 : ts_ins 30 14 = some (.ifCond .eq 30, 17, 44) := by decide +kernel
theorem i30_17 : ts_ins 30 17 = some (.aload_n 0, 18, 0) := by decide +kernel
theorem i30_18 : ts_ins 30 18 = some (.getfield 51, 21, 0) := by decide +kernel
theorem g30_18 : ts_fm 30 51 = some (3, 11, 2) := by decide +kernel
theorem i30_21 : ts_ins 30 21 = some (.iload_n 2, 22, 0) := by decide +kernel
theorem i30_22 : ts_ins 30 22 = some (.iload_n 3, 23, 0) := by decide +kernel
theorem i30_23 : ts_ins 30 23 = some (.aload_n 0, 24, 0) := by decide +kernel
theorem i30_24 : ts_ins 30 24 = some (.getfield 45, 27, 0) := by decide +kernel
theorem g30_24 : ts_fm 30 45 = some (3, 10, 0) := by decide +kernel
theorem i30_27 : ts_ins 30 27 = some (.iload_n 1, 28, 0) := by decide +kernel
theorem i30_28 : ts_ins 30 28 = some (.aload_n 0, 29, 0) := by decide +kernel
theorem i30_29 : ts_ins 30 29 = some (.getfield 24, 32, 0) := by decide +kernel
theorem g30_29 : ts_fm 30 24 = some (3, 4, 2) := by decide +kernel
theorem i30_32 : ts_ins 30 32 = some (.iload_n 1, 33, 0) := by decide +kernel
theorem i30_33 : ts_ins 30 33 = some (.iaload, 34, 0) := by decide +kernel
theorem i30_34 : ts_ins 30 34 = some (.iload 4, 36, 0) := by decide +kernel
theorem i30_36 : ts_ins 30 36 = some (.iconst 4, 37, 0) := by decide +kernel
theorem i30_37 : ts_ins 30 37 = some (.irem, 38, 0) := by decide +kernel
theorem i30_38 : ts_ins 30 38 = some (.invokevirtual 97, 41, 0) := by decide +kernel
theorem g30_38 : ts_cal (ts_mc 30) 97 = some (0, 36, 6) := by decide +kernel
theorem i30_41 : ts_ins 30 41 = some (.goto 16, 44, 57) := by decide +kernel
theorem i30_44 : ts_ins 30 44 = some (.bipush 9, 46, 0) := by decide +kernel
theorem i30_46 : ts_ins 30 46 = some (.aload_n 0, 47, 0) := by decide +kernel
theorem i30_47 : ts_ins 30 47 = some (.getfield 45, 50, 0) := by decide +kernel
theorem g30_47 : ts_fm 30 45 = some (3, 10, 0) := by decide +kernel
theorem i30_50 : ts_ins 30 50 = some (.iconst 2, 51, 0) := by decide +kernel
theorem i30_51 : ts_ins 30 51 = some (.idiv, 52, 0) := by decide +kernel
theorem i30_52 : ts_ins 30 52 = some (.isub, 53, 0) := by decide +kernel
theorem i30_53 : ts_ins 30 53 = some (.iload_n 3, 54, 0) := by decide +kernel
theorem i30_54 : ts_ins 30 54 = some (.iconst 3, 55, 0) := by decide +kernel
theorem i30_55 : ts_ins 30 55 = some (.idiv, 56, 0) := by decide +kernel
theorem i30_56 : ts_ins 30 56 = some (.isub, 57, 0) := by decide +kernel
theorem i30_57 : ts_ins 30 57 = some (.istore 5, 59, 0) := by decide +kernel
theorem i30_59 : ts_ins 30 59 = some (.iconst 0, 60, 0) := by decide +kernel
theorem i30_60 : ts_ins 30 60 = some (.bipush 9, 62, 0) := by decide +kernel
theorem i30_62 : ts_ins 30 62 = some (.iload 5, 64, 0) := by decide +kernel
theorem i30_64 : ts_ins 30 64 = some (.invokestatic 101, 67, 0) := by decide +kernel
theorem g30_64 : ts_cal (ts_mc 30) 101 = some (6, 0, 2) := by decide +kernel
theorem i30_67 : ts_ins 30 67 = some (.invokestatic 105, 70, 0) := by decide +kernel
theorem g30_67 : ts_cal (ts_mc 30) 105 = some (5, 0, 2) := by decide +kernel
theorem i30_70 : ts_ins 30 70 = some (.ireturn, 71, 0) := by decide +kernel
theorem r30 : ts_rt 30 = ((some .int), 0, 0) := by decide +kernel
theorem l30 : ts_ml 30 = 6 := by decide +kernel
theorem i177_0 : ts_ins 177 0 = some (.bipush 9, 2, 0) := by decide +kernel
theorem i177_2 : ts_ins 177 2 = some (.aload_n 0, 3, 0) := by decide +kernel
theorem i177_3 : ts_ins 177 3 = some (.getfield 9, 6, 0) := by decide +kernel
theorem g177_3 : ts_fm 177 9 = some (12, 0, 2) := by decide +kernel
theorem i177_6 : ts_ins 177 6 = some (.bipush 48, 8, 0) := by decide +kernel
theorem i177_8 : ts_ins 177 8 = some (.iaload, 9, 0) := by decide +kernel
theorem i177_9 : ts_ins 177 9 = some (.iconst 2, 10, 0) := by decide +kernel
theorem i177_10 : ts_ins 177 10 = some (.idiv, 11, 0) := by decide +kernel
theorem i177_11 : ts_ins 177 11 = some (.isub, 12, 0) := by decide +kernel
theorem i177_12 : ts_ins 177 12 = some (.aload_n 0, 13, 0) := by decide +kernel
theorem i177_13 : ts_ins 177 13 = some (.getfield 34, 16, 0) := by decide +kernel
theorem g177_13 : ts_fm 177 34 = some (12, 19, 2) := by decide +kernel
theorem i177_16 : ts_ins 177 16 = some (.iload_n 1, 17, 0) := by decide +kernel
theorem i177_17 : ts_ins 177 17 = some (.iaload, 18, 0) := by decide +kernel
theorem i177_18 : ts_ins 177 18 = some (.iconst 3, 19, 0) := by decide +kernel
theorem i177_19 : ts_ins 177 19 = some (.idiv, 20, 0) := by decide +kernel
theorem i177_20 : ts_ins 177 20 = some (.isub, 21, 0) := by decide +kernel
theorem i177_21 : ts_ins 177 21 = some (.istore 4, 23, 0) := by decide +kernel
theorem i177_23 : ts_ins 177 23 = some (.aload_n 0, 24, 0) := by decide +kernel
theorem i177_24 : ts_ins 177 24 = some (.getfield 83, 27, 0) := by decide +kernel
theorem g177_24 : ts_fm 177 83 = some (12, 12, 0) := by decide +kernel
theorem i177_27 : ts_ins 177 27 = some (.ifCond .lt 82, 30, 109) := by decide +kernel
theorem i177_30 : ts_ins 177 30 = some (.aload_n 0, 31, 0) := by decide +kernel
theorem i177_31 : ts_ins 177 31 = some (.getfield 31, 34, 0) := by decide +kernel
theorem g177_31 : ts_fm 177 31 = some (12, 18, 2) := by decide +kernel
theorem i177_34 : ts_ins 177 34 = some (.iconst 0, 35, 0) := by decide +kernel
theorem i177_35 : ts_ins 177 35 = some (.aload_n 0, 36, 0) := by decide +kernel
theorem i177_36 : ts_ins 177 36 = some (.getfield 9, 39, 0) := by decide +kernel
theorem g177_36 : ts_fm 177 9 = some (12, 0, 2) := by decide +kernel
theorem i177_39 : ts_ins 177 39 = some (.iload_n 1, 40, 0) := by decide +kernel
theorem i177_40 : ts_ins 177 40 = some (.iaload, 41, 0) := by decide +kernel
theorem i177_41 : ts_ins 177 41 = some (.iastore, 42, 0) := by decide +kernel
theorem i177_42 : ts_ins 177 42 = some (.aload_n 0, 43, 0) := by decide +kernel
theorem i177_43 : ts_ins 177 43 = some (.getfield 31, 46, 0) := by decide +kernel
theorem g177_43 : ts_fm 177 31 = some (12, 18, 2) := by decide +kernel
theorem i177_46 : ts_ins 177 46 = some (.iconst 1, 47, 0) := by decide +kernel
theorem i177_47 : ts_ins 177 47 = some (.aload_n 0, 48, 0) := by decide +kernel
theorem i177_48 : ts_ins 177 48 = some (.getfield 34, 51, 0) := by decide +kernel
theorem g177_48 : ts_fm 177 34 = some (12, 19, 2) := by decide +kernel
theorem i177_51 : ts_ins 177 51 = some (.iload_n 1, 52, 0) := by decide +kernel
theorem i177_52 : ts_ins 177 52 = some (.iaload, 53, 0) := by decide +kernel
theorem i177_53 : ts_ins 177 53 = some (.iastore, 54, 0) := by decide +kernel
theorem i177_54 : ts_ins 177 54 = some (.aload_n 0, 55, 0) := by decide +kernel
theorem i177_55 : ts_ins 177 55 = some (.getfield 31, 58, 0) := by decide +kernel
theorem g177_55 : ts_fm 177 31 = some (12, 18, 2) := by decide +kernel
theorem i177_58 : ts_ins 177 58 = some (.iconst 2, 59, 0) := by decide +kernel
theorem i177_59 : ts_ins 177 59 = some (.aload_n 0, 60, 0) := by decide +kernel
theorem i177_60 : ts_ins 177 60 = some (.getfield 9, 63, 0) := by decide +kernel
theorem g177_60 : ts_fm 177 9 = some (12, 0, 2) := by decide +kernel
theorem i177_63 : ts_ins 177 63 = some (.bipush 48, 65, 0) := by decide +kernel
theorem i177_65 : ts_ins 177 65 = some (.iaload, 66, 0) := by decide +kernel
theorem i177_66 : ts_ins 177 66 = some (.iastore, 67, 0) := by decide +kernel
theorem i177_67 : ts_ins 177 67 = some (.aload_n 0, 68, 0) := by decide +kernel
theorem i177_68 : ts_ins 177 68 = some (.getfield 31, 71, 0) := by decide +kernel
theorem g177_68 : ts_fm 177 31 = some (12, 18, 2) := by decide +kernel
theorem i177_71 : ts_ins 177 71 = some (.iconst 3, 72, 0) := by decide +kernel
theorem i177_72 : ts_ins 177 72 = some (.iload_n 2, 73, 0) := by decide +kernel
theorem i177_73 : ts_ins 177 73 = some (.iastore, 74, 0) := by decide +kernel
theorem i177_74 : ts_ins 177 74 = some (.aload_n 0, 75, 0) := by decide +kernel
theorem i177_75 : ts_ins 177 75 = some (.getfield 31, 78, 0) := by decide +kernel
theorem g177_75 : ts_fm 177 31 = some (12, 18, 2) := by decide +kernel
theorem i177_78 : ts_ins 177 78 = some (.iconst 4, 79, 0) := by decide +kernel
theorem i177_79 : ts_ins 177 79 = some (.aload_n 0, 80, 0) := by decide +kernel
theorem i177_80 : ts_ins 177 80 = some (.getfield 9, 83, 0) := by decide +kernel
theorem g177_80 : ts_fm 177 9 = some (12, 0, 2) := by decide +kernel
theorem i177_83 : ts_ins 177 83 = some (.bipush 40, 85, 0) := by decide +kernel
theorem i177_85 : ts_ins 177 85 = some (.iload_n 2, 86, 0) := by decide +kernel
theorem i177_86 : ts_ins 177 86 = some (.iadd, 87, 0) := by decide +kernel
theorem i177_87 : ts_ins 177 87 = some (.iaload, 88, 0) := by decide +kernel
theorem i177_88 : ts_ins 177 88 = some (.iastore, 89, 0) := by decide +kernel
theorem i177_89 : ts_ins 177 89 = some (.aload_n 0, 90, 0) := by decide +kernel
theorem i177_90 : ts_ins 177 90 = some (.getfield 31, 93, 0) := by decide +kernel
theorem g177_90 : ts_fm 177 31 = some (12, 18, 2) := by decide +kernel
theorem i177_93 : ts_ins 177 93 = some (.iconst 5, 94, 0) := by decide +kernel
theorem i177_94 : ts_ins 177 94 = some (.iload_n 3, 95, 0) := by decide +kernel
theorem i177_95 : ts_ins 177 95 = some (.iconst 4, 96, 0) := by decide +kernel
theorem i177_96 : ts_ins 177 96 = some (.irem, 97, 0) := by decide +kernel
theorem i177_97 : ts_ins 177 97 = some (.iastore, 98, 0) := by decide +kernel
theorem i177_98 : ts_ins 177 98 = some (.aload_n 0, 99, 0) := by decide +kernel
theorem i177_99 : ts_ins 177 99 = some (.iconst 0, 100, 0) := by decide +kernel
theorem i177_100 : ts_ins 177 100 = some (.aload_n 0, 101, 0) := by decide +kernel
theorem i177_101 : ts_ins 177 101 = some (.getfield 83, 104, 0) := by decide +kernel
theorem g177_101 : ts_fm 177 83 = some (12, 12, 0) := by decide +kernel
theorem i177_104 : ts_ins 177 104 = some (.invokevirtual 195, 107, 0) := by decide +kernel
theorem g177_104 : ts_cal (ts_mc 177) 195 = some (0, 170, 2) := by decide +kernel
theorem i177_107 : ts_ins 177 107 = some (.istore 4, 109, 0) := by decide +kernel
theorem i177_109 : ts_ins 177 109 = some (.iload 4, 111, 0) := by decide +kernel
theorem i177_111 : ts_ins 177 111 = some (.ifCond .ge 7, 114, 118) := by decide +kernel
theorem i177_114 : ts_ins 177 114 = some (.iconst 0, 115, 0) := by decide +kernel
theorem i177_115 : ts_ins 177 115 = some (.goto 17, 118, 132) := by decide +kernel
theorem i177_118 : ts_ins 177 118 = some (.iload 4, 120, 0) := by decide +kernel
theorem i177_120 : ts_ins 177 120 = some (.bipush 9, 122, 0) := by decide +kernel
theorem i177_122 : ts_ins 177 122 = some (.if_icmp .le 8, 125, 130) := by decide +kernel
theorem i177_125 : ts_ins 177 125 = some (.bipush 9, 127, 0) := by decide +kernel
theorem i177_127 : ts_ins 177 127 = some (.goto 5, 130, 132) := by decide +kernel
theorem i177_130 : ts_ins 177 130 = some (.iload 4, 132, 0) := by decide +kernel
theorem i177_132 : ts_ins 177 132 = some (.ireturn, 133, 0) := by decide +kernel
theorem r177 : ts_rt 177 = ((some .int), 0, 0) := by decide +kernel
theorem l177 : ts_ml 177 = 5 := by decide +kernel
/-! HOW LOUD: the law's state; what a law gives is told by two words that law() will owe -/
/-- t, c, r, m, a, b -/
def nm (t c r m a b : Int) : Int → Int := fun i => if i = 0 then t else if i = 1 then c else if i = 2 then r else if i = 3 then m else if i = 4 then a else b
/-- 1: there is a law; what it gives -/
abbrev ts_Lw : Type := Int × ((Int → Int) → Int)
abbrev frl (c : Nat) : Nat → Nat → Prop := fun a _ => a = c + 3 ∨ a = c + 4
abbrev frx : Nat → Nat → Prop := fun a _ => a = 22 ∨ a = 23 ∨ a = 29 ∨ a = 30
abbrev frw : Nat → Nat → Prop := fun a k => (a = 72 ∧ 13 ≤ k ∧ k ≤ 17)
abbrev frv : Nat → Nat → Prop := fun a k => (a = 72 ∧ 13 ≤ k ∧ k ≤ 17) ∨ a = 80
/-- the steps st, op (m of them) give v -/
def PX (v : (Int → Int) → Int) (m : Int) (st op : Int → Int) : Prop := ∀ (X : ts_X) (I : Nat → Nat → Int32) (L : Nat → Nat → Int64) (sw : Bool) (K : Option Value → ts_H → Prop) (d c : Nat) (t cn r mm a b : Int), (c = 19 ∨ c = 26) → rd (I c 4) 0 128 m → ar I (c + 1) m 0 255 st → ar I (c + 2) m 0 9999 op → (0 ≤ t ∧ t ≤ 7) → (0 ≤ cn ∧ cn ≤ 9) → (0 ≤ r ∧ r ≤ 20) → (0 ≤ mm ∧ mm ≤ 3) → (0 ≤ a ∧ a ≤ 12) → (0 ≤ b ∧ b ≤ 3) → (∀ J, fr (frl c) I J → K (some (.int (zI (v (nm t cn r mm a b))))) (J, L, ts_P0 sw, ts_S0)) → ts_Cal X (d + 2) 36 [.ref c, .int (zI t), .int (zI cn), .int (zI r), .int (zI mm), .int (zI a), .int (zI b)] (I, L, ts_P0 sw, ts_S0) K
/-- the text (n bytes) gives v -/
def PM (v : (Int → Int) → Int) (n : Int) (txt : Int → Int) : Prop := ∀ (X : ts_X) (I : Nat → Nat → Int32) (L : Nat → Nat → Int64) (sw : Bool) (K : Option Value → ts_H → Prop) (d : Nat) (N : Int → Int), ar I 79 n 0 255 txt → ar I 80 6 0 20 N → (∀ J, fr frw I J → K (some (.int (zI (v N)))) (J, L, ts_P0 sw, ts_S0)) → ts_Cal X (d + 80) 170 [.ref 72, .int (zI 0), .int (zI n)] (I, L, ts_P0 sw, ts_S0) K
def RXw (I : Nat → Nat → Int32) (sw : Bool) (w : ts_Lw) : Prop := rd (I 2 12) 0 1 w.1 ∧ (w.1 = 1 → ∃ m st op, PX w.2 m st op ∧ rd (I (ts_rule sw) 4) 0 128 m ∧ ar I (ts_rule sw + 1) m 0 255 st ∧ ar I (ts_rule sw + 2) m 0 9999 op)
def RMw (I : Nat → Nat → Int32) (w : ts_Lw) : Prop := (0 ≤ w.1 ∧ w.1 ≤ 1) ∧ (w.1 = 0 → rd (I 72 12) (-1) (-1) (-1)) ∧ (w.1 = 1 → ∃ n txt, PM w.2 n txt ∧ rd (I 72 12) 0 120 n ∧ ar I 79 n 0 255 txt)
def ROw (w : ts_Lw) : Prop := ∀ N, -2147483648 ≤ w.2 N ∧ w.2 N ≤ 2147483647
def g_raw (w : ts_Lw) (t c r m a b : Int) : Int := if w.1 = 1 then w.2 (nm t c r m a b) else 9 - r / 2 - c / 3
def g_ld (w : ts_Lw) (t c r m a b : Int) : Int := if g_raw w t c r m a b < 0 then 0 else if 9 < g_raw w t c r m a b then 9 else g_raw w t c r m a b
theorem g_ld_r (w : ts_Lw) (t c r m a b : Int) : 0 ≤ g_ld w t c r m a b ∧ g_ld w t c r m a b ≤ 9 := by unfold g_ld; omega
section LO
variable {X : ts_X} {I J : Nat → Nat → Int32} {L : Nat → Nat → Int64} {sw : Bool} {K : Option Value → ts_H → Prop} {d : Nat} {f : ts_Fl} {w : ts_Lw}
theorem rule_R (sw : Bool) : ts_rcv ts_S0 (ts_rule sw) 36 = true := by cases sw <;> decide +kernel
theorem rule_c (sw : Bool) : ts_rule sw = 19 ∨ ts_rule sw = 26 := by cases sw <;> decide
theorem RXw.co (h : RXw I sw w) (e2 : J 2 12 = I 2 12) (e : ∀ a, (19 ≤ a ∧ a ≤ 21) ∨ (26 ≤ a ∧ a ≤ 28) → J a = I a) : RXw J sw w := by
  refine ⟨by rw [e2]; exact h.1, fun q => ?_⟩
  obtain ⟨m, st, op, h1, h2, h3, h4⟩ := h.2 q
  have c := rule_c sw
  refine ⟨m, st, op, h1, by rw [e _ (by omega)]; exact h2, ar_co h3 (e _ (by omega)), ar_co h4 (e _ (by omega))⟩
theorem RMw.co (h : RMw I w) (e2 : J 72 12 = I 72 12) (e : J 79 = I 79) : RMw J w := by
  refine ⟨h.1, fun q => by rw [e2]; exact h.2.1 q, fun q => ?_⟩
  obtain ⟨n, txt, h1, h2, h3⟩ := h.2.2 q
  exact ⟨n, txt, h1, by rw [e2]; exact h2, ar_co h3 e⟩
theorem x_loudness (hX : RX I f) (hW : RXw I sw w) (hO : ROw w) {m t c b : Int} (hm : 0 ≤ m ∧ m < f_men f) (ht : 0 ≤ t ∧ t ≤ 7) (hc : 0 ≤ c ∧ c ≤ 9) (hb : 0 ≤ b ∧ b ≤ 1000000) (hK : ∀ J, fr frx I J → K (some (.int (zI (g_ld w t c (f_road f) m (f_arm f m) (b % 4))))) (J, L, ts_P0 sw, ts_S0)) : ts_Cal X (d + 3) 30 [.ref 2, .int (zI (m)), .int (zI (t)), .int (zI (c)), .int (zI (b))] (I, L, ts_P0 sw, ts_S0) K := by
  have b1 := hX.men.2
  have b2 := (hX.arm m (by omega) (by omega)).2
  have b3 := hX.road.2
  unfold g_ld g_raw at hK
  refine ev_enter (lv := [.ref 2, .int (zI (m)), .int (zI (t)), .int (zI (c)), .int (zI (b)), .null]) l30 rfl (Nat.le_of_ble_eq_true rfl) ?_
  refine ev_aloadn_0 i30_0 ?_
  refine ev_iloadn_1 i30_1 ?_
  refine ev_virt1 i30_2 g30_2 rfl (by decide +kernel) (Nat.le_of_ble_eq_true rfl) (x_hasMan hX (by omega) ?_)
  first
  | refine ew_ifneB i30_5 (fun c5 => ?_) (fun c5 => ?_)
  | refine ew_ifne i30_5 (by omega) (fun c5 => ?_) (fun c5 => ?_)
  · refine ev_aloadn_0 i30_10 ?_
    refine ew_getZ i30_11 g30_11 rfl (by first | exact hW.1 | exact hX.men | exact hX.told | exact hX.road | exact hX.tone _ (by omega) (by omega) | exact hX.corn _ (by omega) (by omega) | exact hX.stand _ (by omega) (by omega) | exact hX.reach _ (by omega) (by omega) | exact hX.arm _ (by omega) (by omega) | exact hX.late _ (by omega) (by omega) | exact hX.len _ (by omega) (by omega) | exact hX.say (by omega) (by omega) _ (by omega) (by omega)) (fun b11 => ?_)
    first
    | refine ew_ifeqB i30_14 (fun c14 => ?_) (fun c14 => ?_)
    | refine ew_ifeq i30_14 (by omega) (fun c14 => ?_) (fun c14 => ?_)
    · rw [if_neg (show ¬ w.1 = 1 by omega)] at hK
      refine ew_bipush i30_44 (by decide) ?_
      refine ev_aloadn_0 i30_46 ?_
      refine ew_getI i30_47 g30_47 rfl (by first | exact hX.men | exact hX.told | exact hX.road | exact hX.tone _ (by omega) (by omega) | exact hX.corn _ (by omega) (by omega) | exact hX.stand _ (by omega) (by omega) | exact hX.reach _ (by omega) (by omega) | exact hX.arm _ (by omega) (by omega) | exact hX.late _ (by omega) (by omega) | exact hX.len _ (by omega) (by omega) | exact hX.say (by omega) (by omega) _ (by omega) (by omega)) (fun b47 => ?_)
      refine ew_iconst i30_50 ?_
      refine ew_idiv i30_51 (by omega) (by omega) ?_
      refine ew_isub i30_52 ?_
      refine ev_iloadn_3 i30_53 ?_
      refine ew_iconst i30_54 ?_
      refine ew_idiv i30_55 (by omega) (by omega) ?_
      refine ew_isub i30_56 ?_
      refine ev_istore_5 i30_57 rfl ?_
      refine ew_iconst i30_59 ?_
      refine ew_bipush i30_60 (by decide) ?_
      refine ev_iload_5 i30_62 ?_
      refine ew_mmin i30_64 g30_64 (Nat.le_of_ble_eq_true rfl) (by omega) ?_
      refine ew_mmax i30_67 g30_67 (Nat.le_of_ble_eq_true rfl) (by omega) ?_
      refine ev_ireturn i30_70 r30 ?_
      exact zK (hK I (fr_rfl _ _)) (by omega)
    · have w1 : w.1 = 1 := by omega
      obtain ⟨mm, st, op, h1, h2, h3, h4⟩ := hW.2 w1
      have r := hO (nm t c (f_road f) m (f_arm f m) (b % 4))
      rw [if_pos w1] at hK
      refine ev_aloadn_0 i30_17 ?_
      refine ev_getA i30_18 g30_18 rfl rfl (ts_rule_ne _) ?_
      refine ev_iloadn_2 i30_21 ?_
      refine ev_iloadn_3 i30_22 ?_
      refine ev_aloadn_0 i30_23 ?_
      refine ew_getI i30_24 g30_24 rfl (by first | exact hX.men | exact hX.told | exact hX.road | exact hX.tone _ (by omega) (by omega) | exact hX.corn _ (by omega) (by omega) | exact hX.stand _ (by omega) (by omega) | exact hX.reach _ (by omega) (by omega) | exact hX.arm _ (by omega) (by omega) | exact hX.late _ (by omega) (by omega) | exact hX.len _ (by omega) (by omega) | exact hX.say (by omega) (by omega) _ (by omega) (by omega)) (fun b24 => ?_)
      refine ev_iloadn_1 i30_27 ?_
      refine ev_aloadn_0 i30_28 ?_
      refine ev_getA i30_29 g30_29 rfl rfl (by decide) ?_
      refine ev_iloadn_1 i30_32 ?_
      refine ew_iaload i30_33 rfl (by omega) (by omega) (by omega) (by first | exact hX.men | exact hX.told | exact hX.road | exact hX.tone _ (by omega) (by omega) | exact hX.corn _ (by omega) (by omega) | exact hX.stand _ (by omega) (by omega) | exact hX.reach _ (by omega) (by omega) | exact hX.arm _ (by omega) (by omega) | exact hX.late _ (by omega) (by omega) | exact hX.len _ (by omega) (by omega) | exact hX.say (by omega) (by omega) _ (by omega) (by omega)) (fun b33 => ?_)
      refine ev_iload_4 i30_34 ?_
      refine ew_iconst i30_36 ?_
      refine ew_irem i30_37 (by omega) (by omega) ?_
      refine ev_virt6 i30_38 g30_38 (rule_R sw) (by decide +kernel) (Nat.le_of_ble_eq_true rfl) (h1 X _ L sw _ _ _ _ _ _ _ _ _ (rule_c sw) h2 h3 h4 ht hc b3 (by omega) b2 (by omega) (fun J hJ => ?_))
      refine ev_goto i30_41 ?_
      refine ev_istore_5 i30_57 rfl ?_
      refine ew_iconst i30_59 ?_
      refine ew_bipush i30_60 (by decide) ?_
      refine ev_iload_5 i30_62 ?_
      refine ew_mmin i30_64 g30_64 (Nat.le_of_ble_eq_true rfl) (by omega) ?_
      refine ew_mmax i30_67 g30_67 (Nat.le_of_ble_eq_true rfl) (by omega) ?_
      refine ev_ireturn i30_70 r30 ?_
      have e := hK J (fr_mo hJ (fun a k q => by have := rule_c sw; omega))
      exact zK e (by omega)
  · refine ew_iconst i30_8 ?_
    refine ev_ireturn i30_9 r30 ?_
    exfalso; omega
theorem m_loudOf (hM : RM I f) (hW : RMw I w) (hO : ROw w) {cn : Int → Int} (ha : ar I 81 16 0 9 cn) {p m b : Int} (hp : 0 ≤ p ∧ p < 16) (hm : 0 ≤ m ∧ m < 4) (hb : 0 ≤ b ∧ b ≤ 1000000) (hK : ∀ J, fr frv I J → K (some (.int (zI (g_ld w (f_tone f p) (cn p) (f_road f) m (f_arm f m) (b % 4))))) (J, L, ts_P0 sw, ts_S0)) : ts_Cal X (d + 81) 177 [.ref 72, .int (zI (p)), .int (zI (m)), .int (zI (b))] (I, L, ts_P0 sw, ts_S0) K := by
  have b2 := (hM.arm m hm.1 hm.2).2
  have b3 := hM.road.2
  have b4 := (hM.tone p hp.1 hp.2).2
  have b5 := (ha p hp.1 hp.2).2
  have wr := hW.1
  unfold g_ld g_raw at hK
  by_cases w1 : w.1 = 1
  · obtain ⟨n, txt, h1, h2, h3⟩ := hW.2.2 w1
    have b6 := h2.2
    have r := hO (nm (f_tone f p) (cn p) (f_road f) m (f_arm f m) (b % 4))
    rw [if_pos w1] at hK
    refine ev_enter (lv := [.ref 72, .int (zI (p)), .int (zI (m)), .int (zI (b)), .null]) l177 rfl (Nat.le_of_ble_eq_true rfl) ?_
    refine ew_bipush i177_0 (by decide) ?_
    refine ev_aloadn_0 i177_2 ?_
    refine ev_getA i177_3 g177_3 rfl rfl (by decide) ?_
    refine ew_bipush i177_6 (by decide) ?_
    refine ew_iaload i177_8 rfl (by omega) (by omega) (by omega) (by first | exact ha _ hp.1 hp.2 | exact h2 | exact hM.road | exact hM.tone _ hp.1 hp.2 | exact hM.men | exact hM.told | exact hM.road | exact hM.stand _ (by omega) (by omega) | exact hM.reach _ (by omega) (by omega) | exact hM.arm _ (by omega) (by omega) | exact hM.late _ (by omega) (by omega) | exact hM.len _ (by omega) (by omega) | exact hM.corn _ (by omega) (by omega) | exact hM.say (by omega) (by omega) _ (by omega) (by omega) | exact hM.tone _ (by omega) (by omega)) (fun b8 => ?_)
    refine ew_iconst i177_9 ?_
    refine ew_idiv i177_10 (by omega) (by omega) ?_
    refine ew_isub i177_11 ?_
    refine ev_aloadn_0 i177_12 ?_
    refine ev_getA i177_13 g177_13 rfl rfl (by decide) ?_
    refine ev_iloadn_1 i177_16 ?_
    refine ew_iaload i177_17 rfl (by omega) (by omega) (by omega) (by first | exact ha _ hp.1 hp.2 | exact h2 | exact hM.road | exact hM.tone _ hp.1 hp.2 | exact hM.men | exact hM.told | exact hM.road | exact hM.stand _ (by omega) (by omega) | exact hM.reach _ (by omega) (by omega) | exact hM.arm _ (by omega) (by omega) | exact hM.late _ (by omega) (by omega) | exact hM.len _ (by omega) (by omega) | exact hM.corn _ (by omega) (by omega) | exact hM.say (by omega) (by omega) _ (by omega) (by omega) | exact hM.tone _ (by omega) (by omega)) (fun b17 => ?_)
    refine ew_iconst i177_18 ?_
    refine ew_idiv i177_19 (by omega) (by omega) ?_
    refine ew_isub i177_20 ?_
    refine ev_istore_4 i177_21 rfl ?_
    refine ev_aloadn_0 i177_23 ?_
    refine ew_getI i177_24 g177_24 rfl (by first | exact ha _ hp.1 hp.2 | exact h2 | exact hM.road | exact hM.tone _ hp.1 hp.2 | exact hM.men | exact hM.told | exact hM.road | exact hM.stand _ (by omega) (by omega) | exact hM.reach _ (by omega) (by omega) | exact hM.arm _ (by omega) (by omega) | exact hM.late _ (by omega) (by omega) | exact hM.len _ (by omega) (by omega) | exact hM.corn _ (by omega) (by omega) | exact hM.say (by omega) (by omega) _ (by omega) (by omega) | exact hM.tone _ (by omega) (by omega)) (fun b24 => ?_)
    refine ew_iflt i177_27 (by omega) (fun c27 => ?_) (fun c27 => ?_)
    · exfalso; omega
    · refine ev_aloadn_0 i177_30 ?_
      refine ev_getA i177_31 g177_31 rfl rfl (by decide) ?_
      refine ew_iconst i177_34 ?_
      refine ev_aloadn_0 i177_35 ?_
      refine ev_getA i177_36 g177_36 rfl rfl (by decide) ?_
      refine ev_iloadn_1 i177_39 ?_
      refine ew_iaload i177_40 rfl (by omega) (by omega) (by omega) (by first | exact ha _ hp.1 hp.2 | exact h2 | exact hM.road | exact hM.tone _ hp.1 hp.2 | exact hM.men | exact hM.told | exact hM.road | exact hM.stand _ (by omega) (by omega) | exact hM.reach _ (by omega) (by omega) | exact hM.arm _ (by omega) (by omega) | exact hM.late _ (by omega) (by omega) | exact hM.len _ (by omega) (by omega) | exact hM.corn _ (by omega) (by omega) | exact hM.say (by omega) (by omega) _ (by omega) (by omega) | exact hM.tone _ (by omega) (by omega)) (fun b40 => ?_)
      refine ew_iastore i177_41 rfl (by omega) (by omega) (by omega) ?_
      refine ev_aloadn_0 i177_42 ?_
      refine ev_getA i177_43 g177_43 rfl rfl (by decide) ?_
      refine ew_iconst i177_46 ?_
      refine ev_aloadn_0 i177_47 ?_
      refine ev_getA i177_48 g177_48 rfl rfl (by decide) ?_
      refine ev_iloadn_1 i177_51 ?_
      refine ew_iaload i177_52 rfl (by omega) (by omega) (by omega) (by first | exact ha _ hp.1 hp.2 | exact h2 | exact hM.road | exact hM.tone _ hp.1 hp.2 | exact hM.men | exact hM.told | exact hM.road | exact hM.stand _ (by omega) (by omega) | exact hM.reach _ (by omega) (by omega) | exact hM.arm _ (by omega) (by omega) | exact hM.late _ (by omega) (by omega) | exact hM.len _ (by omega) (by omega) | exact hM.corn _ (by omega) (by omega) | exact hM.say (by omega) (by omega) _ (by omega) (by omega) | exact hM.tone _ (by omega) (by omega)) (fun b52 => ?_)
      refine ew_iastore i177_53 rfl (by omega) (by omega) (by omega) ?_
      refine ev_aloadn_0 i177_54 ?_
      refine ev_getA i177_55 g177_55 rfl rfl (by decide) ?_
      refine ew_iconst i177_58 ?_
      refine ev_aloadn_0 i177_59 ?_
      refine ev_getA i177_60 g177_60 rfl rfl (by decide) ?_
      refine ew_bipush i177_63 (by decide) ?_
      refine ew_iaload i177_65 rfl (by omega) (by omega) (by omega) (by first | exact ha _ hp.1 hp.2 | exact h2 | exact hM.road | exact hM.tone _ hp.1 hp.2 | exact hM.men | exact hM.told | exact hM.road | exact hM.stand _ (by omega) (by omega) | exact hM.reach _ (by omega) (by omega) | exact hM.arm _ (by omega) (by omega) | exact hM.late _ (by omega) (by omega) | exact hM.len _ (by omega) (by omega) | exact hM.corn _ (by omega) (by omega) | exact hM.say (by omega) (by omega) _ (by omega) (by omega) | exact hM.tone _ (by omega) (by omega)) (fun b65 => ?_)
      refine ew_iastore i177_66 rfl (by omega) (by omega) (by omega) ?_
      refine ev_aloadn_0 i177_67 ?_
      refine ev_getA i177_68 g177_68 rfl rfl (by decide) ?_
      refine ew_iconst i177_71 ?_
      refine ev_iloadn_2 i177_72 ?_
      refine ew_iastore i177_73 rfl (by omega) (by omega) (by omega) ?_
      refine ev_aloadn_0 i177_74 ?_
      refine ev_getA i177_75 g177_75 rfl rfl (by decide) ?_
      refine ew_iconst i177_78 ?_
      refine ev_aloadn_0 i177_79 ?_
      refine ev_getA i177_80 g177_80 rfl rfl (by decide) ?_
      refine ew_bipush i177_83 (by decide) ?_
      refine ev_iloadn_2 i177_85 ?_
      refine ew_iadd i177_86 ?_
      refine ew_iaload i177_87 rfl (by omega) (by omega) (by omega) (by first | exact ha _ hp.1 hp.2 | exact h2 | exact hM.road | exact hM.tone _ hp.1 hp.2 | exact hM.men | exact hM.told | exact hM.road | exact hM.stand _ (by omega) (by omega) | exact hM.reach _ (by omega) (by omega) | exact hM.arm _ (by omega) (by omega) | exact hM.late _ (by omega) (by omega) | exact hM.len _ (by omega) (by omega) | exact hM.corn _ (by omega) (by omega) | exact hM.say (by omega) (by omega) _ (by omega) (by omega) | exact hM.tone _ (by omega) (by omega)) (fun b87 => ?_)
      refine ew_iastore i177_88 rfl (by omega) (by omega) (by omega) ?_
      refine ev_aloadn_0 i177_89 ?_
      refine ev_getA i177_90 g177_90 rfl rfl (by decide) ?_
      refine ew_iconst i177_93 ?_
      refine ev_iloadn_3 i177_94 ?_
      refine ew_iconst i177_95 ?_
      refine ew_irem i177_96 (by omega) (by omega) ?_
      refine ew_iastore i177_97 rfl (by omega) (by omega) (by omega) ?_
      have hN : ar (ts_up (ts_up (ts_up (ts_up (ts_up (ts_up I 80 0 (zI (f_tone f p))) 80 1 (zI (cn p))) 80 2 (zI (f_road f))) 80 3 (zI m)) 80 4 (zI (f_arm f m))) 80 5 (zI (b % 4))) 80 6 0 20 (nm (f_tone f p) (cn p) (f_road f) m (f_arm f m) (b % 4)) := by
        intro i i0 i1
        rcases (show i = 0 ∨ i = 1 ∨ i = 2 ∨ i = 3 ∨ i = 4 ∨ i = 5 by omega) with rfl | rfl | rfl | rfl | rfl | rfl
        · exact rd_zI ⟨b4.1, by show f_tone f p ≤ 20; omega⟩
        · exact rd_zI ⟨b5.1, by show cn p ≤ 20; omega⟩
        · exact rd_zI ⟨b3.1, by show f_road f ≤ 20; omega⟩
        · exact rd_zI ⟨hm.1, by show m ≤ 20; omega⟩
        · exact rd_zI ⟨b2.1, by show f_arm f m ≤ 20; omega⟩
        · exact rd_zI ⟨by show 0 ≤ b % 4; omega, by show b % 4 ≤ 20; omega⟩
      refine ev_aloadn_0 i177_98 ?_
      refine ew_iconst i177_99 ?_
      refine ev_aloadn_0 i177_100 ?_
      refine ew_getI i177_101 g177_101 rfl (by first | exact h2 | exact hM.men | exact hM.told | exact hM.road | exact hM.stand _ (by omega) (by omega) | exact hM.reach _ (by omega) (by omega) | exact hM.arm _ (by omega) (by omega) | exact hM.late _ (by omega) (by omega) | exact hM.len _ (by omega) (by omega) | exact hM.corn _ (by omega) (by omega) | exact hM.say (by omega) (by omega) _ (by omega) (by omega) | exact hM.tone _ (by omega) (by omega)) (fun b101 => ?_)
      refine ev_virt2 i177_104 g177_104 rfl (by decide +kernel) (Nat.le_of_ble_eq_true rfl) (h1 X _ L sw _ _ _ h3 hN (fun J hJ => ?_))
      refine ev_istore_4 i177_107 rfl ?_
      refine ev_iload_4 i177_109 ?_
      refine ew_ifge i177_111 (by omega) (fun c111 => ?_) (fun c111 => ?_)
      · refine ev_iload_4 i177_118 ?_
        refine ew_bipush i177_120 (by decide) ?_
        refine ew_icmple i177_122 (by omega) (fun c122 => ?_) (fun c122 => ?_)
        · refine ev_iload_4 i177_130 ?_
          refine ev_ireturn i177_132 r177 ?_
          exact zK (hK J (fr_tr (fr_up (fr_up (fr_up (fr_up (fr_up (fr_up (fr_rfl _ _) (by omega)) (by omega)) (by omega)) (by omega)) (by omega)) (by omega)) (fr_mo hJ (fun a k q => by omega)))) (by omega)
        · refine ew_bipush i177_125 (by decide) ?_
          refine ev_goto i177_127 ?_
          refine ev_ireturn i177_132 r177 ?_
          exact zK (hK J (fr_tr (fr_up (fr_up (fr_up (fr_up (fr_up (fr_up (fr_rfl _ _) (by omega)) (by omega)) (by omega)) (by omega)) (by omega)) (by omega)) (fr_mo hJ (fun a k q => by omega)))) (by omega)
      · refine ew_iconst i177_114 ?_
        refine ev_goto i177_115 ?_
        refine ev_ireturn i177_132 r177 ?_
        exact zK (hK J (fr_tr (fr_up (fr_up (fr_up (fr_up (fr_up (fr_up (fr_rfl _ _) (by omega)) (by omega)) (by omega)) (by omega)) (by omega)) (by omega)) (fr_mo hJ (fun a k q => by omega)))) (by omega)
  · rw [if_neg w1] at hK
    have h2 := hW.2.1 (by omega)
    have b6 := h2.2
    refine ev_enter (lv := [.ref 72, .int (zI (p)), .int (zI (m)), .int (zI (b)), .null]) l177 rfl (Nat.le_of_ble_eq_true rfl) ?_
    refine ew_bipush i177_0 (by decide) ?_
    refine ev_aloadn_0 i177_2 ?_
    refine ev_getA i177_3 g177_3 rfl rfl (by decide) ?_
    refine ew_bipush i177_6 (by decide) ?_
    refine ew_iaload i177_8 rfl (by omega) (by omega) (by omega) (by first | exact ha _ hp.1 hp.2 | exact h2 | exact hM.road | exact hM.men | exact hM.told | exact hM.road | exact hM.stand _ (by omega) (by omega) | exact hM.reach _ (by omega) (by omega) | exact hM.arm _ (by omega) (by omega) | exact hM.late _ (by omega) (by omega) | exact hM.len _ (by omega) (by omega) | exact hM.corn _ (by omega) (by omega) | exact hM.say (by omega) (by omega) _ (by omega) (by omega) | exact hM.tone _ (by omega) (by omega)) (fun b8 => ?_)
    refine ew_iconst i177_9 ?_
    refine ew_idiv i177_10 (by omega) (by omega) ?_
    refine ew_isub i177_11 ?_
    refine ev_aloadn_0 i177_12 ?_
    refine ev_getA i177_13 g177_13 rfl rfl (by decide) ?_
    refine ev_iloadn_1 i177_16 ?_
    refine ew_iaload i177_17 rfl (by omega) (by omega) (by omega) (by first | exact ha _ hp.1 hp.2 | exact h2 | exact hM.road | exact hM.men | exact hM.told | exact hM.road | exact hM.stand _ (by omega) (by omega) | exact hM.reach _ (by omega) (by omega) | exact hM.arm _ (by omega) (by omega) | exact hM.late _ (by omega) (by omega) | exact hM.len _ (by omega) (by omega) | exact hM.corn _ (by omega) (by omega) | exact hM.say (by omega) (by omega) _ (by omega) (by omega) | exact hM.tone _ (by omega) (by omega)) (fun b17 => ?_)
    refine ew_iconst i177_18 ?_
    refine ew_idiv i177_19 (by omega) (by omega) ?_
    refine ew_isub i177_20 ?_
    refine ev_istore_4 i177_21 rfl ?_
    refine ev_aloadn_0 i177_23 ?_
    refine ew_getI i177_24 g177_24 rfl (by first | exact ha _ hp.1 hp.2 | exact h2 | exact hM.road | exact hM.men | exact hM.told | exact hM.road | exact hM.stand _ (by omega) (by omega) | exact hM.reach _ (by omega) (by omega) | exact hM.arm _ (by omega) (by omega) | exact hM.late _ (by omega) (by omega) | exact hM.len _ (by omega) (by omega) | exact hM.corn _ (by omega) (by omega) | exact hM.say (by omega) (by omega) _ (by omega) (by omega) | exact hM.tone _ (by omega) (by omega)) (fun b24 => ?_)
    refine ew_iflt i177_27 (by omega) (fun c27 => ?_) (fun c27 => ?_)
    · refine ev_iload_4 i177_109 ?_
      refine ew_ifge i177_111 (by omega) (fun c111 => ?_) (fun c111 => ?_)
      · refine ev_iload_4 i177_118 ?_
        refine ew_bipush i177_120 (by decide) ?_
        refine ew_icmple i177_122 (by omega) (fun c122 => ?_) (fun c122 => ?_)
        · refine ev_iload_4 i177_130 ?_
          refine ev_ireturn i177_132 r177 ?_
          exact zK (hK I (fr_rfl _ _)) (by omega)
        · refine ew_bipush i177_125 (by decide) ?_
          refine ev_goto i177_127 ?_
          refine ev_ireturn i177_132 r177 ?_
          exact zK (hK I (fr_rfl _ _)) (by omega)
      · refine ew_iconst i177_114 ?_
        refine ev_goto i177_115 ?_
        refine ev_ireturn i177_132 r177 ?_
        exact zK (hK I (fr_rfl _ _)) (by omega)
    · exfalso; omega
end LO
