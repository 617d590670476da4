theorem i89_0 : ts_ins 89 0 = some (.iconst 0, 1, 0) := by decide +kernel
theorem i89_1 : ts_ins 89 1 = some (.istore_n 1, 2, 0) := by decide +kernel
theorem i89_2 : ts_ins 89 2 = some (.iload_n 1, 3, 0) := by decide +kernel
theorem i89_3 : ts_ins 89 3 = some (.bipush 16, 5, 0) := by decide +kernel
theorem i89_5 : ts_ins 89 5 = some (.if_icmp .ge 63, 8, 68) := by decide +kernel
theorem i89_8 : ts_ins 89 8 = some (.aload_n 0, 9, 0) := by decide +kernel
theorem i89_9 : ts_ins 89 9 = some (.getfield 9, 12, 0) := by decide +kernel
theorem g89_9 : ts_fm 89 9 = some (10, 1, 2) := by decide +kernel
theorem i89_12 : ts_ins 89 12 = some (.iload_n 1, 13, 0) := by decide +kernel
theorem i89_13 : ts_ins 89 13 = some (.iconst 0, 14, 0) := by decide +kernel
theorem i89_14 : ts_ins 89 14 = some (.iastore, 15, 0) := by decide +kernel
theorem i89_15 : ts_ins 89 15 = some (.iconst 0, 16, 0) := by decide +kernel
theorem i89_16 : ts_ins 89 16 = some (.istore_n 2, 17, 0) := by decide +kernel
theorem i89_17 : ts_ins 89 17 = some (.iload_n 2, 18, 0) := by decide +kernel
theorem i89_18 : ts_ins 89 18 = some (.aload_n 0, 19, 0) := by decide +kernel
theorem i89_19 : ts_ins 89 19 = some (.getfield 22, 22, 0) := by decide +kernel
theorem g89_19 : ts_fm 89 22 = some (10, 0, 2) := by decide +kernel
theorem i89_22 : ts_ins 89 22 = some (.getfield 31, 25, 0) := by decide +kernel
theorem g89_22 : ts_fm 89 31 = some (3, 8, 0) := by decide +kernel
theorem i89_25 : ts_ins 89 25 = some (.if_icmp .ge 37, 28, 62) := by decide +kernel
theorem i89_28 : ts_ins 89 28 = some (.aload_n 0, 29, 0) := by decide +kernel
theorem i89_29 : ts_ins 89 29 = some (.getfield 9, 32, 0) := by decide +kernel
theorem g89_29 : ts_fm 89 9 = some (10, 1, 2) := by decide +kernel
theorem i89_32 : ts_ins 89 32 = some (.iload_n 1, 33, 0) := by decide +kernel
theorem i89_33 : ts_ins 89 33 = some (.dup2, 34, 0) := by decide +kernel
theorem i89_34 : ts_ins 89 34 = some (.iaload, 35, 0) := by decide +kernel
theorem i89_35 : ts_ins 89 35 = some (.aload_n 0, 36, 0) := by decide +kernel
theorem i89_36 : ts_ins 89 36 = some (.getfield 22, 39, 0) := by decide +kernel
theorem g89_36 : ts_fm 89 22 = some (10, 0, 2) := by decide +kernel
theorem i89_39 : ts_ins 89 39 = some (.iload_n 2, 40, 0) := by decide +kernel
theorem i89_40 : ts_ins 89 40 = some (.iload_n 1, 41, 0) := by decide +kernel
theorem i89_41 : ts_ins 89 41 = some (.invokevirtual 53, 44, 0) := by decide +kernel
theorem g89_41 : ts_cal (ts_mc 89) 53 = some (0, 26, 2) := by decide +kernel
theorem i89_44 : ts_ins 89 44 = some (.ifCond .eq 9, 47, 53) := by decide +kernel
theorem i89_47 : ts_ins 89 47 = some (.iconst 1, 48, 0) := by decide +kernel
theorem i89_48 : ts_ins 89 48 = some (.iload_n 2, 49, 0) := by decide +kernel
theorem i89_49 : ts_ins 89 49 = some (.ishl, 50, 0) := by decide +kernel
theorem i89_50 : ts_ins 89 50 = some (.goto 4, 53, 54) := by decide +kernel
theorem i89_53 : ts_ins 89 53 = some (.iconst 0, 54, 0) := by decide +kernel
theorem i89_54 : ts_ins 89 54 = some (.ior, 55, 0) := by decide +kernel
theorem i89_55 : ts_ins 89 55 = some (.iastore, 56, 0) := by decide +kernel
theorem i89_56 : ts_ins 89 56 = some (.iinc 2 1, 59, 0) := by decide +kernel
theorem i89_59 : ts_ins 89 59 = some (.goto (-42), 62, 17) := by decide +kernel
theorem i89_62 : ts_ins 89 62 = some (.iinc 1 1, 65, 0) := by decide +kernel
theorem i89_65 : ts_ins 89 65 = some (.goto (-63), 68, 2) := by decide +kernel
theorem i89_68 : ts_ins 89 68 = some (.return_, 69, 0) := by decide +kernel
theorem r89 : ts_rt 89 = (none, 0, 0) := by decide +kernel
theorem l89 : ts_ml 89 = 3 := by decide +kernel
theorem i88_0 : ts_ins 88 0 = some (.iconst 0, 1, 0) := by decide +kernel
theorem i88_1 : ts_ins 88 1 = some (.istore_n 2, 2, 0) := by decide +kernel
theorem i88_2 : ts_ins 88 2 = some (.iconst 0, 3, 0) := by decide +kernel
theorem i88_3 : ts_ins 88 3 = some (.istore_n 3, 4, 0) := by decide +kernel
theorem i88_4 : ts_ins 88 4 = some (.iload_n 3, 5, 0) := by decide +kernel
theorem i88_5 : ts_ins 88 5 = some (.bipush 16, 7, 0) := by decide +kernel
theorem i88_7 : ts_ins 88 7 = some (.if_icmp .ge 34, 10, 41) := by decide +kernel
theorem i88_10 : ts_ins 88 10 = some (.aload_n 0, 11, 0) := by decide +kernel
theorem i88_11 : ts_ins 88 11 = some (.getfield 9, 14, 0) := by decide +kernel
theorem g88_11 : ts_fm 88 9 = some (10, 1, 2) := by decide +kernel
theorem i88_14 : ts_ins 88 14 = some (.iload_n 3, 15, 0) := by decide +kernel
theorem i88_15 : ts_ins 88 15 = some (.iaload, 16, 0) := by decide +kernel
theorem i88_16 : ts_ins 88 16 = some (.iload_n 1, 17, 0) := by decide +kernel
theorem i88_17 : ts_ins 88 17 = some (.iconst (-1), 18, 0) := by decide +kernel
theorem i88_18 : ts_ins 88 18 = some (.ixor, 19, 0) := by decide +kernel
theorem i88_19 : ts_ins 88 19 = some (.iand, 20, 0) := by decide +kernel
theorem i88_20 : ts_ins 88 20 = some (.ifCond .ne 15, 23, 35) := by decide +kernel
theorem i88_23 : ts_ins 88 23 = some (.iload_n 2, 24, 0) := by decide +kernel
theorem i88_24 : ts_ins 88 24 = some (.aload_n 0, 25, 0) := by decide +kernel
theorem i88_25 : ts_ins 88 25 = some (.getfield 22, 28, 0) := by decide +kernel
theorem g88_25 : ts_fm 88 22 = some (10, 0, 2) := by decide +kernel
theorem i88_28 : ts_ins 88 28 = some (.getfield 50, 31, 0) := by decide +kernel
theorem g88_28 : ts_fm 88 50 = some (3, 1, 2) := by decide +kernel
theorem i88_31 : ts_ins 88 31 = some (.iload_n 3, 32, 0) := by decide +kernel
theorem i88_32 : ts_ins 88 32 = some (.iaload, 33, 0) := by decide +kernel
theorem i88_33 : ts_ins 88 33 = some (.iadd, 34, 0) := by decide +kernel
theorem i88_34 : ts_ins 88 34 = some (.istore_n 2, 35, 0) := by decide +kernel
theorem i88_35 : ts_ins 88 35 = some (.iinc 3 1, 38, 0) := by decide +kernel
theorem i88_38 : ts_ins 88 38 = some (.goto (-34), 41, 4) := by decide +kernel
theorem i88_41 : ts_ins 88 41 = some (.iload_n 2, 42, 0) := by decide +kernel
theorem i88_42 : ts_ins 88 42 = some (.ireturn, 43, 0) := by decide +kernel
theorem r88 : ts_rt 88 = ((some .int), 0, 0) := by decide +kernel
theorem l88 : ts_ml 88 = 4 := by decide +kernel
theorem i90_0 : ts_ins 90 0 = some (.iload_n 2, 1, 0) := by decide +kernel
theorem i90_1 : ts_ins 90 1 = some (.istore_n 3, 2, 0) := by decide +kernel
theorem i90_2 : ts_ins 90 2 = some (.iconst 0, 3, 0) := by decide +kernel
theorem i90_3 : ts_ins 90 3 = some (.istore 4, 5, 0) := by decide +kernel
theorem i90_5 : ts_ins 90 5 = some (.iload_n 3, 6, 0) := by decide +kernel
theorem i90_6 : ts_ins 90 6 = some (.ifCond .le 53, 9, 59) := by decide +kernel
theorem i90_9 : ts_ins 90 9 = some (.iload 4, 11, 0) := by decide +kernel
theorem i90_11 : ts_ins 90 11 = some (.sipush 1000, 14, 0) := by decide +kernel
theorem i90_14 : ts_ins 90 14 = some (.if_icmp .ge 45, 17, 59) := by decide +kernel
theorem i90_17 : ts_ins 90 17 = some (.aload_n 0, 18, 0) := by decide +kernel
theorem i90_18 : ts_ins 90 18 = some (.getfield 22, 21, 0) := by decide +kernel
theorem g90_18 : ts_fm 90 22 = some (10, 0, 2) := by decide +kernel
theorem i90_21 : ts_ins 90 21 = some (.iload 4, 23, 0) := by decide +kernel
theorem i90_23 : ts_ins 90 23 = some (.invokevirtual 57, 26, 0) := by decide +kernel
theorem g90_23 : ts_cal (ts_mc 90) 57 = some (0, 25, 1) := by decide +kernel
theorem i90_26 : ts_ins 90 26 = some (.istore 5, 28, 0) := by decide +kernel
theorem i90_28 : ts_ins 90 28 = some (.iload_n 3, 29, 0) := by decide +kernel
theorem i90_29 : ts_ins 90 29 = some (.iload 5, 31, 0) := by decide +kernel
theorem i90_31 : ts_ins 90 31 = some (.bipush (-2), 33, 0) := by decide +kernel
theorem i90_33 : ts_ins 90 33 = some (.if_icmp .eq 17, 36, 50) := by decide +kernel
theorem i90_36 : ts_ins 90 36 = some (.iload_n 1, 37, 0) := by decide +kernel
theorem i90_37 : ts_ins 90 37 = some (.iload 5, 39, 0) := by decide +kernel
theorem i90_39 : ts_ins 90 39 = some (.ishr, 40, 0) := by decide +kernel
theorem i90_40 : ts_ins 90 40 = some (.iconst 1, 41, 0) := by decide +kernel
theorem i90_41 : ts_ins 90 41 = some (.iand, 42, 0) := by decide +kernel
theorem i90_42 : ts_ins 90 42 = some (.iconst 1, 43, 0) := by decide +kernel
theorem i90_43 : ts_ins 90 43 = some (.if_icmp .ne 7, 46, 50) := by decide +kernel
theorem i90_46 : ts_ins 90 46 = some (.iconst 1, 47, 0) := by decide +kernel
theorem i90_47 : ts_ins 90 47 = some (.goto 4, 50, 51) := by decide +kernel
theorem i90_50 : ts_ins 90 50 = some (.iconst 0, 51, 0) := by decide +kernel
theorem i90_51 : ts_ins 90 51 = some (.isub, 52, 0) := by decide +kernel
theorem i90_52 : ts_ins 90 52 = some (.istore_n 3, 53, 0) := by decide +kernel
theorem i90_53 : ts_ins 90 53 = some (.iinc 4 1, 56, 0) := by decide +kernel
theorem i90_56 : ts_ins 90 56 = some (.goto (-51), 59, 5) := by decide +kernel
theorem i90_59 : ts_ins 90 59 = some (.iload 4, 61, 0) := by decide +kernel
theorem i90_61 : ts_ins 90 61 = some (.ireturn, 62, 0) := by decide +kernel
theorem r90 : ts_rt 90 = ((some .int), 0, 0) := by decide +kernel
theorem l90 : ts_ml 90 = 6 := by decide +kernel
theorem i87_0 : ts_ins 87 0 = some (.aload_n 0, 1, 0) := by decide +kernel
theorem i87_1 : ts_ins 87 1 = some (.invokevirtual 34, 4, 0) := by decide +kernel
theorem g87_1 : ts_cal (ts_mc 87) 34 = some (0, 89, 0) := by decide +kernel
theorem i87_4 : ts_ins 87 4 = some (.aload_n 0, 5, 0) := by decide +kernel
theorem i87_5 : ts_ins 87 5 = some (.iconst 0, 6, 0) := by decide +kernel
theorem i87_6 : ts_ins 87 6 = some (.invokevirtual 37, 9, 0) := by decide +kernel
theorem g87_6 : ts_cal (ts_mc 87) 37 = some (0, 88, 1) := by decide +kernel
theorem i87_9 : ts_ins 87 9 = some (.ifCond .le 6, 12, 15) := by decide +kernel
theorem i87_12 : ts_ins 87 12 = some (.bipush (-2), 14, 0) := by decide +kernel
theorem i87_14 : ts_ins 87 14 = some (.ireturn, 15, 0) := by decide +kernel
theorem i87_15 : ts_ins 87 15 = some (.iconst 0, 16, 0) := by decide +kernel
theorem i87_16 : ts_ins 87 16 = some (.istore_n 1, 17, 0) := by decide +kernel
theorem i87_17 : ts_ins 87 17 = some (.iconst 1, 18, 0) := by decide +kernel
theorem i87_18 : ts_ins 87 18 = some (.istore_n 2, 19, 0) := by decide +kernel
theorem i87_19 : ts_ins 87 19 = some (.iload_n 2, 20, 0) := by decide +kernel
theorem i87_20 : ts_ins 87 20 = some (.iconst 1, 21, 0) := by decide +kernel
theorem i87_21 : ts_ins 87 21 = some (.aload_n 0, 22, 0) := by decide +kernel
theorem i87_22 : ts_ins 87 22 = some (.getfield 22, 25, 0) := by decide +kernel
theorem g87_22 : ts_fm 87 22 = some (10, 0, 2) := by decide +kernel
theorem i87_25 : ts_ins 87 25 = some (.getfield 31, 28, 0) := by decide +kernel
theorem g87_25 : ts_fm 87 31 = some (3, 8, 0) := by decide +kernel
theorem i87_28 : ts_ins 87 28 = some (.ishl, 29, 0) := by decide +kernel
theorem i87_29 : ts_ins 87 29 = some (.if_icmp .ge 24, 32, 53) := by decide +kernel
theorem i87_32 : ts_ins 87 32 = some (.iload_n 1, 33, 0) := by decide +kernel
theorem i87_33 : ts_ins 87 33 = some (.aload_n 0, 34, 0) := by decide +kernel
theorem i87_34 : ts_ins 87 34 = some (.iload_n 2, 35, 0) := by decide +kernel
theorem i87_35 : ts_ins 87 35 = some (.aload_n 0, 36, 0) := by decide +kernel
theorem i87_36 : ts_ins 87 36 = some (.iload_n 2, 37, 0) := by decide +kernel
theorem i87_37 : ts_ins 87 37 = some (.invokevirtual 37, 40, 0) := by decide +kernel
theorem g87_37 : ts_cal (ts_mc 87) 37 = some (0, 88, 1) := by decide +kernel
theorem i87_40 : ts_ins 87 40 = some (.invokevirtual 41, 43, 0) := by decide +kernel
theorem g87_40 : ts_cal (ts_mc 87) 41 = some (0, 90, 2) := by decide +kernel
theorem i87_43 : ts_ins 87 43 = some (.invokestatic 45, 46, 0) := by decide +kernel
theorem g87_43 : ts_cal (ts_mc 87) 45 = some (5, 0, 2) := by decide +kernel
theorem i87_46 : ts_ins 87 46 = some (.istore_n 1, 47, 0) := by decide +kernel
theorem i87_47 : ts_ins 87 47 = some (.iinc 2 1, 50, 0) := by decide +kernel
theorem i87_50 : ts_ins 87 50 = some (.goto (-31), 53, 19) := by decide +kernel
theorem i87_53 : ts_ins 87 53 = some (.iload_n 1, 54, 0) := by decide +kernel
theorem i87_54 : ts_ins 87 54 = some (.ireturn, 55, 0) := by decide +kernel
theorem r87 : ts_rt 87 = ((some .int), 0, 0) := by decide +kernel
theorem l87 : ts_ml 87 = 3 := by decide +kernel
theorem i107_0 : ts_ins 107 0 = some (.aload_n 0, 1, 0) := by decide +kernel
theorem i107_1 : ts_ins 107 1 = some (.getfield 49, 4, 0) := by decide +kernel
theorem g107_1 : ts_fm 107 49 = some (11, 5, 2) := by decide +kernel
theorem i107_4 : ts_ins 107 4 = some (.invokevirtual 214, 7, 0) := by decide +kernel
theorem g107_4 : ts_cal (ts_mc 107) 214 = some (0, 87, 0) := by decide +kernel
theorem i107_7 : ts_ins 107 7 = some (.ireturn, 8, 0) := by decide +kernel
theorem r107 : ts_rt 107 = ((some .int), 0, 0) := by decide +kernel
theorem l107 : ts_ml 107 = 1 := by decide +kernel
/-! THRESH -/
abbrev ftu : Nat → Nat → Prop := fun a k => (a = 42 ∧ (k = 2 ∨ k = 3)) ∨ a = 43
abbrev fcm : Nat → Nat → Prop := fun a _ => a = 81
/-- man m is in group g -/
abbrev bt (g m : Int) : Prop := zand (zshr g m) 1 = 1
theorem bt_r (g m : Int) : zand (zshr g m) 1 = 0 ∨ zand (zshr g m) 1 = 1 := by
  unfold zand
  obtain ⟨j, hj, e⟩ := pk_andE (zI (zshr g m)) (m := zI 1) 1 (by decide)
  rw [e]
  rcases (show j = 0 ∨ j = 1 by omega) with rfl | rfl
  · exact Or.inl rfl
  · exact Or.inr rfl
/-- nobody else reaches p -/
abbrev g_al (f : ts_Fl) (g p : Int) : Prop := zall (fun m => ¬ (¬ bt g m ∧ f_can f m p)) (f_men f).toNat = true
def g_alone (f : ts_Fl) (g : Int) : Int := zsum (fun p => if g_al f g p then f_corn f p else 0) 16
def g_st (f : ts_Fl) (g b : Int) : Int := if 0 < f_men f ∧ bt g (b % f_men f) then 1 else 0
def g_S (f : ts_Fl) (g n : Int) : Int := zsum (g_st f g) n.toNat
/-- the first beat with which group g has c strokes -/
def g_B (f : ts_Fl) (g c : Int) : Int := zfd 1000 (fun n => c ≤ g_S f g n) 1000 0
def g_thX (f : ts_Fl) : Int := if 0 < g_alone f 0 then -2 else zwh (zshl 1 (f_men f)) (fun g m => if m < g_B f g (g_alone f g) then g_B f g (g_alone f g) else m) 1 0
def g_en (f : ts_Fl) (n : Int) : Prop := zall (fun g => g_alone f g ≤ g_S f g n) (zshl 1 (f_men f)).toNat = true
def g_thM (f : ts_Fl) : Int := zfd (4 * (zsum (f_corn f) 16 + 1) + 1) (fun n => zall (fun g => g_alone f g ≤ g_S f g n) (zshl 1 (f_men f)).toNat = true) (-2) 0
theorem zshl_men {m : Int} (h : 0 ≤ m ∧ m ≤ 4) : 1 ≤ zshl 1 m ∧ zshl 1 m ≤ 16 := by
  rcases (show m = 0 ∨ m = 1 ∨ m = 2 ∨ m = 3 ∨ m = 4 by omega) with rfl | rfl | rfl | rfl | rfl <;> decide +kernel
theorem g_S_s {f : ts_Fl} {g n : Int} (h : 0 ≤ n) : g_S f g (n + 1) = g_S f g n + g_st f g n := zsum_s h
theorem g_st_r (f : ts_Fl) (g b : Int) : 0 ≤ g_st f g b ∧ g_st f g b ≤ 1 := by unfold g_st; split <;> omega
theorem g_S_mono {f : ts_Fl} {g a : Int} (h0 : 0 ≤ a) : ∀ k : Nat, g_S f g a ≤ g_S f g (a + k) := by
  intro k
  induction k with
  | zero => exact Int.le_of_eq (by rw [show a + ((0 : Nat) : Int) = a from by omega])
  | succ k ih =>
    have e := g_S_s (f := f) (g := g) (n := a + k) (by omega)
    have r := g_st_r f g (a + k)
    rw [show a + ((k + 1 : Nat) : Int) = a + k + 1 from by omega]
    omega
theorem g_S_mono2 {f : ts_Fl} {g a b : Int} (h0 : 0 ≤ a) (h : a ≤ b) : g_S f g a ≤ g_S f g b := by
  have e := g_S_mono (f := f) (g := g) h0 (b - a).toNat
  rw [show a + ((b - a).toNat : Int) = b from by omega] at e
  exact e
theorem g_S_r {f : ts_Fl} {g : Int} : ∀ n : Nat, 0 ≤ g_S f g n ∧ g_S f g n ≤ n := by
  intro n
  induction n with
  | zero => exact ⟨Int.le_refl _, Int.le_refl _⟩
  | succ n ih =>
    have e := g_S_s (f := f) (g := g) (n := (n : Int)) (by omega)
    have r := g_st_r f g n
    rw [show ((n + 1 : Nat) : Int) = (n : Int) + 1 from rfl]
    omega
theorem zshr0 : ∀ m : Int, 0 ≤ m → m < 4 → zand (zshr 0 m) 1 = 0 := by
  intro m h0 h1
  rcases (show m = 0 ∨ m = 1 ∨ m = 2 ∨ m = 3 by omega) with rfl | rfl | rfl | rfl <;> decide +kernel
/-- somebody is in a group -/
theorem bt_ex {M g : Int} (hM : 0 ≤ M ∧ M ≤ 4) (h0 : 1 ≤ g) (h1 : g < zshl 1 M) : ∃ m, 0 ≤ m ∧ m < M ∧ bt g m := by
  have hm := zshl_men hM
  have key : ∀ M' : Nat, M' ≤ 4 → ∀ g' : Nat, g' < 16 → 1 ≤ g' → (g' : Int) < zshl 1 M' → ∃ m, m < M' ∧ zand (zshr g' m) 1 = 1 := by decide +kernel
  obtain ⟨m, a, b⟩ := key M.toNat (by omega) g.toNat (by omega) (by omega) (by rw [show ((g.toNat : Nat) : Int) = g from by omega, show ((M.toNat : Nat) : Int) = M from by omega]; exact h1)
  refine ⟨m, by omega, by omega, ?_⟩
  rw [show ((g.toNat : Nat) : Int) = g from by omega] at b
  exact b
theorem g_S_k {f : ts_Fl} {g m : Int} (hm : 0 ≤ m ∧ m < f_men f) (hb : bt g m) : ∀ k : Nat, (k : Int) ≤ g_S f g (f_men f * k) := by
  intro k
  induction k with
  | zero => rw [show f_men f * ((0 : Nat) : Int) = 0 from by simp]; exact Int.le_refl _
  | succ k ih =>
    have hk : 0 ≤ f_men f * (k : Int) := Int.mul_nonneg (by omega) (by omega)
    have e1 := g_S_mono2 (f := f) (g := g) (a := f_men f * k) (b := f_men f * k + m) hk (by omega)
    have e2 := g_S_s (f := f) (g := g) (n := f_men f * k + m) (by omega)
    have e3 : g_st f g (f_men f * k + m) = 1 := by
      unfold g_st
      rw [show (f_men f * (k : Int) + m) % f_men f = m from by rw [Int.add_comm, Int.add_mul_emod_self_left]; exact Int.emod_eq_of_lt hm.1 hm.2]
      exact if_pos ⟨by omega, hb⟩
    have e4 := g_S_mono2 (f := f) (g := g) (a := f_men f * k + m + 1) (b := f_men f * ((k + 1 : Nat) : Int)) (by omega) (by rw [show ((k + 1 : Nat) : Int) = (k : Int) + 1 from rfl, Int.mul_add, Int.mul_one]; omega)
    rw [show ((k + 1 : Nat) : Int) = (k : Int) + 1 from rfl] at e4 ⊢
    omega
theorem zsum_le {g h : Int → Int} : ∀ n : Nat, (∀ k : Int, 0 ≤ k → k < n → g k ≤ h k) → zsum g n ≤ zsum h n := by
  intro n
  induction n with
  | zero => intro _; exact Int.le_refl _
  | succ n ih =>
    intro q
    have e := ih (fun k k0 k1 => q k k0 (by omega))
    have e2 := q n (by omega) (by omega)
    show zsum g n + g n ≤ zsum h n + h n
    omega
theorem zfd_le {n e : Int} {g : Int → Prop} [DecidablePred g] : ∀ i : Int, ∀ j, i ≤ j → j < n → g j → zfd n g e i ≤ j := by
  refine ts_ind n (fun i ih j h0 h1 h2 => ?_)
  rw [zfd_1 (by omega)]
  by_cases c : g i
  · rw [if_pos c]; exact h0
  · rw [if_neg c]
    have : ¬ i = j := fun q => c (q ▸ h2)
    exact ih (by omega) j (by omega) h1 h2
theorem zfd_is {n e : Int} {g : Int → Prop} [DecidablePred g] : ∀ i : Int, zfd n g e i = e ∨ (i ≤ zfd n g e i ∧ zfd n g e i < n ∧ g (zfd n g e i)) := by
  refine ts_ind n (fun i ih => ?_)
  by_cases c0 : i < n
  · rw [zfd_1 c0]
    by_cases c : g i
    · rw [if_pos c]; exact Or.inr ⟨Int.le_refl _, c0, c⟩
    · rw [if_neg c]
      exact (ih c0).elim Or.inl (fun q => Or.inr ⟨by omega, q.2⟩)
  · rw [zfd_0 c0]; exact Or.inl rfl
theorem zfd_no {n e : Int} {g : Int → Prop} [DecidablePred g] : ∀ i : Int, (∀ j, i ≤ j → j < n → ¬ g j) → zfd n g e i = e := by
  refine ts_ind n (fun i ih h => ?_)
  by_cases c0 : i < n
  · rw [zfd_1 c0, if_neg (h i (Int.le_refl _) c0)]
    exact ih c0 (fun j j0 j1 => h j (by omega) j1)
  · exact zfd_0 c0
theorem zfd_ex {n e : Int} {g : Int → Prop} [DecidablePred g] : ∀ i : Int, ∀ j, i ≤ j → j < n → g j → i ≤ zfd n g e i ∧ zfd n g e i < n ∧ g (zfd n g e i) := by
  refine ts_ind n (fun i ih j h0 h1 h2 => ?_)
  rw [zfd_1 (by omega)]
  by_cases c : g i
  · rw [if_pos c]; exact ⟨Int.le_refl _, by omega, c⟩
  · rw [if_neg c]
    have : ¬ i = j := fun q => c (q ▸ h2)
    have q := ih (by omega) j (by omega) h1 h2
    exact ⟨by omega, q.2⟩
theorem zmx {n : Int} {h : Int → Int} : ∀ i m : Int, m ≤ zwh n (fun g m => if m < h g then h g else m) i m ∧ (∀ g, i ≤ g → g < n → h g ≤ zwh n (fun g m => if m < h g then h g else m) i m) ∧ (zwh n (fun g m => if m < h g then h g else m) i m = m ∨ ∃ g, i ≤ g ∧ g < n ∧ zwh n (fun g m => if m < h g then h g else m) i m = h g) := by
  refine ts_ind n (fun i ih m => ?_)
  by_cases c : i < n
  · rw [zwh_1 c]
    obtain ⟨a, b, e⟩ := ih c (if m < h i then h i else m)
    refine ⟨by omega, fun g g0 g1 => ?_, ?_⟩
    · by_cases q : g = i
      · subst q; omega
      · exact b g (by omega) g1
    · rcases e with e | ⟨g, g0, g1, e⟩
      · by_cases q : m < h i
        · rw [if_pos q] at e ⊢; exact Or.inr ⟨i, Int.le_refl _, c, e⟩
        · rw [if_neg q] at e ⊢; exact Or.inl e
      · exact Or.inr ⟨g, by omega, g1, e⟩
  · rw [zwh_0 c]
    exact ⟨Int.le_refl _, fun g g0 g1 => by omega, Or.inl rfl⟩
theorem g_alone_r {f : ts_Fl} (hc : ∀ p, 0 ≤ p → p < 16 → 0 ≤ f_corn f p ∧ f_corn f p ≤ 9) (g : Int) : 0 ≤ g_alone f g ∧ g_alone f g ≤ zsum (f_corn f) 16 ∧ zsum (f_corn f) 16 ≤ 144 := by
  refine ⟨?_, ?_, ?_⟩
  · have := (zsum_b (g := fun p => if g_al f g p then f_corn f p else 0) (lo := 0) (hi := 9) (N := 16) (fun p p0 p1 => by have := hc p p0 p1; split <;> omega) 16 (by decide)).1
    unfold g_alone
    omega
  · exact zsum_le 16 (fun p p0 p1 => by have := hc p p0 (by omega); split <;> omega)
  · have := (zsum_b (g := f_corn f) (lo := 0) (hi := 9) (N := 16) hc 16 (by decide)).2
    omega
/-- both answers are one -/
theorem g_th {f : ts_Fl} (hm : 0 ≤ f_men f ∧ f_men f ≤ 4) (hc : ∀ p, 0 ≤ p → p < 16 → 0 ≤ f_corn f p ∧ f_corn f p ≤ 9) : g_thX f = g_thM f := by
  have hs := zshl_men hm
  have hC := (g_alone_r hc 0).2.2
  have hC0 := (g_alone_r hc 0).1
  have hC1 := (g_alone_r hc 0).2.1
  have en : ∀ n, zall (fun g => g_alone f g ≤ g_S f g n) (zshl 1 (f_men f)).toNat = true ↔ ∀ g, 0 ≤ g → g < zshl 1 (f_men f) → g_alone f g ≤ g_S f g n := fun n => zall_t
  have S0 : ∀ n : Nat, g_S f 0 n = 0 := by
    intro n
    induction n with
    | zero => rfl
    | succ n ih =>
      have e := g_S_s (f := f) (g := 0) (n := (n : Int)) (by omega)
      have e2 : g_st f 0 n = 0 := by
        unfold g_st
        refine if_neg (fun q => ?_)
        have q1 := q.2
        unfold bt at q1
        rw [zshr0 _ (Int.emod_nonneg _ (by omega)) (by have := Int.emod_lt_of_pos (n : Int) q.1; omega)] at q1
        exact absurd q1 (by decide)
      rw [show ((n + 1 : Nat) : Int) = (n : Int) + 1 from rfl, e, e2, ih]
      rfl
  unfold g_thX g_thM
  by_cases c : 0 < g_alone f 0
  · rw [if_pos c]
    refine (zfd_no 0 (fun j j0 j1 q => ?_)).symm
    have e := (en j).mp q 0 (by decide) (by omega)
    have e2 := S0 j.toNat
    rw [show ((j.toNat : Nat) : Int) = j from by omega] at e2
    omega
  · rw [if_neg c]
    obtain ⟨a1, a2, a3⟩ := zmx (n := zshl 1 (f_men f)) (h := fun g => g_B f g (g_alone f g)) 1 0
    have hB : ∀ g, 1 ≤ g → g < zshl 1 (f_men f) → g_B f g (g_alone f g) ≤ 4 * (zsum (f_corn f) 16 + 1) ∧ g_alone f g ≤ g_S f g (g_B f g (g_alone f g)) ∧ 0 ≤ g_B f g (g_alone f g) := by
      intro g g0 g1
      obtain ⟨m, m0, m1, mb⟩ := bt_ex hm g0 g1
      have q1 := g_S_k (f := f) ⟨m0, m1⟩ mb (zsum (f_corn f) 16).toNat
      rw [show (((zsum (f_corn f) 16).toNat : Nat) : Int) = zsum (f_corn f) 16 from by omega] at q1
      have q2 := (g_alone_r hc g).2.1
      have q3 : f_men f * zsum (f_corn f) 16 ≤ 4 * zsum (f_corn f) 16 := Int.mul_le_mul_of_nonneg_right hm.2 (by omega)
      have q0 : 0 ≤ f_men f * zsum (f_corn f) 16 := Int.mul_nonneg hm.1 (by omega)
      have q4 := g_S_mono2 (f := f) (g := g) q0 (show f_men f * zsum (f_corn f) 16 ≤ 4 * (zsum (f_corn f) 16 + 1) by omega)
      have q5 : g_B f g (g_alone f g) ≤ 4 * (zsum (f_corn f) 16 + 1) := zfd_le 0 _ (by omega) (by omega) (by omega)
      have q6 := zfd_is (n := 1000) (e := 1000) (g := fun n => g_alone f g ≤ g_S f g n) 0
      have q7 : g_B f g (g_alone f g) = zfd 1000 (fun n => g_alone f g ≤ g_S f g n) 1000 0 := rfl
      rw [← q7] at q6
      rcases q6 with q6 | q6
      · omega
      · exact ⟨q5, q6.2.2, q6.1⟩
    generalize hN : zwh (zshl 1 (f_men f)) (fun g m => if m < g_B f g (g_alone f g) then g_B f g (g_alone f g) else m) 1 0 = N at *
    have hNm : N ≤ 4 * (zsum (f_corn f) 16 + 1) := by
      rcases a3 with q | ⟨g, g0, g1, q⟩
      · omega
      · have := (hB g g0 g1).1
        omega
    have hNe : zall (fun g => g_alone f g ≤ g_S f g N) (zshl 1 (f_men f)).toNat = true := by
      refine (en N).mpr (fun g g0 g1 => ?_)
      by_cases q : g = 0
      · subst q
        have e2 := g_S_r (f := f) (g := 0) N.toNat
        rw [show ((N.toNat : Nat) : Int) = N from by omega] at e2
        omega
      · have h1 := hB g (by omega) g1
        have h2 := a2 g (by omega) g1
        exact Int.le_trans h1.2.1 (g_S_mono2 h1.2.2 h2)
    have up := zfd_le (n := 4 * (zsum (f_corn f) 16 + 1) + 1) (e := -2) (g := fun n => zall (fun g => g_alone f g ≤ g_S f g n) (zshl 1 (f_men f)).toNat = true) 0 N (by omega) (by omega) hNe
    have is := zfd_ex (n := 4 * (zsum (f_corn f) 16 + 1) + 1) (e := -2) (g := fun n => zall (fun g => g_alone f g ≤ g_S f g n) (zshl 1 (f_men f)).toNat = true) 0 N (by omega) (by omega) hNe
    generalize zfd (4 * (zsum (f_corn f) 16 + 1) + 1) (fun n => zall (fun g => g_alone f g ≤ g_S f g n) (zshl 1 (f_men f)).toNat = true) (-2) 0 = Z at *
    have e := (en Z).mp is.2.2
    rcases a3 with q | ⟨g, g0, g1, q⟩
    · omega
    · have e2 := e g (by omega) g1
      have e3 : g_B f g (g_alone f g) ≤ Z := zfd_le 0 Z is.1 (by omega) e2
      omega
theorem zb4 : ∀ M : Nat, M ≤ 4 → ∀ b0 b1 b2 b3 : Bool, ∀ g : Nat, g < 16 → (zand (zbits (zv8 b0 b1 b2 b3 false false false false) M) (zxor g (-1)) = 0 ↔ ∀ m : Nat, m < M → zv8 b0 b1 b2 b3 false false false false m → zand (zshr g m) 1 = 1) := by decide +kernel
theorem g_al_i {f : ts_Fl} (hm : 0 ≤ f_men f ∧ f_men f ≤ 4) {g p : Int} (hg : 0 ≤ g ∧ g < 16) : zand (zbits (fun m => f_can f m p) (f_men f).toNat) (zxor g (-1)) = 0 ↔ g_al f g p := by
  have hv : ∀ k : Int, 0 ≤ k → k < (f_men f).toNat → ((fun m => f_can f m p) k ↔ zv8 (decide (f_can f 0 p)) (decide (f_can f 1 p)) (decide (f_can f 2 p)) (decide (f_can f 3 p)) false false false false k) := by
    intro k k0 k1
    rcases (show k = 0 ∨ k = 1 ∨ k = 2 ∨ k = 3 by omega) with rfl | rfl | rfl | rfl <;> exact decide_eq_true_iff.symm
  have e := zb4 (f_men f).toNat (by omega) (decide (f_can f 0 p)) (decide (f_can f 1 p)) (decide (f_can f 2 p)) (decide (f_can f 3 p)) g.toNat (by omega)
  rw [show ((g.toNat : Nat) : Int) = g from by omega] at e
  rw [zbits_e _ hv, e]
  unfold g_al
  rw [zall_t]
  constructor
  · intro q k k0 k1 r
    have q2 := q k.toNat (by omega)
    rw [show ((k.toNat : Nat) : Int) = k from by omega] at q2
    exact r.1 (q2 ((hv k k0 (by omega)).mp r.2))
  · intro q m m0 m1
    have r := q m (by omega) (by omega)
    exact Decidable.of_not_not (fun t => r ⟨t, (hv m (by omega) (by omega)).mpr m1⟩)
section TH
variable {X : ts_X} {I J : Nat → Nat → Int32} {L : Nat → Nat → Int64} {sw : Bool} {K : Option Value → ts_H → Prop} {d : Nat} {f : ts_Fl} {c : Int → Int}
theorem RX.ftu (h : RX I f) (e : fr ftu I J) : RX J f := h.co (fun a p0 p1 => fr_row e (fun k => by omega))
theorem x_findReachers (hX : RX I f) (hK : ∀ J, fr ftu I J → ar J 43 16 0 15 (fun p => zbits (fun m => f_can f m p) (f_men f).toNat) → K none (J, L, ts_P0 sw, ts_S0)) : ts_Cal X (d + 3) 89 [.ref 42] (I, L, ts_P0 sw, ts_S0) K := by
  have b1 := hX.men.2
  have zr15 : ∀ p : Int, ∀ n : Nat, n ≤ 4 → 0 ≤ zbits (fun m => f_can f m p) n ∧ zbits (fun m => f_can f m p) n ≤ 15 := by
    intro p n hn
    have q : ∀ M : Nat, M ≤ 4 → ∀ b0 b1 b2 b3 : Bool, 0 ≤ zbits (zv8 b0 b1 b2 b3 false false false false) M ∧ zbits (zv8 b0 b1 b2 b3 false false false false) M ≤ 15 := by decide +kernel
    have hv : ∀ k : Int, 0 ≤ k → k < n → ((fun m => f_can f m p) k ↔ zv8 (decide (f_can f 0 p)) (decide (f_can f 1 p)) (decide (f_can f 2 p)) (decide (f_can f 3 p)) false false false false k) := by
      intro k k0 k1
      rcases (show k = 0 ∨ k = 1 ∨ k = 2 ∨ k = 3 by omega) with rfl | rfl | rfl | rfl <;> exact decide_eq_true_iff.symm
    rw [zbits_e n hv]
    exact q n hn _ _ _ _
  have outer : ∀ p : Int, 0 ≤ p → p ≤ 16 → ∀ J o, fr ftu I J → ar J 43 p 0 15 (fun p => zbits (fun m => f_can f m p) (f_men f).toNat) → ts_Ev X (ts_Cal X (d + 2)) 89 ts_S0 K 2 [.ref 42, .int (zI (p)), o] [] (J, L, ts_P0 sw, ts_S0) := by
    refine ts_ind 16 (fun p ih h0 h1 J o hJ ha => ?_)
    have inner : p < 16 → ∀ m : Int, 0 ≤ m → m ≤ f_men f → ∀ M, fr ftu I M → ar M 43 p 0 15 (fun p => zbits (fun m => f_can f m p) (f_men f).toNat) → rd (M 43 p.toNat) 0 15 (zbits (fun m => f_can f m p) m.toNat) → ts_Ev X (ts_Cal X (d + 2)) 89 ts_S0 K 17 [.ref 42, .int (zI (p)), .int (zI (m))] [] (M, L, ts_P0 sw, ts_S0) := by
      intro hp
      refine ts_ind (f_men f) (fun m ihm k0 k1 M hM ra rp => ?_)
      have hX2 := hX.ftu hM
      refine ev_iloadn_2 i89_17 ?_
      refine ev_aloadn_0 i89_18 ?_
      refine ev_getA i89_19 g89_19 rfl rfl (by decide) ?_
      refine ew_getI i89_22 g89_22 rfl (by first | exact hX2.men | exact rp | exact hX.men | exact hX.told | exact hX.road | exact hX.tone _ (by omega) (by omega) | exact hX.corn _ (by omega) (by omega) | exact hX.stand _ (by omega) (by omega) | exact hX.reach _ (by omega) (by omega) | exact hX.arm _ (by omega) (by omega) | exact hX.late _ (by omega) (by omega) | exact hX.len _ (by omega) (by omega) | exact hX.say (by omega) (by omega) _ (by omega) (by omega)) (fun b22 => ?_)
      refine ew_icmpge i89_25 (by omega) (fun c25 => ?_) (fun c25 => ?_)
      · refine ew_iinc_1 i89_62 rfl ?_
        refine ev_goto i89_65 ?_
        obtain rfl : m = f_men f := by omega
        refine ih (by omega) (by omega) (by omega) _ _ hM (fun q q0 q1 => ?_)
        by_cases c : q = p
        · subst c
          exact rp
        · exact ra q q0 (by omega)
      · refine ev_aloadn_0 i89_28 ?_
        refine ev_getA i89_29 g89_29 rfl rfl (by decide) ?_
        refine ev_iloadn_1 i89_32 ?_
        refine ev_dup2 i89_33 ?_
        refine ew_iaload i89_34 rfl (by omega) (by omega) (by omega) (by first | exact hX2.men | exact rp | exact hX.men | exact hX.told | exact hX.road | exact hX.tone _ (by omega) (by omega) | exact hX.corn _ (by omega) (by omega) | exact hX.stand _ (by omega) (by omega) | exact hX.reach _ (by omega) (by omega) | exact hX.arm _ (by omega) (by omega) | exact hX.late _ (by omega) (by omega) | exact hX.len _ (by omega) (by omega) | exact hX.say (by omega) (by omega) _ (by omega) (by omega)) (fun b34 => ?_)
        refine ev_aloadn_0 i89_35 ?_
        refine ev_getA i89_36 g89_36 rfl rfl (by decide) ?_
        refine ev_iloadn_2 i89_39 ?_
        refine ev_iloadn_1 i89_40 ?_
        refine ev_virt2 i89_41 g89_41 rfl (by decide +kernel) (Nat.le_of_ble_eq_true rfl) (x_canStrike hX2 k0 (by omega) h0 hp ?_)
        first
        | refine ew_ifeqB i89_44 (fun c44 => ?_) (fun c44 => ?_)
        | refine ew_ifeq i89_44 (by omega) (fun c44 => ?_) (fun c44 => ?_)
        · refine ew_iconst i89_53 ?_
          refine ew_ior i89_54 ?_
          refine ew_iastore i89_55 rfl (by omega) (by omega) (by omega) ?_
          refine ew_iinc_2 i89_56 rfl ?_
          refine ev_goto i89_59 ?_
          have z := zr15 p (m + 1).toNat (by omega)
          have keep : ∀ v, ar (ts_up M 43 p.toNat (zI v)) 43 p 0 15 (fun p => zbits (fun m => f_can f m p) (f_men f).toNat) := fun v q q0 q1 => by
            rw [ts_up_nj (by omega)]
            exact ra q q0 q1
          have e := zbits_s (g := fun m => f_can f m p) k0
          rw [e] at z
          first
            | (rw [if_pos c44] at e z
               exact ihm (by omega) (by omega) (by omega) _ (fr_up hM (by omega)) (keep _) (by rw [ts_up_e, e]; exact rd_zI z))
            | (rw [if_neg c44] at e z
               rw [zor_0 (zbits_r _ _)]
               exact ihm (by omega) (by omega) (by omega) _ (fr_up hM (by omega)) (keep _) (by rw [ts_up_e, e]; exact rd_zI z))
        · refine ew_iconst i89_47 ?_
          refine ev_iloadn_2 i89_48 ?_
          refine ew_ishl i89_49 ?_
          refine ev_goto i89_50 ?_
          refine ew_ior i89_54 ?_
          refine ew_iastore i89_55 rfl (by omega) (by omega) (by omega) ?_
          refine ew_iinc_2 i89_56 rfl ?_
          refine ev_goto i89_59 ?_
          have z := zr15 p (m + 1).toNat (by omega)
          have keep : ∀ v, ar (ts_up M 43 p.toNat (zI v)) 43 p 0 15 (fun p => zbits (fun m => f_can f m p) (f_men f).toNat) := fun v q q0 q1 => by
            rw [ts_up_nj (by omega)]
            exact ra q q0 q1
          have e := zbits_s (g := fun m => f_can f m p) k0
          rw [e] at z
          first
            | (rw [if_pos c44] at e z
               exact ihm (by omega) (by omega) (by omega) _ (fr_up hM (by omega)) (keep _) (by rw [ts_up_e, e]; exact rd_zI z))
            | (rw [if_neg c44] at e z
               rw [zor_0 (zbits_r _ _)]
               exact ihm (by omega) (by omega) (by omega) _ (fr_up hM (by omega)) (keep _) (by rw [ts_up_e, e]; exact rd_zI z))
    refine ev_iloadn_1 i89_2 ?_
    refine ew_bipush i89_3 (by decide) ?_
    refine ew_icmpge i89_5 (by omega) (fun c5 => ?_) (fun c5 => ?_)
    · refine ev_return i89_68 r89 ?_
      obtain rfl : p = 16 := by omega
      exact hK J hJ ha
    · refine ev_aloadn_0 i89_8 ?_
      refine ev_getA i89_9 g89_9 rfl rfl (by decide) ?_
      refine ev_iloadn_1 i89_12 ?_
      refine ew_iconst i89_13 ?_
      refine ew_iastore i89_14 rfl (by omega) (by omega) (by omega) ?_
      refine ew_iconst i89_15 ?_
      refine ev_istoren_2 i89_16 rfl ?_
      exact inner (by omega) 0 (by decide) (by omega) _ (fr_up hJ (by omega)) (fun q q0 q1 => by rw [ts_up_nj (by omega)]; exact ha q q0 q1) (by rw [ts_up_e]; exact rd_zI (by decide))
  refine ev_enter (lv := [.ref 42, .null, .null]) l89 rfl (Nat.le_of_ble_eq_true rfl) ?_
  refine ew_iconst i89_0 ?_
  refine ev_istoren_1 i89_1 rfl ?_
  exact outer 0 (by decide) (by decide) I _ (fr_rfl _ _) (fun p p0 p1 => by omega)
theorem x_cornFor (hX : RX I f) (ha : ar I 43 16 0 15 (fun p => zbits (fun m => f_can f m p) (f_men f).toNat)) {g : Int} (hg : 0 ≤ g ∧ g < 16) (hK : K (some (.int (zI (g_alone f g)))) (I, L, ts_P0 sw, ts_S0)) : ts_Cal X (d + 1) 88 [.ref 42, .int (zI (g))] (I, L, ts_P0 sw, ts_S0) K := by
  have b1 := hX.men.2
  have loop : ∀ p : Int, 0 ≤ p → p ≤ 16 → ts_Ev X (ts_Cal X (d + 0)) 88 ts_S0 K 4 [.ref 42, .int (zI (g)), .int (zI (zsum (fun p => if g_al f g p then f_corn f p else 0) p.toNat)), .int (zI (p))] [] (I, L, ts_P0 sw, ts_S0) := by
    refine ts_ind 16 (fun p ih h0 h1 => ?_)
    refine ev_iloadn_3 i88_4 ?_
    refine ew_bipush i88_5 (by decide) ?_
    refine ew_icmpge i88_7 (by omega) (fun c7 => ?_) (fun c7 => ?_)
    · refine ev_iloadn_2 i88_41 ?_
      refine ev_ireturn i88_42 r88 ?_
      obtain rfl : p = 16 := by omega
      exact hK
    · refine ev_aloadn_0 i88_10 ?_
      refine ev_getA i88_11 g88_11 rfl rfl (by decide) ?_
      refine ev_iloadn_3 i88_14 ?_
      refine ew_iaload i88_15 rfl (by omega) (by omega) (by omega) ((ha p h0 (by omega))) (fun b15 => ?_)
      refine ev_iloadn_1 i88_16 ?_
      refine ew_iconst i88_17 ?_
      refine ew_ixor i88_18 ?_
      refine ew_iand i88_19 ?_
      first
      | refine ew_ifneB i88_20 (fun c20 => ?_) (fun c20 => ?_)
      | refine ew_ifne i88_20 (zand_r _ _) (fun c20 => ?_) (fun c20 => ?_)
      · refine ew_iinc_3 i88_35 rfl ?_
        refine ev_goto i88_38 ?_
        have e := ih (by omega) (by omega) (by omega)
        rw [zsum_s h0] at e
        first
          | (rw [if_pos ((g_al_i b1 hg).mp c20)] at e
             exact e)
          | (rw [if_neg (fun r => c20 ((g_al_i b1 hg).mpr r)), Int.add_zero] at e
             exact e)
      · refine ev_iloadn_2 i88_23 ?_
        refine ev_aloadn_0 i88_24 ?_
        refine ev_getA i88_25 g88_25 rfl rfl (by decide) ?_
        refine ev_getA i88_28 g88_28 rfl rfl (by decide) ?_
        refine ev_iloadn_3 i88_31 ?_
        refine ew_iaload i88_32 rfl (by omega) (by omega) (by omega) (by first | exact hX.men | exact hX.told | exact hX.road | exact hX.tone _ (by omega) (by omega) | exact hX.corn _ (by omega) (by omega) | exact hX.stand _ (by omega) (by omega) | exact hX.reach _ (by omega) (by omega) | exact hX.arm _ (by omega) (by omega) | exact hX.late _ (by omega) (by omega) | exact hX.len _ (by omega) (by omega) | exact hX.say (by omega) (by omega) _ (by omega) (by omega)) (fun b32 => ?_)
        refine ew_iadd i88_33 ?_
        refine ev_istoren_2 i88_34 rfl ?_
        refine ew_iinc_3 i88_35 rfl ?_
        refine ev_goto i88_38 ?_
        have e := ih (by omega) (by omega) (by omega)
        rw [zsum_s h0] at e
        first
          | (rw [if_pos ((g_al_i b1 hg).mp c20)] at e
             exact e)
          | (rw [if_neg (fun r => c20 ((g_al_i b1 hg).mpr r)), Int.add_zero] at e
             exact e)
  refine ev_enter (lv := [.ref 42, .int (zI (g)), .null, .null]) l88 rfl (Nat.le_of_ble_eq_true rfl) ?_
  refine ew_iconst i88_0 ?_
  refine ev_istoren_2 i88_1 rfl ?_
  refine ew_iconst i88_2 ?_
  refine ev_istoren_3 i88_3 rfl ?_
  exact loop 0 (by decide) (by decide)
theorem x_beatsFor (hX : RX I f) {g c : Int} (hg : 0 ≤ g ∧ g < 16) (hc : 0 ≤ c ∧ c ≤ 144) (hK : 0 ≤ g_B f g c → g_B f g c ≤ 1000 → K (some (.int (zI (g_B f g c)))) (I, L, ts_P0 sw, ts_S0)) : ts_Cal X (d + 2) 90 [.ref 42, .int (zI (g)), .int (zI (c))] (I, L, ts_P0 sw, ts_S0) K := by
  have b1 := hX.men.2
  have loop : ∀ b : Int, 0 ≤ b → b ≤ 1000 → ∀ o, zfd 1000 (fun n => c ≤ g_S f g n) 1000 b = g_B f g c → ts_Ev X (ts_Cal X (d + 1)) 90 ts_S0 K 5 [.ref 42, .int (zI (g)), .int (zI (c)), .int (zI (c - g_S f g b)), .int (zI (b)), o] [] (I, L, ts_P0 sw, ts_S0) := by
    refine ts_ind 1000 (fun b ih h0 h1 o h2 => ?_)
    have sr := g_S_r (f := f) (g := g) b.toNat
    rw [show ((b.toNat : Nat) : Int) = b from by omega] at sr
    have sn := g_S_s (f := f) (g := g) h0
    have st : g_st f g b = if 0 < f_men f ∧ bt g (b % f_men f) then 1 else 0 := rfl
    refine ev_iloadn_3 i90_5 ?_
    refine ew_ifle i90_6 (by omega) (fun c6 => ?_) (fun c6 => ?_)
    · refine ev_iload_4 i90_59 ?_
      refine ev_ireturn i90_61 r90 ?_
      have e : zfd 1000 (fun n => c ≤ g_S f g n) 1000 b = b := by
        by_cases q : b < 1000
        · rw [zfd_1 q, if_pos (by omega)]
        · rw [zfd_0 q]
          omega
      rw [← h2, e] at hK
      exact hK h0 h1
    · refine ev_iload_4 i90_9 ?_
      refine ew_sipush i90_11 (by decide) ?_
      refine ew_icmpge i90_14 (by omega) (fun c14 => ?_) (fun c14 => ?_)
      · refine ev_iload_4 i90_59 ?_
        refine ev_ireturn i90_61 r90 ?_
        have e : zfd 1000 (fun n => c ≤ g_S f g n) 1000 b = b := by
          by_cases q : b < 1000
          · rw [zfd_1 q, if_pos (by omega)]
          · rw [zfd_0 q]
            omega
        rw [← h2, e] at hK
        exact hK h0 h1
      · refine ev_aloadn_0 i90_17 ?_
        refine ev_getA i90_18 g90_18 rfl rfl (by decide) ?_
        refine ev_iload_4 i90_21 ?_
        refine ev_virt1 i90_23 g90_23 rfl (by decide +kernel) (Nat.le_of_ble_eq_true rfl) (x_manOf hX (by omega) ?_)
        have mr : (if 0 < f_men f ∧ 0 ≤ b then b % f_men f else -2) = -2 ∧ f_men f = 0 ∨ (if 0 < f_men f ∧ 0 ≤ b then b % f_men f else -2) = b % f_men f ∧ 0 < f_men f ∧ 0 ≤ b % f_men f ∧ b % f_men f < f_men f := by
          by_cases q : 0 < f_men f
          · have q1 := Int.emod_nonneg b (show ¬ f_men f = 0 by omega)
            have q2 := Int.emod_lt_of_pos b q
            exact Or.inr ⟨if_pos ⟨q, h0⟩, q, q1, q2⟩
          · exact Or.inl ⟨if_neg (fun r => q r.1), by omega⟩
        generalize hmm : (if 0 < f_men f ∧ 0 ≤ b then b % f_men f else -2) = mm at *
        refine ev_istore_5 i90_26 rfl ?_
        refine ev_iloadn_3 i90_28 ?_
        refine ev_iload_5 i90_29 ?_
        refine ew_bipush i90_31 (by decide) ?_
        refine ew_icmpeq i90_33 (by omega) (fun c33 => ?_) (fun c33 => ?_)
        · refine ew_iconst i90_50 ?_
          refine ew_isub i90_51 ?_
          refine ev_istoren_3 i90_52 rfl ?_
          refine ew_iinc_4 i90_53 rfl ?_
          refine ev_goto i90_56 ?_
          rw [zfd_1 (by omega), if_neg (by omega)] at h2
          have e := ih (by omega) (by omega) (by omega) (.int (zI (mm))) h2
          first
            | (rw [sn, st, if_neg (by omega)] at e
               rw [show c - g_S f g b - 0 = c - (g_S f g b + 0) from by omega]
               exact e)
            | (rw [sn, st, if_pos ⟨mr2.2, by unfold bt; rw [← mr2.1]; exact c43⟩] at e
               rw [show c - g_S f g b - 1 = c - (g_S f g b + 1) from by omega]
               exact e)
            | (rw [sn, st, if_neg (fun r => c43 (by have r2 := r.2; unfold bt at r2; rw [← mr2.1] at r2; exact r2))] at e
               rw [show c - g_S f g b - 0 = c - (g_S f g b + 0) from by omega]
               exact e)
        · have mr2 : mm = b % f_men f ∧ 0 < f_men f := by omega
          have bb := bt_r g mm
          refine ev_iloadn_1 i90_36 ?_
          refine ev_iload_5 i90_37 ?_
          refine ew_ishr i90_39 ?_
          refine ew_iconst i90_40 ?_
          refine ew_iand i90_41 ?_
          refine ew_iconst i90_42 ?_
          refine ew_icmpne i90_43 (by omega) (fun c43 => ?_) (fun c43 => ?_)
          · refine ew_iconst i90_50 ?_
            refine ew_isub i90_51 ?_
            refine ev_istoren_3 i90_52 rfl ?_
            refine ew_iinc_4 i90_53 rfl ?_
            refine ev_goto i90_56 ?_
            rw [zfd_1 (by omega), if_neg (by omega)] at h2
            have e := ih (by omega) (by omega) (by omega) (.int (zI (mm))) h2
            first
              | (rw [sn, st, if_neg (by omega)] at e
                 rw [show c - g_S f g b - 0 = c - (g_S f g b + 0) from by omega]
                 exact e)
              | (rw [sn, st, if_pos ⟨mr2.2, by unfold bt; rw [← mr2.1]; exact c43⟩] at e
                 rw [show c - g_S f g b - 1 = c - (g_S f g b + 1) from by omega]
                 exact e)
              | (rw [sn, st, if_neg (fun r => c43 (by have r2 := r.2; unfold bt at r2; rw [← mr2.1] at r2; exact r2))] at e
                 rw [show c - g_S f g b - 0 = c - (g_S f g b + 0) from by omega]
                 exact e)
          · refine ew_iconst i90_46 ?_
            refine ev_goto i90_47 ?_
            refine ew_isub i90_51 ?_
            refine ev_istoren_3 i90_52 rfl ?_
            refine ew_iinc_4 i90_53 rfl ?_
            refine ev_goto i90_56 ?_
            rw [zfd_1 (by omega), if_neg (by omega)] at h2
            have e := ih (by omega) (by omega) (by omega) (.int (zI (mm))) h2
            first
              | (rw [sn, st, if_neg (by omega)] at e
                 rw [show c - g_S f g b - 0 = c - (g_S f g b + 0) from by omega]
                 exact e)
              | (rw [sn, st, if_pos ⟨mr2.2, by unfold bt; rw [← mr2.1]; exact c43⟩] at e
                 rw [show c - g_S f g b - 1 = c - (g_S f g b + 1) from by omega]
                 exact e)
              | (rw [sn, st, if_neg (fun r => c43 (by have r2 := r.2; unfold bt at r2; rw [← mr2.1] at r2; exact r2))] at e
                 rw [show c - g_S f g b - 0 = c - (g_S f g b + 0) from by omega]
                 exact e)
  refine ev_enter (lv := [.ref 42, .int (zI (g)), .int (zI (c)), .null, .null, .null]) l90 rfl (Nat.le_of_ble_eq_true rfl) ?_
  refine ev_iloadn_2 i90_0 ?_
  refine ev_istoren_3 i90_1 rfl ?_
  refine ew_iconst i90_2 ?_
  refine ev_istore_4 i90_3 rfl ?_
  have e := loop 0 (by decide) (by decide) .null rfl
  rw [show c - g_S f g 0 = c from by rw [show g_S f g 0 = 0 from rfl]; omega] at e
  exact e
theorem x_fewestBeats (hX : RX I f) (hK : ∀ J, fr ftu I J → K (some (.int (zI (g_thX f)))) (J, L, ts_P0 sw, ts_S0)) : ts_Cal X (d + 4) 87 [.ref 42] (I, L, ts_P0 sw, ts_S0) K := by
  have b1 := hX.men.2
  have hs := zshl_men b1
  have hal : ∀ g, 0 ≤ g_alone f g ∧ g_alone f g ≤ 144 := fun g => by
    have e := g_alone_r (f := f) (fun p p0 p1 => (hX.corn p p0 p1).2) g
    omega
  have al0 := hal 0
  unfold g_thX at hK
  refine ev_enter (lv := [.ref 42, .null, .null]) l87 rfl (Nat.le_of_ble_eq_true rfl) ?_
  refine ev_aloadn_0 i87_0 ?_
  refine ev_virt0 i87_1 g87_1 rfl (by decide +kernel) (Nat.le_of_ble_eq_true rfl) (x_findReachers hX (fun J h1 h2 => ?_))
  refine ev_aloadn_0 i87_4 ?_
  refine ew_iconst i87_5 ?_
  refine ev_virt1 i87_6 g87_6 rfl (by decide +kernel) (Nat.le_of_ble_eq_true rfl) (x_cornFor (hX.ftu h1) h2 (by decide) ?_)
  refine ew_ifle i87_9 (by omega) (fun c9 => ?_) (fun c9 => ?_)
  · refine ew_iconst i87_15 ?_
    refine ev_istoren_1 i87_16 rfl ?_
    refine ew_iconst i87_17 ?_
    refine ev_istoren_2 i87_18 rfl ?_
    rw [if_neg (by omega)] at hK
    have loop : ∀ g : Int, 1 ≤ g → g ≤ zshl 1 (f_men f) → ∀ m : Int, 0 ≤ m → m ≤ 1000 → zwh (zshl 1 (f_men f)) (fun g m => if m < g_B f g (g_alone f g) then g_B f g (g_alone f g) else m) g m = zwh (zshl 1 (f_men f)) (fun g m => if m < g_B f g (g_alone f g) then g_B f g (g_alone f g) else m) 1 0 → ts_Ev X (ts_Cal X (d + 3)) 87 ts_S0 K 19 [.ref 42, .int (zI (m)), .int (zI (g))] [] (J, L, ts_P0 sw, ts_S0) := by
      refine ts_ind (zshl 1 (f_men f)) (fun g ih k0 k1 m k2 k3 k4 => ?_)
      have hX2 := hX.ftu h1
      have ag := hal g
      refine ev_iloadn_2 i87_19 ?_
      refine ew_iconst i87_20 ?_
      refine ev_aloadn_0 i87_21 ?_
      refine ev_getA i87_22 g87_22 rfl rfl (by decide) ?_
      refine ew_getI i87_25 g87_25 rfl (by first | exact hX2.men | exact hX.men | exact hX.told | exact hX.road | exact hX.tone _ (by omega) (by omega) | exact hX.corn _ (by omega) (by omega) | exact hX.stand _ (by omega) (by omega) | exact hX.reach _ (by omega) (by omega) | exact hX.arm _ (by omega) (by omega) | exact hX.late _ (by omega) (by omega) | exact hX.len _ (by omega) (by omega) | exact hX.say (by omega) (by omega) _ (by omega) (by omega)) (fun b25 => ?_)
      refine ew_ishl i87_28 ?_
      refine ew_icmpge i87_29 (by omega) (fun c29 => ?_) (fun c29 => ?_)
      · refine ev_iloadn_1 i87_53 ?_
        refine ev_ireturn i87_54 r87 ?_
        rw [zwh_0 (by omega)] at k4
        rw [k4]
        exact hK J h1
      · refine ev_iloadn_1 i87_32 ?_
        refine ev_aloadn_0 i87_33 ?_
        refine ev_iloadn_2 i87_34 ?_
        refine ev_aloadn_0 i87_35 ?_
        refine ev_iloadn_2 i87_36 ?_
        refine ev_virt1 i87_37 g87_37 rfl (by decide +kernel) (Nat.le_of_ble_eq_true rfl) (x_cornFor hX2 h2 (by omega) ?_)
        refine ev_virt2 i87_40 g87_40 rfl (by decide +kernel) (Nat.le_of_ble_eq_true rfl) (x_beatsFor hX2 (by omega) (by omega) (fun q0 q1 => ?_))
        refine ew_mmax i87_43 g87_43 (Nat.le_of_ble_eq_true rfl) (by omega) ?_
        refine ev_istoren_1 i87_46 rfl ?_
        refine ew_iinc_2 i87_47 rfl ?_
        refine ev_goto i87_50 ?_
        rw [zwh_1 (by omega)] at k4
        exact ih (by omega) (by omega) (by omega) _ (by omega) (by omega) k4
    exact loop 1 (by decide) (by omega) 0 (by decide) (by decide) rfl
  · refine ew_bipush i87_12 (by decide) ?_
    refine ev_ireturn i87_14 r87 ?_
    rw [if_pos (by omega)] at hK
    exact hK J h1
theorem x_thresh (hX : RX I f) (hK : ∀ J, fr ftu I J → K (some (.int (zI (g_thM f)))) (J, L, ts_P0 sw, ts_S0)) : ts_Cal X (d + 5) 107 [.ref 1] (I, L, ts_P0 sw, ts_S0) K := by
  rw [← g_th hX.men.2 (fun p p0 p1 => (hX.corn p p0 p1).2)] at hK
  refine ev_enter (lv := [.ref 1]) l107 rfl (Nat.le_of_ble_eq_true rfl) ?_
  refine ev_aloadn_0 i107_0 ?_
  refine ev_getA i107_1 g107_1 rfl rfl (by decide) ?_
  refine ev_virt0 i107_4 g107_4 rfl (by decide +kernel) (Nat.le_of_ble_eq_true rfl) (x_fewestBeats hX (fun J h1 => ?_))
  refine ev_ireturn i107_7 r107 ?_
  exact hK J h1
end TH
