theorem i2_0 : ts_ins 2 0 = some (.aload_n 0, 1, 0) := by decide +kernel
theorem i2_1 : ts_ins 2 1 = some (.iconst 1, 2, 0) := by decide +kernel
theorem i2_2 : ts_ins 2 2 = some (.aload_n 0, 3, 0) := by decide +kernel
theorem i2_3 : ts_ins 2 3 = some (.iconst 0, 4, 0) := by decide +kernel
theorem i2_4 : ts_ins 2 4 = some (.bipush 39, 6, 0) := by decide +kernel
theorem i2_6 : ts_ins 2 6 = some (.invokestatic 35, 9, 0) := by decide +kernel
theorem g2_6 : ts_cal (ts_mc 2) 35 = some (9, 0, 5) := by decide +kernel
theorem i2_9 : ts_ins 2 9 = some (.return_, 10, 0) := by decide +kernel
theorem r2 : ts_rt 2 = (none, 0, 0) := by decide +kernel
theorem l2 : ts_ml 2 = 1 := by decide +kernel
theorem i1_0 : ts_ins 1 0 = some (.aload_n 0, 1, 0) := by decide +kernel
theorem i1_1 : ts_ins 1 1 = some (.getfield 24, 4, 0) := by decide +kernel
theorem g1_1 : ts_fm 1 24 = some (0, 4, 0) := by decide +kernel
theorem i1_4 : ts_ins 1 4 = some (.bipush 40, 6, 0) := by decide +kernel
theorem i1_6 : ts_ins 1 6 = some (.if_icmp .lt 37, 9, 43) := by decide +kernel
theorem i1_9 : ts_ins 1 9 = some (.aload_n 0, 10, 0) := by decide +kernel
theorem i1_10 : ts_ins 1 10 = some (.getfield 9, 13, 0) := by decide +kernel
theorem g1_10 : ts_fm 1 9 = some (0, 0, 2) := by decide +kernel
theorem i1_13 : ts_ins 1 13 = some (.invokestatic 31, 16, 0) := by decide +kernel
theorem g1_13 : ts_cal (ts_mc 1) 31 = some (1, 2, 1) := by decide +kernel
theorem i1_16 : ts_ins 1 16 = some (.aload_n 0, 17, 0) := by decide +kernel
theorem i1_17 : ts_ins 1 17 = some (.getfield 15, 20, 0) := by decide +kernel
theorem g1_17 : ts_fm 1 15 = some (0, 1, 2) := by decide +kernel
theorem i1_20 : ts_ins 1 20 = some (.invokestatic 31, 23, 0) := by decide +kernel
theorem g1_20 : ts_cal (ts_mc 1) 31 = some (1, 2, 1) := by decide +kernel
theorem i1_23 : ts_ins 1 23 = some (.aload_n 0, 24, 0) := by decide +kernel
theorem i1_24 : ts_ins 1 24 = some (.getfield 18, 27, 0) := by decide +kernel
theorem g1_24 : ts_fm 1 18 = some (0, 2, 2) := by decide +kernel
theorem i1_27 : ts_ins 1 27 = some (.invokestatic 31, 30, 0) := by decide +kernel
theorem g1_27 : ts_cal (ts_mc 1) 31 = some (1, 2, 1) := by decide +kernel
theorem i1_30 : ts_ins 1 30 = some (.aload_n 0, 31, 0) := by decide +kernel
theorem i1_31 : ts_ins 1 31 = some (.getfield 21, 34, 0) := by decide +kernel
theorem g1_31 : ts_fm 1 21 = some (0, 3, 2) := by decide +kernel
theorem i1_34 : ts_ins 1 34 = some (.invokestatic 31, 37, 0) := by decide +kernel
theorem g1_34 : ts_cal (ts_mc 1) 31 = some (1, 2, 1) := by decide +kernel
theorem i1_37 : ts_ins 1 37 = some (.aload_n 0, 38, 0) := by decide +kernel
theorem i1_38 : ts_ins 1 38 = some (.bipush 39, 40, 0) := by decide +kernel
theorem i1_40 : ts_ins 1 40 = some (.putfield 24, 43, 0) := by decide +kernel
theorem g1_40 : ts_fmm 1 24 = some (0, 4, 0, false) := by decide +kernel
theorem i1_43 : ts_ins 1 43 = some (.aload_n 0, 44, 0) := by decide +kernel
theorem i1_44 : ts_ins 1 44 = some (.getfield 9, 47, 0) := by decide +kernel
theorem g1_44 : ts_fm 1 9 = some (0, 0, 2) := by decide +kernel
theorem i1_47 : ts_ins 1 47 = some (.aload_n 0, 48, 0) := by decide +kernel
theorem i1_48 : ts_ins 1 48 = some (.getfield 24, 51, 0) := by decide +kernel
theorem g1_48 : ts_fm 1 24 = some (0, 4, 0) := by decide +kernel
theorem i1_51 : ts_ins 1 51 = some (.iload_n 1, 52, 0) := by decide +kernel
theorem i1_52 : ts_ins 1 52 = some (.iastore, 53, 0) := by decide +kernel
theorem i1_53 : ts_ins 1 53 = some (.aload_n 0, 54, 0) := by decide +kernel
theorem i1_54 : ts_ins 1 54 = some (.getfield 15, 57, 0) := by decide +kernel
theorem g1_54 : ts_fm 1 15 = some (0, 1, 2) := by decide +kernel
theorem i1_57 : ts_ins 1 57 = some (.aload_n 0, 58, 0) := by decide +kernel
theorem i1_58 : ts_ins 1 58 = some (.getfield 24, 61, 0) := by decide +kernel
theorem g1_58 : ts_fm 1 24 = some (0, 4, 0) := by decide +kernel
theorem i1_61 : ts_ins 1 61 = some (.iload_n 2, 62, 0) := by decide +kernel
theorem i1_62 : ts_ins 1 62 = some (.iastore, 63, 0) := by decide +kernel
theorem i1_63 : ts_ins 1 63 = some (.aload_n 0, 64, 0) := by decide +kernel
theorem i1_64 : ts_ins 1 64 = some (.getfield 18, 67, 0) := by decide +kernel
theorem g1_64 : ts_fm 1 18 = some (0, 2, 2) := by decide +kernel
theorem i1_67 : ts_ins 1 67 = some (.aload_n 0, 68, 0) := by decide +kernel
theorem i1_68 : ts_ins 1 68 = some (.getfield 24, 71, 0) := by decide +kernel
theorem g1_68 : ts_fm 1 24 = some (0, 4, 0) := by decide +kernel
theorem i1_71 : ts_ins 1 71 = some (.iload_n 3, 72, 0) := by decide +kernel
theorem i1_72 : ts_ins 1 72 = some (.iastore, 73, 0) := by decide +kernel
theorem i1_73 : ts_ins 1 73 = some (.aload_n 0, 74, 0) := by decide +kernel
theorem i1_74 : ts_ins 1 74 = some (.getfield 21, 77, 0) := by decide +kernel
theorem g1_74 : ts_fm 1 21 = some (0, 3, 2) := by decide +kernel
theorem i1_77 : ts_ins 1 77 = some (.aload_n 0, 78, 0) := by decide +kernel
theorem i1_78 : ts_ins 1 78 = some (.getfield 24, 81, 0) := by decide +kernel
theorem g1_78 : ts_fm 1 24 = some (0, 4, 0) := by decide +kernel
theorem i1_81 : ts_ins 1 81 = some (.iload 4, 83, 0) := by decide +kernel
theorem i1_83 : ts_ins 1 83 = some (.iastore, 84, 0) := by decide +kernel
theorem i1_84 : ts_ins 1 84 = some (.aload_n 0, 85, 0) := by decide +kernel
theorem i1_85 : ts_ins 1 85 = some (.dup, 86, 0) := by decide +kernel
theorem i1_86 : ts_ins 1 86 = some (.getfield 24, 89, 0) := by decide +kernel
theorem g1_86 : ts_fm 1 24 = some (0, 4, 0) := by decide +kernel
theorem i1_89 : ts_ins 1 89 = some (.iconst 1, 90, 0) := by decide +kernel
theorem i1_90 : ts_ins 1 90 = some (.iadd, 91, 0) := by decide +kernel
theorem i1_91 : ts_ins 1 91 = some (.putfield 24, 94, 0) := by decide +kernel
theorem g1_91 : ts_fmm 1 24 = some (0, 4, 0, false) := by decide +kernel
theorem i1_94 : ts_ins 1 94 = some (.aload_n 0, 95, 0) := by decide +kernel
theorem i1_95 : ts_ins 1 95 = some (.aload_n 0, 96, 0) := by decide +kernel
theorem i1_96 : ts_ins 1 96 = some (.getfield 24, 99, 0) := by decide +kernel
theorem g1_96 : ts_fm 1 24 = some (0, 4, 0) := by decide +kernel
theorem i1_99 : ts_ins 1 99 = some (.putfield 28, 102, 0) := by decide +kernel
theorem g1_99 : ts_fmm 1 28 = some (0, 5, 0, false) := by decide +kernel
theorem i1_102 : ts_ins 1 102 = some (.return_, 103, 0) := by decide +kernel
theorem r1 : ts_rt 1 = (none, 0, 0) := by decide +kernel
theorem l1 : ts_ml 1 = 5 := by decide +kernel
/-! CHANGES: mend, undo, redo -/
/-- done, all, numbers, whats, befores, afters -/
abbrev ts_Ch : Type := Int × Int × (Int → Int) × (Int → Int) × (Int → Int) × (Int → Int)
abbrev c_done (c : ts_Ch) : Int := c.1
abbrev c_all (c : ts_Ch) : Int := c.2.1
abbrev c_num (c : ts_Ch) : Int → Int := c.2.2.1
abbrev c_wh (c : ts_Ch) : Int → Int := c.2.2.2.1
abbrev c_be (c : ts_Ch) : Int → Int := c.2.2.2.2.1
abbrev c_af (c : ts_Ch) : Int → Int := c.2.2.2.2.2
def RXc (I : Nat → Nat → Int32) (c : ts_Ch) : Prop := rd (I 51 4) 0 40 (c_done c) ∧ rd (I 51 5) 0 40 (c_all c) ∧ ar I 52 40 0 100 (c_num c) ∧ ar I 53 40 0 8 (c_wh c) ∧ ar I 54 40 0 20 (c_be c) ∧ ar I 55 40 0 20 (c_af c)
def RMc (I : Nat → Nat → Int32) (c : ts_Ch) : Prop := rd (I 72 5) 0 40 (c_done c) ∧ rd (I 72 4) 0 40 (c_all c) ∧ ar I 74 40 0 96 (fun k => z_place (c_num c k) (c_wh c k)) ∧ ar I 75 40 0 20 (c_be c) ∧ ar I 76 40 0 20 (c_af c)
def ROc (f : ts_Fl) (c : ts_Ch) : Prop := c_done c ≤ c_all c ∧ ∀ k, 0 ≤ k → k < c_all c → g_names f (c_num c k) (c_wh c k) ∧ (0 ≤ c_be c k ∧ c_be c k ≤ g_most (c_wh c k)) ∧ (0 ≤ c_af c k ∧ c_af c k ≤ g_most (c_wh c k))
/-- the places below K - 1 one on -/
def zsk (g : Int → Int) (K : Int) : Int → Int := fun p => if 0 ≤ p ∧ p < K - 1 then g (p + 1) else g p
theorem zsk_1 (g : Int → Int) : zsk g 1 = g := funext fun p => if_neg (by omega)
theorem zsk_k {g : Int → Int} {K : Int} : zsk g K K = g K := if_neg (by omega)
theorem zsk_s {g : Int → Int} {K : Int} (hK : 1 ≤ K) : zu (zsk g K) (K - 1) (g K) = zsk g (K + 1) := by
  funext p
  unfold zu zsk
  by_cases c : p = K - 1
  · rw [if_pos c, if_pos (by omega), c]
    congr 1
    omega
  · rw [if_neg c]
    by_cases c2 : 0 ≤ p ∧ p < K - 1
    · rw [if_pos c2, if_pos (by omega)]
    · rw [if_neg c2, if_neg (by omega)]
theorem zsk_2 (h : Int → Int → Int) (a b : Int → Int) (K : Int) : (fun p => h (zsk a K p) (zsk b K p)) = zsk (fun p => h (a p) (b p)) K := by
  funext p
  unfold zsk
  split <;> rfl
theorem zu_2 (h : Int → Int → Int) (a b : Int → Int) (k x y : Int) : (fun p => h (zu a k x p) (zu b k y p)) = zu (fun p => h (a p) (b p)) k (h x y) := by
  funext p
  unfold zu
  split <;> rfl
theorem ar_drop {I : Nat → Nat → Int32} {a : Nat} {lo hi : Int} {g : Int → Int} (h : ar I a 40 lo hi g) : ar (ts_cp I a 1 a 0 39) a 40 lo hi (zsk g 40) := by
  intro p h0 h1
  unfold zsk ts_cp
  rw [if_pos rfl]
  by_cases c : p < 39
  · rw [if_pos (by omega), if_pos (by omega)]
    have e := h (p + 1) (by omega) (by omega)
    rw [show (p + 1).toNat = 1 + (p.toNat - 0) from by omega] at e
    exact e
  · rw [if_neg (by omega), if_neg (by omega)]
    exact h p h0 h1
/-- room for one more -/
def c_room (c : ts_Ch) : ts_Ch := if c_done c < 40 then c else (39, c_all c, zsk (c_num c) 40, zsk (c_wh c) 40, zsk (c_be c) 40, zsk (c_af c) 40)
def c_add (c : ts_Ch) (n w b a : Int) : ts_Ch := (c_done (c_room c) + 1, c_done (c_room c) + 1, zu (c_num (c_room c)) (c_done (c_room c)) n, zu (c_wh (c_room c)) (c_done (c_room c)) w, zu (c_be (c_room c)) (c_done (c_room c)) b, zu (c_af (c_room c)) (c_done (c_room c)) a)
theorem c_room_1 {c : ts_Ch} (h : c_done c < 40) : c_room c = c := if_pos h
theorem c_room_2 {c : ts_Ch} (h : ¬ c_done c < 40) : c_room c = (39, c_all c, zsk (c_num c) 40, zsk (c_wh c) 40, zsk (c_be c) 40, zsk (c_af c) 40) := if_neg h
abbrev fch : Nat → Nat → Prop := fun a _ => 51 ≤ a ∧ a ≤ 55
abbrev ffc : Nat → Nat → Prop := fun a k => (2 ≤ a ∧ a ≤ 18 ∧ ¬ (a = 2 ∧ 11 ≤ k)) ∨ (51 ≤ a ∧ a ≤ 55)
abbrev fmc : Nat → Nat → Prop := fun a k => (a = 72 ∧ 4 ≤ k ∧ k ≤ 7) ∨ (73 ≤ a ∧ a ≤ 77)
section CH
variable {X : ts_X} {I J : Nat → Nat → Int32} {L : Nat → Nat → Int64} {sw : Bool} {K : Option Value → ts_H → Prop} {d : Nat} {f : ts_Fl} {c : ts_Ch}
theorem RXc.co (h : RXc I c) (e : ∀ a k, 51 ≤ a → a ≤ 55 → J a k = I a k) : RXc J c := by
  have e2 : ∀ a, 51 ≤ a → a ≤ 55 → J a = I a := fun a h0 h1 => funext fun k => e a k h0 h1
  refine ⟨?_, ?_, ar_co h.2.2.1 (e2 52 (by decide) (by decide)), ar_co h.2.2.2.1 (e2 53 (by decide) (by decide)), ar_co h.2.2.2.2.1 (e2 54 (by decide) (by decide)), ar_co h.2.2.2.2.2 (e2 55 (by decide) (by decide))⟩
  · rw [e2 51 (by decide) (by decide)]; exact h.1
  · rw [e2 51 (by decide) (by decide)]; exact h.2.1
theorem RMc.co (h : RMc I c) (e : ∀ a, 74 ≤ a → a ≤ 76 → J a = I a) (e4 : J 72 4 = I 72 4) (e5 : J 72 5 = I 72 5) : RMc J c := by
  refine ⟨?_, ?_, ar_co h.2.2.1 (e 74 (by decide) (by decide)), ar_co h.2.2.2.1 (e 75 (by decide) (by decide)), ar_co h.2.2.2.2 (e 76 (by decide) (by decide))⟩
  · rw [e5]; exact h.1
  · rw [e4]; exact h.2.1
theorem x_drop {a : Nat} (ha : ts_sA ts_S0 a = some (0, 40)) (hK : K none (ts_cp I a 1 a 0 39, L, ts_P0 sw, ts_S0)) : ts_Cal X (d + 1) 2 [.ref a] (I, L, ts_P0 sw, ts_S0) K := by
  refine ev_enter (lv := [.ref a]) l2 rfl (Nat.le_of_ble_eq_true rfl) ?_
  refine ev_aloadn_0 i2_0 ?_
  refine ew_iconst i2_1 ?_
  refine ev_aloadn_0 i2_2 ?_
  refine ew_iconst i2_3 ?_
  refine ew_bipush i2_4 (by decide) ?_
  refine ew_copyI i2_6 g2_6 ha ha (by omega) (by omega) (by omega) (by omega) (by omega) (Nat.le_of_ble_eq_true rfl) ?_
  refine ev_return i2_9 r2 ?_
  exact hK
theorem x_add (hC : RXc I c) {n w b a : Int} (hn : 0 ≤ n ∧ n ≤ 100) (hw : 0 ≤ w ∧ w ≤ 8) (hb : 0 ≤ b ∧ b ≤ 20) (ha : 0 ≤ a ∧ a ≤ 20) (hK : ∀ J, fr fch I J → RXc J (c_add c n w b a) → K none (J, L, ts_P0 sw, ts_S0)) : ts_Cal X (d + 2) 1 [.ref 51, .int (zI (n)), .int (zI (w)), .int (zI (b)), .int (zI (a))] (I, L, ts_P0 sw, ts_S0) K := by
  have b1 := hC.1.2
  have tail : ∀ J, fr fch I J → RXc J (c_room c) → c_done (c_room c) < 40 → ts_Ev X (ts_Cal X (d + 1)) 1 ts_S0 K 43 [.ref 51, .int (zI (n)), .int (zI (w)), .int (zI (b)), .int (zI (a))] [] (J, L, ts_P0 sw, ts_S0) := by
    intro J hJ hR hlt
    unfold c_add at hK
    have b2 := hR.1.2
    refine ev_aloadn_0 i1_43 ?_
    refine ev_getA i1_44 g1_44 rfl rfl (by decide) ?_
    refine ev_aloadn_0 i1_47 ?_
    refine ew_getI i1_48 g1_48 rfl (by first | exact hR.1 | exact hX.men | exact hX.told | exact hX.road | exact hX.tone _ (by omega) (by omega) | exact hX.corn _ (by omega) (by omega) | exact hX.stand _ (by omega) (by omega) | exact hX.reach _ (by omega) (by omega) | exact hX.arm _ (by omega) (by omega) | exact hX.late _ (by omega) (by omega) | exact hX.len _ (by omega) (by omega) | exact hX.say (by omega) (by omega) _ (by omega) (by omega)) (fun b48 => ?_)
    refine ev_iloadn_1 i1_51 ?_
    refine ew_iastore i1_52 rfl (by omega) (by omega) (by omega) ?_
    refine ev_aloadn_0 i1_53 ?_
    refine ev_getA i1_54 g1_54 rfl rfl (by decide) ?_
    refine ev_aloadn_0 i1_57 ?_
    refine ew_getI i1_58 g1_58 rfl (by first | exact hR.1 | exact hX.men | exact hX.told | exact hX.road | exact hX.tone _ (by omega) (by omega) | exact hX.corn _ (by omega) (by omega) | exact hX.stand _ (by omega) (by omega) | exact hX.reach _ (by omega) (by omega) | exact hX.arm _ (by omega) (by omega) | exact hX.late _ (by omega) (by omega) | exact hX.len _ (by omega) (by omega) | exact hX.say (by omega) (by omega) _ (by omega) (by omega)) (fun b58 => ?_)
    refine ev_iloadn_2 i1_61 ?_
    refine ew_iastore i1_62 rfl (by omega) (by omega) (by omega) ?_
    refine ev_aloadn_0 i1_63 ?_
    refine ev_getA i1_64 g1_64 rfl rfl (by decide) ?_
    refine ev_aloadn_0 i1_67 ?_
    refine ew_getI i1_68 g1_68 rfl (by first | exact hR.1 | exact hX.men | exact hX.told | exact hX.road | exact hX.tone _ (by omega) (by omega) | exact hX.corn _ (by omega) (by omega) | exact hX.stand _ (by omega) (by omega) | exact hX.reach _ (by omega) (by omega) | exact hX.arm _ (by omega) (by omega) | exact hX.late _ (by omega) (by omega) | exact hX.len _ (by omega) (by omega) | exact hX.say (by omega) (by omega) _ (by omega) (by omega)) (fun b68 => ?_)
    refine ev_iloadn_3 i1_71 ?_
    refine ew_iastore i1_72 rfl (by omega) (by omega) (by omega) ?_
    refine ev_aloadn_0 i1_73 ?_
    refine ev_getA i1_74 g1_74 rfl rfl (by decide) ?_
    refine ev_aloadn_0 i1_77 ?_
    refine ew_getI i1_78 g1_78 rfl (by first | exact hR.1 | exact hX.men | exact hX.told | exact hX.road | exact hX.tone _ (by omega) (by omega) | exact hX.corn _ (by omega) (by omega) | exact hX.stand _ (by omega) (by omega) | exact hX.reach _ (by omega) (by omega) | exact hX.arm _ (by omega) (by omega) | exact hX.late _ (by omega) (by omega) | exact hX.len _ (by omega) (by omega) | exact hX.say (by omega) (by omega) _ (by omega) (by omega)) (fun b78 => ?_)
    refine ev_iload_4 i1_81 ?_
    refine ew_iastore i1_83 rfl (by omega) (by omega) (by omega) ?_
    refine ev_aloadn_0 i1_84 ?_
    refine ev_dup i1_85 rfl ?_
    refine ew_getI i1_86 g1_86 rfl (by first | exact hR.1 | exact hX.men | exact hX.told | exact hX.road | exact hX.tone _ (by omega) (by omega) | exact hX.corn _ (by omega) (by omega) | exact hX.stand _ (by omega) (by omega) | exact hX.reach _ (by omega) (by omega) | exact hX.arm _ (by omega) (by omega) | exact hX.late _ (by omega) (by omega) | exact hX.len _ (by omega) (by omega) | exact hX.say (by omega) (by omega) _ (by omega) (by omega)) (fun b86 => ?_)
    refine ew_iconst i1_89 ?_
    refine ew_iadd i1_90 ?_
    refine ev_putI i1_91 g1_91 rfl ?_
    refine ev_aloadn_0 i1_94 ?_
    refine ev_aloadn_0 i1_95 ?_
    refine ew_getI i1_96 g1_96 rfl ((rd_zI (lo := 0) (hi := 40) (v := c_done (c_room c) + 1) (by omega))) (fun b96 => ?_)
    refine ev_putI i1_99 g1_99 rfl ?_
    refine ev_return i1_102 r1 ?_
    refine hK _ (fr_tr hJ (by repeat' (first | exact fr_rfl _ _ | refine fr_up ?_ (by omega)))) ⟨rd_zI (by omega), rd_zI (by omega), ar_up hR.2.2.1 b2.1 hn, ar_up hR.2.2.2.1 b2.1 hw, ar_up hR.2.2.2.2.1 b2.1 hb, ar_up hR.2.2.2.2.2 b2.1 ha⟩
  refine ev_enter (lv := [.ref 51, .int (zI (n)), .int (zI (w)), .int (zI (b)), .int (zI (a))]) l1 rfl (Nat.le_of_ble_eq_true rfl) ?_
  refine ev_aloadn_0 i1_0 ?_
  refine ew_getI i1_1 g1_1 rfl (by first | exact hC.1 | exact hX.men | exact hX.told | exact hX.road | exact hX.tone _ (by omega) (by omega) | exact hX.corn _ (by omega) (by omega) | exact hX.stand _ (by omega) (by omega) | exact hX.reach _ (by omega) (by omega) | exact hX.arm _ (by omega) (by omega) | exact hX.late _ (by omega) (by omega) | exact hX.len _ (by omega) (by omega) | exact hX.say (by omega) (by omega) _ (by omega) (by omega)) (fun b1 => ?_)
  refine ew_bipush i1_4 (by decide) ?_
  refine ew_icmplt i1_6 (by omega) (fun c6 => ?_) (fun c6 => ?_)
  · first
    | exact tail _ (fr_rfl _ _) (by rw [c_room_1 c6]; exact hC) (by rw [c_room_1 c6]; exact c6)
    | (refine tail _ (fr_up (fr_cp (fr_cp (fr_cp (fr_cp (fr_rfl _ _) (fun k => by omega)) (fun k => by omega)) (fun k => by omega)) (fun k => by omega)) (by omega)) ?_ (by rw [c_room_2 c6]; exact (by decide : (39 : Int) < 40))
       rw [c_room_2 c6]
       exact ⟨rd_zI (by decide), hC.2.1, ar_drop hC.2.2.1, ar_drop hC.2.2.2.1, ar_drop hC.2.2.2.2.1, ar_drop hC.2.2.2.2.2⟩)
  · refine ev_aloadn_0 i1_9 ?_
    refine ev_getA i1_10 g1_10 rfl rfl (by decide) ?_
    refine ev_stat1 i1_13 g1_13 (by decide +kernel) (Nat.le_of_ble_eq_true rfl) (x_drop rfl ?_)
    refine ev_aloadn_0 i1_16 ?_
    refine ev_getA i1_17 g1_17 rfl rfl (by decide) ?_
    refine ev_stat1 i1_20 g1_20 (by decide +kernel) (Nat.le_of_ble_eq_true rfl) (x_drop rfl ?_)
    refine ev_aloadn_0 i1_23 ?_
    refine ev_getA i1_24 g1_24 rfl rfl (by decide) ?_
    refine ev_stat1 i1_27 g1_27 (by decide +kernel) (Nat.le_of_ble_eq_true rfl) (x_drop rfl ?_)
    refine ev_aloadn_0 i1_30 ?_
    refine ev_getA i1_31 g1_31 rfl rfl (by decide) ?_
    refine ev_stat1 i1_34 g1_34 (by decide +kernel) (Nat.le_of_ble_eq_true rfl) (x_drop rfl ?_)
    refine ev_aloadn_0 i1_37 ?_
    refine ew_bipush i1_38 (by decide) ?_
    refine ev_putI i1_40 g1_40 rfl ?_
    first
    | exact tail _ (fr_rfl _ _) (by rw [c_room_1 c6]; exact hC) (by rw [c_room_1 c6]; exact c6)
    | (refine tail _ (fr_up (fr_cp (fr_cp (fr_cp (fr_cp (fr_rfl _ _) (fun k => by omega)) (fun k => by omega)) (fun k => by omega)) (fun k => by omega)) (by omega)) ?_ (by rw [c_room_2 c6]; exact (by decide : (39 : Int) < 40))
       rw [c_room_2 c6]
       exact ⟨rd_zI (by decide), hC.2.1, ar_drop hC.2.2.1, ar_drop hC.2.2.2.1, ar_drop hC.2.2.2.2.1, ar_drop hC.2.2.2.2.2⟩)
end CH
