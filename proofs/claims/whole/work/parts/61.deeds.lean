theorem i4_0 : ts_ins 4 0 = some (.aload_n 0, 1, 0) := by decide +kernel
theorem i4_1 : ts_ins 4 1 = some (.getfield 9, 4, 0) := by decide +kernel
theorem g4_1 : ts_fm 4 9 = some (1, 0, 2) := by decide +kernel
theorem i4_4 : ts_ins 4 4 = some (.iconst 0, 5, 0) := by decide +kernel
theorem i4_5 : ts_ins 4 5 = some (.dup2, 6, 0) := by decide +kernel
theorem i4_6 : ts_ins 4 6 = some (.iaload, 7, 0) := by decide +kernel
theorem i4_7 : ts_ins 4 7 = some (.iconst 1, 8, 0) := by decide +kernel
theorem i4_8 : ts_ins 4 8 = some (.iadd, 9, 0) := by decide +kernel
theorem i4_9 : ts_ins 4 9 = some (.iastore, 10, 0) := by decide +kernel
theorem i4_10 : ts_ins 4 10 = some (.aload_n 0, 11, 0) := by decide +kernel
theorem i4_11 : ts_ins 4 11 = some (.getfield 13, 14, 0) := by decide +kernel
theorem g4_11 : ts_fm 4 13 = some (1, 1, 2) := by decide +kernel
theorem i4_14 : ts_ins 4 14 = some (.iconst 0, 15, 0) := by decide +kernel
theorem i4_15 : ts_ins 4 15 = some (.aload_n 0, 16, 0) := by decide +kernel
theorem i4_16 : ts_ins 4 16 = some (.getfield 13, 19, 0) := by decide +kernel
theorem g4_16 : ts_fm 4 13 = some (1, 1, 2) := by decide +kernel
theorem i4_19 : ts_ins 4 19 = some (.iconst 1, 20, 0) := by decide +kernel
theorem i4_20 : ts_ins 4 20 = some (.iconst 5, 21, 0) := by decide +kernel
theorem i4_21 : ts_ins 4 21 = some (.invokestatic 16, 24, 0) := by decide +kernel
theorem g4_21 : ts_cal (ts_mc 4) 16 = some (9, 0, 5) := by decide +kernel
theorem i4_24 : ts_ins 4 24 = some (.aload_n 0, 25, 0) := by decide +kernel
theorem i4_25 : ts_ins 4 25 = some (.getfield 13, 28, 0) := by decide +kernel
theorem g4_25 : ts_fm 4 13 = some (1, 1, 2) := by decide +kernel
theorem i4_28 : ts_ins 4 28 = some (.iconst 0, 29, 0) := by decide +kernel
theorem i4_29 : ts_ins 4 29 = some (.iload_n 1, 30, 0) := by decide +kernel
theorem i4_30 : ts_ins 4 30 = some (.iastore, 31, 0) := by decide +kernel
theorem i4_31 : ts_ins 4 31 = some (.return_, 32, 0) := by decide +kernel
theorem r4 : ts_rt 4 = (none, 0, 0) := by decide +kernel
theorem l4 : ts_ml 4 = 2 := by decide +kernel
theorem i5_0 : ts_ins 5 0 = some (.aload_n 0, 1, 0) := by decide +kernel
theorem i5_1 : ts_ins 5 1 = some (.iload_n 1, 2, 0) := by decide +kernel
theorem i5_2 : ts_ins 5 2 = some (.ifCond .eq 7, 5, 9) := by decide +kernel
theorem i5_5 : ts_ins 5 5 = some (.iload_n 2, 6, 0) := by decide +kernel
theorem i5_6 : ts_ins 5 6 = some (.goto 5, 9, 11) := by decide +kernel
theorem i5_9 : ts_ins 5 9 = some (.bipush 8, 11, 0) := by decide +kernel
theorem i5_11 : ts_ins 5 11 = some (.invokevirtual 22, 14, 0) := by decide +kernel
theorem g5_11 : ts_cal (ts_mc 5) 22 = some (0, 4, 1) := by decide +kernel
theorem i5_14 : ts_ins 5 14 = some (.aload_n 0, 15, 0) := by decide +kernel
theorem i5_15 : ts_ins 5 15 = some (.getfield 9, 18, 0) := by decide +kernel
theorem g5_15 : ts_fm 5 9 = some (1, 0, 2) := by decide +kernel
theorem i5_18 : ts_ins 5 18 = some (.iconst 1, 19, 0) := by decide +kernel
theorem i5_19 : ts_ins 5 19 = some (.dup2, 20, 0) := by decide +kernel
theorem i5_20 : ts_ins 5 20 = some (.iaload, 21, 0) := by decide +kernel
theorem i5_21 : ts_ins 5 21 = some (.iconst 1, 22, 0) := by decide +kernel
theorem i5_22 : ts_ins 5 22 = some (.iadd, 23, 0) := by decide +kernel
theorem i5_23 : ts_ins 5 23 = some (.iastore, 24, 0) := by decide +kernel
theorem i5_24 : ts_ins 5 24 = some (.aload_n 0, 25, 0) := by decide +kernel
theorem i5_25 : ts_ins 5 25 = some (.getfield 9, 28, 0) := by decide +kernel
theorem g5_25 : ts_fm 5 9 = some (1, 0, 2) := by decide +kernel
theorem i5_28 : ts_ins 5 28 = some (.iconst 2, 29, 0) := by decide +kernel
theorem i5_29 : ts_ins 5 29 = some (.dup2, 30, 0) := by decide +kernel
theorem i5_30 : ts_ins 5 30 = some (.iaload, 31, 0) := by decide +kernel
theorem i5_31 : ts_ins 5 31 = some (.iload_n 1, 32, 0) := by decide +kernel
theorem i5_32 : ts_ins 5 32 = some (.ifCond .eq 7, 35, 39) := by decide +kernel
theorem i5_35 : ts_ins 5 35 = some (.iconst 1, 36, 0) := by decide +kernel
theorem i5_36 : ts_ins 5 36 = some (.goto 4, 39, 40) := by decide +kernel
theorem i5_39 : ts_ins 5 39 = some (.iconst 0, 40, 0) := by decide +kernel
theorem i5_40 : ts_ins 5 40 = some (.iadd, 41, 0) := by decide +kernel
theorem i5_41 : ts_ins 5 41 = some (.iastore, 42, 0) := by decide +kernel
theorem i5_42 : ts_ins 5 42 = some (.aload_n 0, 43, 0) := by decide +kernel
theorem i5_43 : ts_ins 5 43 = some (.getfield 9, 46, 0) := by decide +kernel
theorem g5_43 : ts_fm 5 9 = some (1, 0, 2) := by decide +kernel
theorem i5_46 : ts_ins 5 46 = some (.iconst 3, 47, 0) := by decide +kernel
theorem i5_47 : ts_ins 5 47 = some (.dup2, 48, 0) := by decide +kernel
theorem i5_48 : ts_ins 5 48 = some (.iaload, 49, 0) := by decide +kernel
theorem i5_49 : ts_ins 5 49 = some (.iload_n 3, 50, 0) := by decide +kernel
theorem i5_50 : ts_ins 5 50 = some (.ifCond .eq 7, 53, 57) := by decide +kernel
theorem i5_53 : ts_ins 5 53 = some (.iconst 1, 54, 0) := by decide +kernel
theorem i5_54 : ts_ins 5 54 = some (.goto 4, 57, 58) := by decide +kernel
theorem i5_57 : ts_ins 5 57 = some (.iconst 0, 58, 0) := by decide +kernel
theorem i5_58 : ts_ins 5 58 = some (.iadd, 59, 0) := by decide +kernel
theorem i5_59 : ts_ins 5 59 = some (.iastore, 60, 0) := by decide +kernel
theorem i5_60 : ts_ins 5 60 = some (.return_, 61, 0) := by decide +kernel
theorem r5 : ts_rt 5 = (none, 0, 0) := by decide +kernel
theorem l5 : ts_ml 5 = 4 := by decide +kernel
/-! DEEDS -/
/-- beats, strokes, heard, taken, sown; the latest tones -/
abbrev ts_De : Type := (Int → Int) × (Int → Int)
/-- 1: there is an image; corn, and what led tells -/
abbrev ts_Im : Type := Int × (Int → Int) × ts_De
def RXd (I : Nat → Nat → Int32) (B : Int) (e : ts_De) : Prop := ar I 45 5 0 B e.1 ∧ ar I 46 6 0 8 e.2
def RMd (I : Nat → Nat → Int32) (B : Int) (e : ts_De) : Prop := ar I 86 5 0 B e.1 ∧ ar I 87 6 0 8 e.2
def RXi (I : Nat → Nat → Int32) (B : Int) (i : ts_Im) : Prop := rd (I 1 9) 0 1 i.1 ∧ ar I 50 16 0 9 i.2.1 ∧ ar I 48 5 0 B i.2.2.1 ∧ ar I 49 6 0 8 i.2.2.2
def RMi (I : Nat → Nat → Int32) (B : Int) (i : ts_Im) : Prop := rd (I 72 28) 0 1 i.1 ∧ ar I 88 16 0 9 i.2.1 ∧ ar I 89 5 0 B i.2.2.1 ∧ ar I 90 6 0 8 i.2.2.2
/-- one on, the newest first -/
def zold (g : Int → Int) (v : Int) : Int → Int := fun k => if k = 0 then v else g (k - 1)
def d_beat (e : ts_De) (v : Int) : ts_De := (zu e.1 0 (e.1 0 + 1), zold e.2 v)
def d_stroke (e : ts_De) (h t k : Int) : ts_De := (zu (zu (zu (zu e.1 0 (e.1 0 + 1)) 1 (e.1 1 + 1)) 2 (e.1 2 + h)) 3 (e.1 3 + k), zold e.2 (if h = 1 then t else 8))
abbrev fdx : Nat → Nat → Prop := fun a _ => a = 45 ∨ a = 46
abbrev fdm : Nat → Nat → Prop := fun a _ => a = 86 ∨ a = 87
theorem ar_hi {I : Nat → Nat → Int32} {a : Nat} {n lo hi hi2 : Int} {g : Int → Int} (h : ar I a n lo hi g) (hh : hi ≤ hi2) : ar I a n lo hi2 g := fun p p0 p1 => ⟨(h p p0 p1).1, (h p p0 p1).2.1, Int.le_trans (h p p0 p1).2.2 hh⟩
theorem RXd.up {I : Nat → Nat → Int32} {B : Int} {e : ts_De} (h : RXd I B e) : RXd I (B + 1) e := ⟨ar_hi h.1 (by omega), h.2⟩
theorem RMd.up {I : Nat → Nat → Int32} {B : Int} {e : ts_De} (h : RMd I B e) : RMd I (B + 1) e := ⟨ar_hi h.1 (by omega), h.2⟩
theorem RXi.up {I : Nat → Nat → Int32} {B : Int} {e : ts_Im} (h : RXi I B e) : RXi I (B + 1) e := ⟨h.1, h.2.1, ar_hi h.2.2.1 (by omega), h.2.2.2⟩
theorem RMi.up {I : Nat → Nat → Int32} {B : Int} {e : ts_Im} (h : RMi I B e) : RMi I (B + 1) e := ⟨h.1, h.2.1, ar_hi h.2.2.1 (by omega), h.2.2.2⟩
section DE
variable {X : ts_X} {I J : Nat → Nat → Int32} {L : Nat → Nat → Int64} {sw : Bool} {K : Option Value → ts_H → Prop} {d : Nat} {f : ts_Fl} {w : ts_Lw} {e : ts_De} {im : ts_Im} {B : Int}
theorem RXd.co (h : RXd I B e) (q : ∀ a, 45 ≤ a → a ≤ 46 → J a = I a) : RXd J B e := ⟨ar_co h.1 (q 45 (by decide) (by decide)), ar_co h.2 (q 46 (by decide) (by decide))⟩
theorem RMd.co (h : RMd I B e) (q : ∀ a, 86 ≤ a → a ≤ 87 → J a = I a) : RMd J B e := ⟨ar_co h.1 (q 86 (by decide) (by decide)), ar_co h.2 (q 87 (by decide) (by decide))⟩
theorem RXi.co (h : RXi I B im) (q0 : J 1 9 = I 1 9) (q : ∀ a, 48 ≤ a → a ≤ 50 → J a = I a) : RXi J B im := ⟨by rw [q0]; exact h.1, ar_co h.2.1 (q 50 (by decide) (by decide)), ar_co h.2.2.1 (q 48 (by decide) (by decide)), ar_co h.2.2.2 (q 49 (by decide) (by decide))⟩
theorem RMi.co (h : RMi I B im) (q0 : J 72 28 = I 72 28) (q : ∀ a, 88 ≤ a → a ≤ 90 → J a = I a) : RMi J B im := ⟨by rw [q0]; exact h.1, ar_co h.2.1 (q 88 (by decide) (by decide)), ar_co h.2.2.1 (q 89 (by decide) (by decide)), ar_co h.2.2.2 (q 90 (by decide) (by decide))⟩
theorem ar_old {I : Nat → Nat → Int32} {a : Nat} {g : Int → Int} (h : ar I a 6 0 8 g) {v : Int} (hv : 0 ≤ v ∧ v ≤ 8) : ar (ts_up (ts_cp I a 0 a 1 5) a 0 (zI v)) a 6 0 8 (zold g v) := by
  intro p p0 p1
  unfold zold
  by_cases c : p = 0
  · subst c
    rw [if_pos rfl]
    exact ⟨by show ts_up (ts_cp I a 0 a 1 5) a 0 (zI v) a 0 = zI v; exact ts_up_e _ _ _ _, hv⟩
  · rw [if_neg c, ts_up_nj (by omega)]
    have q := h (p - 1) (by omega) (by omega)
    unfold ts_cp
    rw [if_pos rfl, if_pos (by omega)]
    rw [show (p - 1).toNat = 0 + (p.toNat - 1) from by omega] at q
    exact q
theorem x_addBeat (hD : RXd I B e) (hB : B ≤ 1000) {v : Int} (hv : 0 ≤ v ∧ v ≤ 8) (hK : ∀ J, fr fdx I J → RXd J (B + 1) (d_beat e v) → K none (J, L, ts_P0 sw, ts_S0)) : ts_Cal X (d + 1) 4 [.ref 44, .int (zI (v))] (I, L, ts_P0 sw, ts_S0) K := by
  have b0 := (hD.1 0 (by decide) (by decide)).2
  refine ev_enter (lv := [.ref 44, .int (zI (v))]) l4 rfl (Nat.le_of_ble_eq_true rfl) ?_
  refine ev_aloadn_0 i4_0 ?_
  refine ev_getA i4_1 g4_1 rfl rfl (by decide) ?_
  refine ew_iconst i4_4 ?_
  refine ev_dup2 i4_5 ?_
  refine ew_iaload i4_6 rfl (by omega) (by omega) (by omega) (by first | exact hD.1 0 (by decide) (by decide) | exact hX.men | exact hX.told | exact hX.road | exact hX.tone _ (by omega) (by omega) | exact hX.corn _ (by omega) (by omega) | exact hX.stand _ (by omega) (by omega) | exact hX.reach _ (by omega) (by omega) | exact hX.arm _ (by omega) (by omega) | exact hX.late _ (by omega) (by omega) | exact hX.len _ (by omega) (by omega) | exact hX.say (by omega) (by omega) _ (by omega) (by omega)) (fun b6 => ?_)
  refine ew_iconst i4_7 ?_
  refine ew_iadd i4_8 ?_
  refine ew_iastore i4_9 rfl (by omega) (by omega) (by omega) ?_
  refine ev_aloadn_0 i4_10 ?_
  refine ev_getA i4_11 g4_11 rfl rfl (by decide) ?_
  refine ew_iconst i4_14 ?_
  refine ev_aloadn_0 i4_15 ?_
  refine ev_getA i4_16 g4_16 rfl rfl (by decide) ?_
  refine ew_iconst i4_19 ?_
  refine ew_iconst i4_20 ?_
  refine ew_copyI i4_21 g4_21 rfl rfl (by omega) (by omega) (by omega) (by omega) (by omega) (Nat.le_of_ble_eq_true rfl) ?_
  refine ev_aloadn_0 i4_24 ?_
  refine ev_getA i4_25 g4_25 rfl rfl (by decide) ?_
  refine ew_iconst i4_28 ?_
  refine ev_iloadn_1 i4_29 ?_
  refine ew_iastore i4_30 rfl (by omega) (by omega) (by omega) ?_
  refine ev_return i4_31 r4 ?_
  exact hK _ (fr_up (fr_cp (fr_up (fr_rfl _ _) (by omega)) (fun k => by omega)) (by omega)) ⟨ar_co (ar_up hD.up.1 (p := 0) (by decide) (v := e.1 0 + 1) (by omega)) rfl, ar_old hD.2 hv⟩
theorem x_addStroke (hD : RXd I B e) (hB : B ≤ 1000) {h t k : Int} (hh : 0 ≤ h ∧ h ≤ 1) (ht : 0 ≤ t ∧ t ≤ 7) (hk : 0 ≤ k ∧ k ≤ 1) (hK : ∀ J, fr fdx I J → RXd J (B + 1) (d_stroke e h t k) → K none (J, L, ts_P0 sw, ts_S0)) : ts_Cal X (d + 2) 5 [.ref 44, .int (zI (h)), .int (zI (t)), .int (zI (k))] (I, L, ts_P0 sw, ts_S0) K := by
  have b1 := (hD.1 1 (by decide) (by decide)).2
  have b2 := (hD.1 2 (by decide) (by decide)).2
  have b3 := (hD.1 3 (by decide) (by decide)).2
  have go : ∀ v : Int, v = (if h = 1 then t else 8) → ts_Ev X (ts_Cal X (d + 1)) 5 ts_S0 K 11 [.ref 44, .int (zI (h)), .int (zI (t)), .int (zI (k))] [.int (zI (v)), .ref 44] (I, L, ts_P0 sw, ts_S0) := by
    intro v hv
    refine ev_virt1 i5_11 g5_11 rfl (by decide +kernel) (Nat.le_of_ble_eq_true rfl) (x_addBeat hD hB (by omega) (fun J h1 h2 => ?_))
    refine ev_aloadn_0 i5_14 ?_
    refine ev_getA i5_15 g5_15 rfl rfl (by decide) ?_
    refine ew_iconst i5_18 ?_
    refine ev_dup2 i5_19 ?_
    refine ew_iaload i5_20 rfl (by omega) (by omega) (by omega) ((by have q := h2.1 1 (by decide) (by decide); rw [show (d_beat e v).1 1 = e.1 1 from rfl] at q; exact q)) (fun b20 => ?_)
    refine ew_iconst i5_21 ?_
    refine ew_iadd i5_22 ?_
    refine ew_iastore i5_23 rfl (by omega) (by omega) (by omega) ?_
    refine ev_aloadn_0 i5_24 ?_
    refine ev_getA i5_25 g5_25 rfl rfl (by decide) ?_
    refine ew_iconst i5_28 ?_
    refine ev_dup2 i5_29 ?_
    refine ew_iaload i5_30 rfl (by omega) (by omega) (by omega) ((by have q := h2.1 2 (by decide) (by decide); rw [show (d_beat e v).1 2 = e.1 2 from rfl] at q; exact q)) (fun b30 => ?_)
    refine ev_iloadn_1 i5_31 ?_
    first
    | refine ew_ifeqB i5_32 (fun c32 => ?_) (fun c32 => ?_)
    | refine ew_ifeq i5_32 (by omega) (fun c32 => ?_) (fun c32 => ?_)
    · refine ew_iconst i5_39 ?_
      refine ew_iadd i5_40 ?_
      refine ew_iastore i5_41 rfl (by omega) (by omega) (by omega) ?_
      refine ev_aloadn_0 i5_42 ?_
      refine ev_getA i5_43 g5_43 rfl rfl (by decide) ?_
      refine ew_iconst i5_46 ?_
      refine ev_dup2 i5_47 ?_
      refine ew_iaload i5_48 rfl (by omega) (by omega) (by omega) ((by have q := h2.1 3 (by decide) (by decide); rw [show (d_beat e v).1 3 = e.1 3 from rfl] at q; exact q)) (fun b48 => ?_)
      refine ev_iloadn_3 i5_49 ?_
      first
      | refine ew_ifeqB i5_50 (fun c50 => ?_) (fun c50 => ?_)
      | refine ew_ifeq i5_50 (by omega) (fun c50 => ?_) (fun c50 => ?_)
      · refine ew_iconst i5_57 ?_
        refine ew_iadd i5_58 ?_
        refine ew_iastore i5_59 rfl (by omega) (by omega) (by omega) ?_
        refine ev_return i5_60 r5 ?_
        have s1 := ar_up (ar_up (ar_up h2.1 (p := 1) (by decide) (v := e.1 1 + 1) (by omega)) (p := 2) (by decide) (v := e.1 2 + h) (by omega)) (p := 3) (by decide) (v := e.1 3 + k) (by omega)
        have s2 : RXd _ (B + 1) (d_stroke e h t k) := ⟨s1, by rw [show (d_stroke e h t k).2 = (d_beat e v).2 from by rw [hv]; rfl]; exact ar_co h2.2 rfl⟩
        first
        | (rw [show k = 1 from by omega, show h = 1 from by omega] at s2
           rw [show k = 1 from by omega, show h = 1 from by omega] at hK
           exact hK _ (fr_tr h1 (by repeat' (first | exact fr_rfl _ _ | refine fr_up ?_ (by omega)))) s2)
        | (rw [show k = 1 from by omega, show h = 0 from by omega] at s2
           rw [show k = 1 from by omega, show h = 0 from by omega] at hK
           exact hK _ (fr_tr h1 (by repeat' (first | exact fr_rfl _ _ | refine fr_up ?_ (by omega)))) s2)
        | (rw [show k = 0 from by omega, show h = 1 from by omega] at s2
           rw [show k = 0 from by omega, show h = 1 from by omega] at hK
           exact hK _ (fr_tr h1 (by repeat' (first | exact fr_rfl _ _ | refine fr_up ?_ (by omega)))) s2)
        | (rw [show k = 0 from by omega, show h = 0 from by omega] at s2
           rw [show k = 0 from by omega, show h = 0 from by omega] at hK
           exact hK _ (fr_tr h1 (by repeat' (first | exact fr_rfl _ _ | refine fr_up ?_ (by omega)))) s2)
      · refine ew_iconst i5_53 ?_
        refine ev_goto i5_54 ?_
        refine ew_iadd i5_58 ?_
        refine ew_iastore i5_59 rfl (by omega) (by omega) (by omega) ?_
        refine ev_return i5_60 r5 ?_
        have s1 := ar_up (ar_up (ar_up h2.1 (p := 1) (by decide) (v := e.1 1 + 1) (by omega)) (p := 2) (by decide) (v := e.1 2 + h) (by omega)) (p := 3) (by decide) (v := e.1 3 + k) (by omega)
        have s2 : RXd _ (B + 1) (d_stroke e h t k) := ⟨s1, by rw [show (d_stroke e h t k).2 = (d_beat e v).2 from by rw [hv]; rfl]; exact ar_co h2.2 rfl⟩
        first
        | (rw [show k = 1 from by omega, show h = 1 from by omega] at s2
           rw [show k = 1 from by omega, show h = 1 from by omega] at hK
           exact hK _ (fr_tr h1 (by repeat' (first | exact fr_rfl _ _ | refine fr_up ?_ (by omega)))) s2)
        | (rw [show k = 1 from by omega, show h = 0 from by omega] at s2
           rw [show k = 1 from by omega, show h = 0 from by omega] at hK
           exact hK _ (fr_tr h1 (by repeat' (first | exact fr_rfl _ _ | refine fr_up ?_ (by omega)))) s2)
        | (rw [show k = 0 from by omega, show h = 1 from by omega] at s2
           rw [show k = 0 from by omega, show h = 1 from by omega] at hK
           exact hK _ (fr_tr h1 (by repeat' (first | exact fr_rfl _ _ | refine fr_up ?_ (by omega)))) s2)
        | (rw [show k = 0 from by omega, show h = 0 from by omega] at s2
           rw [show k = 0 from by omega, show h = 0 from by omega] at hK
           exact hK _ (fr_tr h1 (by repeat' (first | exact fr_rfl _ _ | refine fr_up ?_ (by omega)))) s2)
    · refine ew_iconst i5_35 ?_
      refine ev_goto i5_36 ?_
      refine ew_iadd i5_40 ?_
      refine ew_iastore i5_41 rfl (by omega) (by omega) (by omega) ?_
      refine ev_aloadn_0 i5_42 ?_
      refine ev_getA i5_43 g5_43 rfl rfl (by decide) ?_
      refine ew_iconst i5_46 ?_
      refine ev_dup2 i5_47 ?_
      refine ew_iaload i5_48 rfl (by omega) (by omega) (by omega) ((by have q := h2.1 3 (by decide) (by decide); rw [show (d_beat e v).1 3 = e.1 3 from rfl] at q; exact q)) (fun b48 => ?_)
      refine ev_iloadn_3 i5_49 ?_
      first
      | refine ew_ifeqB i5_50 (fun c50 => ?_) (fun c50 => ?_)
      | refine ew_ifeq i5_50 (by omega) (fun c50 => ?_) (fun c50 => ?_)
      · refine ew_iconst i5_57 ?_
        refine ew_iadd i5_58 ?_
        refine ew_iastore i5_59 rfl (by omega) (by omega) (by omega) ?_
        refine ev_return i5_60 r5 ?_
        have s1 := ar_up (ar_up (ar_up h2.1 (p := 1) (by decide) (v := e.1 1 + 1) (by omega)) (p := 2) (by decide) (v := e.1 2 + h) (by omega)) (p := 3) (by decide) (v := e.1 3 + k) (by omega)
        have s2 : RXd _ (B + 1) (d_stroke e h t k) := ⟨s1, by rw [show (d_stroke e h t k).2 = (d_beat e v).2 from by rw [hv]; rfl]; exact ar_co h2.2 rfl⟩
        first
        | (rw [show k = 1 from by omega, show h = 1 from by omega] at s2
           rw [show k = 1 from by omega, show h = 1 from by omega] at hK
           exact hK _ (fr_tr h1 (by repeat' (first | exact fr_rfl _ _ | refine fr_up ?_ (by omega)))) s2)
        | (rw [show k = 1 from by omega, show h = 0 from by omega] at s2
           rw [show k = 1 from by omega, show h = 0 from by omega] at hK
           exact hK _ (fr_tr h1 (by repeat' (first | exact fr_rfl _ _ | refine fr_up ?_ (by omega)))) s2)
        | (rw [show k = 0 from by omega, show h = 1 from by omega] at s2
           rw [show k = 0 from by omega, show h = 1 from by omega] at hK
           exact hK _ (fr_tr h1 (by repeat' (first | exact fr_rfl _ _ | refine fr_up ?_ (by omega)))) s2)
        | (rw [show k = 0 from by omega, show h = 0 from by omega] at s2
           rw [show k = 0 from by omega, show h = 0 from by omega] at hK
           exact hK _ (fr_tr h1 (by repeat' (first | exact fr_rfl _ _ | refine fr_up ?_ (by omega)))) s2)
      · refine ew_iconst i5_53 ?_
        refine ev_goto i5_54 ?_
        refine ew_iadd i5_58 ?_
        refine ew_iastore i5_59 rfl (by omega) (by omega) (by omega) ?_
        refine ev_return i5_60 r5 ?_
        have s1 := ar_up (ar_up (ar_up h2.1 (p := 1) (by decide) (v := e.1 1 + 1) (by omega)) (p := 2) (by decide) (v := e.1 2 + h) (by omega)) (p := 3) (by decide) (v := e.1 3 + k) (by omega)
        have s2 : RXd _ (B + 1) (d_stroke e h t k) := ⟨s1, by rw [show (d_stroke e h t k).2 = (d_beat e v).2 from by rw [hv]; rfl]; exact ar_co h2.2 rfl⟩
        first
        | (rw [show k = 1 from by omega, show h = 1 from by omega] at s2
           rw [show k = 1 from by omega, show h = 1 from by omega] at hK
           exact hK _ (fr_tr h1 (by repeat' (first | exact fr_rfl _ _ | refine fr_up ?_ (by omega)))) s2)
        | (rw [show k = 1 from by omega, show h = 0 from by omega] at s2
           rw [show k = 1 from by omega, show h = 0 from by omega] at hK
           exact hK _ (fr_tr h1 (by repeat' (first | exact fr_rfl _ _ | refine fr_up ?_ (by omega)))) s2)
        | (rw [show k = 0 from by omega, show h = 1 from by omega] at s2
           rw [show k = 0 from by omega, show h = 1 from by omega] at hK
           exact hK _ (fr_tr h1 (by repeat' (first | exact fr_rfl _ _ | refine fr_up ?_ (by omega)))) s2)
        | (rw [show k = 0 from by omega, show h = 0 from by omega] at s2
           rw [show k = 0 from by omega, show h = 0 from by omega] at hK
           exact hK _ (fr_tr h1 (by repeat' (first | exact fr_rfl _ _ | refine fr_up ?_ (by omega)))) s2)
  refine ev_enter (lv := [.ref 44, .int (zI (h)), .int (zI (t)), .int (zI (k))]) l5 rfl (Nat.le_of_ble_eq_true rfl) ?_
  refine ev_aloadn_0 i5_0 ?_
  refine ev_iloadn_1 i5_1 ?_
  first
  | refine ew_ifeqB i5_2 (fun c2 => ?_) (fun c2 => ?_)
  | refine ew_ifeq i5_2 (by omega) (fun c2 => ?_) (fun c2 => ?_)
  · refine ew_bipush i5_9 (by decide) ?_
    exact go _ (by omega)
  · refine ev_iloadn_2 i5_5 ?_
    refine ev_goto i5_6 ?_
    exact go _ (by omega)
end DE
