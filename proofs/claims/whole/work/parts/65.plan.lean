theorem i29_0 : ts_ins 29 0 = some (.iconst 0, 1, 0) := by decide +kernel
theorem i29_1 : ts_ins 29 1 = some (.istore_n 1, 2, 0) := by decide +kernel
theorem i29_2 : ts_ins 29 2 = some (.iconst 0, 3, 0) := by decide +kernel
theorem i29_3 : ts_ins 29 3 = some (.istore_n 2, 4, 0) := by decide +kernel
theorem i29_4 : ts_ins 29 4 = some (.iload_n 2, 5, 0) := by decide +kernel
theorem i29_5 : ts_ins 29 5 = some (.bipush 16, 7, 0) := by decide +kernel
theorem i29_7 : ts_ins 29 7 = some (.if_icmp .ge 18, 10, 25) := by decide +kernel
theorem i29_10 : ts_ins 29 10 = some (.iload_n 1, 11, 0) := by decide +kernel
theorem i29_11 : ts_ins 29 11 = some (.aload_n 0, 12, 0) := by decide +kernel
theorem i29_12 : ts_ins 29 12 = some (.getfield 15, 15, 0) := by decide +kernel
theorem g29_12 : ts_fm 29 15 = some (3, 1, 2) := by decide +kernel
theorem i29_15 : ts_ins 29 15 = some (.iload_n 2, 16, 0) := by decide +kernel
theorem i29_16 : ts_ins 29 16 = some (.iaload, 17, 0) := by decide +kernel
theorem i29_17 : ts_ins 29 17 = some (.iadd, 18, 0) := by decide +kernel
theorem i29_18 : ts_ins 29 18 = some (.istore_n 1, 19, 0) := by decide +kernel
theorem i29_19 : ts_ins 29 19 = some (.iinc 2 1, 22, 0) := by decide +kernel
theorem i29_22 : ts_ins 29 22 = some (.goto (-18), 25, 4) := by decide +kernel
theorem i29_25 : ts_ins 29 25 = some (.iload_n 1, 26, 0) := by decide +kernel
theorem i29_26 : ts_ins 29 26 = some (.ireturn, 27, 0) := by decide +kernel
theorem r29 : ts_rt 29 = ((some .int), 0, 0) := by decide +kernel
theorem l29 : ts_ml 29 = 3 := by decide +kernel
theorem i52_0 : ts_ins 52 0 = some (.aload_n 0, 1, 0) := by decide +kernel
theorem i52_1 : ts_ins 52 1 = some (.getfield 31, 4, 0) := by decide +kernel
theorem g52_1 : ts_fm 52 31 = some (6, 0, 2) := by decide +kernel
theorem i52_4 : ts_ins 52 4 = some (.iload_n 1, 5, 0) := by decide +kernel
theorem i52_5 : ts_ins 52 5 = some (.aload_n 0, 6, 0) := by decide +kernel
theorem i52_6 : ts_ins 52 6 = some (.getfield 31, 9, 0) := by decide +kernel
theorem g52_6 : ts_fm 52 31 = some (6, 0, 2) := by decide +kernel
theorem i52_9 : ts_ins 52 9 = some (.getfield 75, 12, 0) := by decide +kernel
theorem g52_9 : ts_fm 52 75 = some (3, 0, 2) := by decide +kernel
theorem i52_12 : ts_ins 52 12 = some (.iload_n 2, 13, 0) := by decide +kernel
theorem i52_13 : ts_ins 52 13 = some (.iaload, 14, 0) := by decide +kernel
theorem i52_14 : ts_ins 52 14 = some (.aload_n 0, 15, 0) := by decide +kernel
theorem i52_15 : ts_ins 52 15 = some (.getfield 9, 18, 0) := by decide +kernel
theorem g52_15 : ts_fm 52 9 = some (6, 1, 2) := by decide +kernel
theorem i52_18 : ts_ins 52 18 = some (.iload_n 2, 19, 0) := by decide +kernel
theorem i52_19 : ts_ins 52 19 = some (.iaload, 20, 0) := by decide +kernel
theorem i52_20 : ts_ins 52 20 = some (.iload_n 3, 21, 0) := by decide +kernel
theorem i52_21 : ts_ins 52 21 = some (.invokevirtual 78, 24, 0) := by decide +kernel
theorem g52_21 : ts_cal (ts_mc 52) 78 = some (0, 30, 4) := by decide +kernel
theorem i52_24 : ts_ins 52 24 = some (.istore 4, 26, 0) := by decide +kernel
theorem i52_26 : ts_ins 52 26 = some (.aload_n 0, 27, 0) := by decide +kernel
theorem i52_27 : ts_ins 52 27 = some (.getfield 9, 30, 0) := by decide +kernel
theorem g52_27 : ts_fm 52 9 = some (6, 1, 2) := by decide +kernel
theorem i52_30 : ts_ins 52 30 = some (.iload_n 2, 31, 0) := by decide +kernel
theorem i52_31 : ts_ins 52 31 = some (.iaload, 32, 0) := by decide +kernel
theorem i52_32 : ts_ins 52 32 = some (.ifCond .le 23, 35, 55) := by decide +kernel
theorem i52_35 : ts_ins 52 35 = some (.aload_n 0, 36, 0) := by decide +kernel
theorem i52_36 : ts_ins 52 36 = some (.getfield 9, 39, 0) := by decide +kernel
theorem g52_36 : ts_fm 52 9 = some (6, 1, 2) := by decide +kernel
theorem i52_39 : ts_ins 52 39 = some (.iload_n 2, 40, 0) := by decide +kernel
theorem i52_40 : ts_ins 52 40 = some (.dup2, 41, 0) := by decide +kernel
theorem i52_41 : ts_ins 52 41 = some (.iaload, 42, 0) := by decide +kernel
theorem i52_42 : ts_ins 52 42 = some (.iconst 1, 43, 0) := by decide +kernel
theorem i52_43 : ts_ins 52 43 = some (.isub, 44, 0) := by decide +kernel
theorem i52_44 : ts_ins 52 44 = some (.iastore, 45, 0) := by decide +kernel
theorem i52_45 : ts_ins 52 45 = some (.aload_n 0, 46, 0) := by decide +kernel
theorem i52_46 : ts_ins 52 46 = some (.dup, 47, 0) := by decide +kernel
theorem i52_47 : ts_ins 52 47 = some (.getfield 25, 50, 0) := by decide +kernel
theorem g52_47 : ts_fm 52 25 = some (6, 5, 0) := by decide +kernel
theorem i52_50 : ts_ins 52 50 = some (.iconst 1, 51, 0) := by decide +kernel
theorem i52_51 : ts_ins 52 51 = some (.isub, 52, 0) := by decide +kernel
theorem i52_52 : ts_ins 52 52 = some (.putfield 25, 55, 0) := by decide +kernel
theorem g52_52 : ts_fmm 52 25 = some (6, 5, 0, false) := by decide +kernel
theorem i52_55 : ts_ins 52 55 = some (.iload 4, 57, 0) := by decide +kernel
theorem i52_57 : ts_ins 52 57 = some (.ifCond .le 15, 60, 72) := by decide +kernel
theorem i52_60 : ts_ins 52 60 = some (.aload_n 0, 61, 0) := by decide +kernel
theorem i52_61 : ts_ins 52 61 = some (.getfield 31, 64, 0) := by decide +kernel
theorem g52_61 : ts_fm 52 31 = some (6, 0, 2) := by decide +kernel
theorem i52_64 : ts_ins 52 64 = some (.getfield 75, 67, 0) := by decide +kernel
theorem g52_64 : ts_fm 52 75 = some (3, 0, 2) := by decide +kernel
theorem i52_67 : ts_ins 52 67 = some (.iload_n 2, 68, 0) := by decide +kernel
theorem i52_68 : ts_ins 52 68 = some (.iaload, 69, 0) := by decide +kernel
theorem i52_69 : ts_ins 52 69 = some (.goto 5, 72, 74) := by decide +kernel
theorem i52_72 : ts_ins 52 72 = some (.bipush (-2), 74, 0) := by decide +kernel
theorem i52_74 : ts_ins 52 74 = some (.ireturn, 75, 0) := by decide +kernel
theorem r52 : ts_rt 52 = ((some .int), 0, 0) := by decide +kernel
theorem l52 : ts_ml 52 = 5 := by decide +kernel
/-! PLANS: the class -/
/-- corn behind n beats -/
def pcn (f : ts_Fl) (it : Int → Int) : Nat → (Int → Int)
  | 0 => f_corn f
  | n + 1 => if it n = 16 then pcn f it n else cm (pcn f it n) (it n)
def g_hd (f : ts_Fl) (w : ts_Lw) (it : Int → Int) (b : Int) : Int := if it b = 16 then -2 else if 0 < g_ld w (f_tone f (it b)) (pcn f it b.toNat (it b)) (f_road f) (b % f_men f) (f_arm f (b % f_men f)) (b % 4) then f_tone f (it b) else -2
abbrev g_pok (f : ts_Fl) (it : Int → Int) (b : Int) : Prop := 0 < f_men f ∧ (it b = 16 ∨ (0 ≤ it b ∧ it b < 16 ∧ f_can f (b % f_men f) (it b)))
def g_pm (s : ts_Sh) (x : Int) : Int := if s.2.1 x < 40 then s.2.1 x else 40
def g_pb (s : ts_Sh) (f : ts_Fl) (x : Int) : Int := zfd (g_pm s x) (fun b => ¬ g_pok f (s.2.2 x) b) (g_pm s x) 0
/-- how many beats are heard, of the first n -/
def g_ph (f : ts_Fl) (w : ts_Lw) (it : Int → Int) (n : Int) : Int := zsum (fun b => if g_hd f w it b = -2 then 0 else 1) n.toNat
def g_pc (f : ts_Fl) (it : Int → Int) (n : Int) : Int := zsum (pcn f it n.toNat) 16
/-- the first of 0 .. n behind which there is no corn -/
def g_pt (f : ts_Fl) (it : Int → Int) (n : Int) : Int := zfd (n + 1) (fun b => g_pc f it b = 0) (-2) 0
abbrev g_swh (f : ts_Fl) (w : ts_Lw) (it : Int → Int) (t b : Int) : Prop := zall (fun k => g_hd f w it (b - f_len f t + 1 + k) = f_say f t k) (f_len f t).toNat = true
def g_wh (f : ts_Fl) (w : ts_Lw) (it : Int → Int) (n t : Int) : Int := zfd n (g_swh f w it t) (-2) (f_len f t - 1)
abbrev fpx : Nat → Nat → Prop := fun a k => (a = 37 ∧ 3 ≤ k) ∨ a = 38 ∨ a = 39 ∨ a = 22 ∨ a = 23 ∨ a = 29 ∨ a = 30
def RXp (I : Nat → Nat → Int32) (f : ts_Fl) (w : ts_Lw) (it : Int → Int) (n : Int) : Prop := rd (I 37 3) 0 40 n ∧ rd (I 37 4) 0 40 (g_ph f w it n) ∧ rd (I 37 5) 0 144 (g_pc f it n) ∧ rd (I 37 6) (-2) 40 (g_pt f it n) ∧ ar I 38 16 0 9 (pcn f it n.toNat) ∧ ar I 39 n (-2) 7 (g_hd f w it)
theorem zsum_cm {c : Int → Int} {p : Int} (h0 : 0 ≤ p) (h1 : p < 16) : zsum (cm c p) 16 = zsum c 16 - tk c p := by
  have e := zsq_cm (Q := fun _ => (0 : Int) = 0) (c := c) h0 h1
  unfold zsq at e
  rw [if_pos rfl] at e
  rw [show zsum (cm c p) 16 = zsum (fun q => if (0 : Int) = 0 then cm c p q else 0) 16 from zsum_e 16 (fun k k0 k1 => (if_pos rfl).symm), e, show zsum (fun q => if (0 : Int) = 0 then c q else 0) 16 = zsum c 16 from zsum_e 16 (fun k k0 k1 => if_pos rfl)]
theorem pcn_s {f : ts_Fl} {it : Int → Int} {b : Int} (h : 0 ≤ b) : pcn f it (b + 1).toNat = if it b = 16 then pcn f it b.toNat else cm (pcn f it b.toNat) (it b) := by
  obtain ⟨n, rfl⟩ : ∃ n : Nat, b = n := ⟨b.toNat, by omega⟩
  rfl
theorem g_pt_s {f : ts_Fl} {it : Int → Int} {n : Int} (h : 0 ≤ n) : g_pt f it (n + 1) = if g_pt f it n = -2 then (if g_pc f it (n + 1) = 0 then n + 1 else -2) else g_pt f it n := by
  unfold g_pt
  have key : ∀ i : Int, 0 ≤ i → i ≤ n + 1 → zfd (n + 1 + 1) (fun b => g_pc f it b = 0) (-2) i = if zfd (n + 1) (fun b => g_pc f it b = 0) (-2) i = -2 then (if g_pc f it (n + 1) = 0 then n + 1 else -2) else zfd (n + 1) (fun b => g_pc f it b = 0) (-2) i := by
    refine ts_ind (n + 1) (fun i ih i0 i1 => ?_)
    by_cases c : i < n + 1
    · rw [zfd_1 (by omega), zfd_1 c]
      by_cases q : g_pc f it i = 0
      · rw [if_pos q, if_pos q, if_neg (by omega)]
      · rw [if_neg q, if_neg q]
        exact ih c (by omega) (by omega)
    · obtain rfl : i = n + 1 := by omega
      rw [zfd_1 (by omega), zfd_0 (n := n + 1) (by omega), if_pos rfl]
      by_cases q : g_pc f it (n + 1) = 0
      · rw [if_pos q, if_pos q]
      · rw [if_neg q, if_neg q, zfd_0 (by omega)]
  exact key 0 (by decide) (by omega)
theorem g_pt_r {f : ts_Fl} {it : Int → Int} (n : Int) : g_pt f it n = -2 ∨ (0 ≤ g_pt f it n ∧ g_pt f it n ≤ n) := by
  rcases zfd_is (n := n + 1) (e := -2) (g := fun b => g_pc f it b = 0) 0 with q | q
  · exact Or.inl q
  · exact Or.inr ⟨q.1, by have := q.2.1; unfold g_pt; omega⟩
section PL
variable {X : ts_X} {I J : Nat → Nat → Int32} {L : Nat → Nat → Int64} {sw : Bool} {K : Option Value → ts_H → Prop} {d : Nat} {f : ts_Fl} {w : ts_Lw} {s : ts_Sh} {it c : Int → Int} {n : Int} {q : Nat}
theorem RX.fpx (h : RX I f) (e : fr fpx I J) : RX J f := h.co (fun a p0 p1 => fr_row e (fun k => by omega))
theorem RXw.fpx (h : RXw I sw w) (e : fr fpx I J) : RXw J sw w := h.co (e 2 12 (by omega)) (fun a p => fr_row e (fun k => by omega))
theorem x_cornOfAll (hX : RX I f) (hK : 0 ≤ zsum (f_corn f) 16 → zsum (f_corn f) 16 ≤ 144 → K (some (.int (zI (zsum (f_corn f) 16)))) (I, L, ts_P0 sw, ts_S0)) : ts_Cal X (d + 1) 29 [.ref 2] (I, L, ts_P0 sw, ts_S0) K := by
  have hb := zsum_b (g := f_corn f) (lo := 0) (hi := 9) (N := 16) (fun p p0 p1 => (hX.corn p p0 p1).2) 16 (by decide)
  have loop : ∀ p : Int, 0 ≤ p → p ≤ 16 → ts_Ev X (ts_Cal X (d + 0)) 29 ts_S0 K 4 [.ref 2, .int (zI (zsum (f_corn f) p.toNat)), .int (zI (p))] [] (I, L, ts_P0 sw, ts_S0) := by
    refine ts_ind 16 (fun p ih h0 h1 => ?_)
    refine ev_iloadn_2 i29_4 ?_
    refine ew_bipush i29_5 (by decide) ?_
    refine ew_icmpge i29_7 (by omega) (fun c7 => ?_) (fun c7 => ?_)
    · refine ev_iloadn_1 i29_25 ?_
      refine ev_ireturn i29_26 r29 ?_
      obtain rfl : p = 16 := by omega
      exact hK (by omega) (by omega)
    · refine ev_iloadn_1 i29_10 ?_
      refine ev_aloadn_0 i29_11 ?_
      refine ev_getA i29_12 g29_12 rfl rfl (by decide) ?_
      refine ev_iloadn_2 i29_15 ?_
      refine ew_iaload i29_16 rfl (by omega) (by omega) (by omega) ((hX.corn p h0 (by omega))) (fun b16 => ?_)
      refine ew_iadd i29_17 ?_
      refine ev_istoren_1 i29_18 rfl ?_
      refine ew_iinc_2 i29_19 rfl ?_
      refine ev_goto i29_22 ?_
      have e := ih (by omega) (by omega) (by omega)
      rw [zsum_s h0] at e
      exact e
  refine ev_enter (lv := [.ref 2, .null, .null]) l29 rfl (Nat.le_of_ble_eq_true rfl) ?_
  refine ew_iconst i29_0 ?_
  refine ev_istoren_1 i29_1 rfl ?_
  refine ew_iconst i29_2 ?_
  refine ev_istoren_2 i29_3 rfl ?_
  exact loop 0 (by decide) (by decide)
theorem x_toneHeard (hX : RX I f) (hW : RXw I sw w) (hO : ROw w) (hc : ar I 38 16 0 9 c) (hl : rd (I 37 5) 0 144 (zsum c 16)) {m p b : Int} (hm : 0 ≤ m ∧ m < f_men f) (hp : 0 ≤ p ∧ p < 16) (hb : 0 ≤ b ∧ b ≤ 100) (hK : ∀ J, fr fpx I J → J 39 = I 39 → J 37 3 = I 37 3 → J 37 4 = I 37 4 → J 37 6 = I 37 6 → ar J 38 16 0 9 (cm c p) → rd (J 37 5) 0 144 (zsum (cm c p) 16) → K (some (.int (zI (if 0 < g_ld w (f_tone f p) (c p) (f_road f) m (f_arm f m) (b % 4) then f_tone f p else -2)))) (J, L, ts_P0 sw, ts_S0)) : ts_Cal X (d + 4) 52 [.ref 37, .int (zI (m)), .int (zI (p)), .int (zI (b))] (I, L, ts_P0 sw, ts_S0) K := by
  have bc := (hc p hp.1 hp.2).2
  have bt := (hX.tone p hp.1 hp.2).2
  have gl := g_ld_r w (f_tone f p) (c p) (f_road f) m (f_arm f m) (b % 4)
  have ct : tk c p = if 0 < c p then 1 else 0 := rfl
  have zs := zsum_cm (c := c) hp.1 hp.2
  have zq : 0 < c p → 0 < zsum c 16 := fun h => (zsum_pos (g := c) 16 (fun k k0 k1 => (hc k k0 k1).2.1)).2.mpr ⟨p, hp.1, hp.2, h⟩
  have hl2 := hl.2
  refine ev_enter (lv := [.ref 37, .int (zI (m)), .int (zI (p)), .int (zI (b)), .null]) l52 rfl (Nat.le_of_ble_eq_true rfl) ?_
  refine ev_aloadn_0 i52_0 ?_
  refine ev_getA i52_1 g52_1 rfl rfl (by decide) ?_
  refine ev_iloadn_1 i52_4 ?_
  refine ev_aloadn_0 i52_5 ?_
  refine ev_getA i52_6 g52_6 rfl rfl (by decide) ?_
  refine ev_getA i52_9 g52_9 rfl rfl (by decide) ?_
  refine ev_iloadn_2 i52_12 ?_
  refine ew_iaload i52_13 rfl (by omega) (by omega) (by omega) (by first | exact hc p hp.1 hp.2 | exact hX.men | exact hX.told | exact hX.road | exact hX.tone _ (by omega) (by omega) | exact hX.corn _ (by omega) (by omega) | exact hX.stand _ (by omega) (by omega) | exact hX.reach _ (by omega) (by omega) | exact hX.arm _ (by omega) (by omega) | exact hX.late _ (by omega) (by omega) | exact hX.len _ (by omega) (by omega) | exact hX.say (by omega) (by omega) _ (by omega) (by omega)) (fun b13 => ?_)
  refine ev_aloadn_0 i52_14 ?_
  refine ev_getA i52_15 g52_15 rfl rfl (by decide) ?_
  refine ev_iloadn_2 i52_18 ?_
  refine ew_iaload i52_19 rfl (by omega) (by omega) (by omega) (by first | exact hc p hp.1 hp.2 | exact hX.men | exact hX.told | exact hX.road | exact hX.tone _ (by omega) (by omega) | exact hX.corn _ (by omega) (by omega) | exact hX.stand _ (by omega) (by omega) | exact hX.reach _ (by omega) (by omega) | exact hX.arm _ (by omega) (by omega) | exact hX.late _ (by omega) (by omega) | exact hX.len _ (by omega) (by omega) | exact hX.say (by omega) (by omega) _ (by omega) (by omega)) (fun b19 => ?_)
  refine ev_iloadn_3 i52_20 ?_
  refine ev_virt4 i52_21 g52_21 rfl (by decide +kernel) (Nat.le_of_ble_eq_true rfl) (x_loudness hX hW hO hm bt bc (by omega) (fun J h1 => ?_))
  have hcJ : ar J 38 16 0 9 c := ar_co hc (fr_row h1 (fun k => by omega))
  have hXJ : RX J f := hX.co (fun a p0 p1 => fr_row h1 (fun k => by omega))
  have hlJ : rd (J 37 5) 0 144 (zsum c 16) := by rw [h1 37 5 (by omega)]; exact hl
  refine ev_istore_4 i52_24 rfl ?_
  refine ev_aloadn_0 i52_26 ?_
  refine ev_getA i52_27 g52_27 rfl rfl (by decide) ?_
  refine ev_iloadn_2 i52_30 ?_
  refine ew_iaload i52_31 rfl (by omega) (by omega) (by omega) ((hcJ p hp.1 hp.2)) (fun b31 => ?_)
  refine ew_ifle i52_32 (by omega) (fun c32 => ?_) (fun c32 => ?_)
  · refine ev_iload_4 i52_55 ?_
    refine ew_ifle i52_57 (by omega) (fun c57 => ?_) (fun c57 => ?_)
    · refine ew_bipush i52_72 (by decide) ?_
      refine ev_ireturn i52_74 r52 ?_
      by_cases hz : 0 < c p
      · first
        | (exfalso; omega)
        | (have e1 : c p - 1 = c p - tk c p := by omega
           have e2 : zsum c 16 - 1 = zsum (cm c p) 16 := by omega
           have zc : 0 < zsum c 16 := zq hz
           rw [e1, e2]
           have s1 := ar_up hcJ hp.1 (v := c p - tk c p) (by omega)
           have e3 := hK (ts_up (ts_up J 38 p.toNat (zI (c p - tk c p))) 37 5 (zI (zsum (cm c p) 16))) (fr_up (fr_up (fr_mo h1 (fun a k q => by omega)) (by omega)) (by omega)) (fr_row (a := 39) h1 (fun k => by omega)) (h1 37 3 (by omega)) (h1 37 4 (by omega)) (h1 37 6 (by omega)) (ar_co s1 rfl) (rd_zI (by omega))
           exact zK e3 (by omega))
      · first
        | (exfalso; omega)
        | (have e4 : cm c p = c := cm_0 hz
           rw [e4] at hK
           have e3 := hK J (fr_mo h1 (fun a k q => by omega)) (fr_row h1 (fun k => by omega)) (h1 37 3 (by omega)) (h1 37 4 (by omega)) (h1 37 6 (by omega)) hcJ hlJ
           exact zK e3 (by omega))
    · refine ev_aloadn_0 i52_60 ?_
      refine ev_getA i52_61 g52_61 rfl rfl (by decide) ?_
      refine ev_getA i52_64 g52_64 rfl rfl (by decide) ?_
      refine ev_iloadn_2 i52_67 ?_
      refine ew_iaload i52_68 rfl (by omega) (by omega) (by omega) ((hXJ.tone p hp.1 hp.2)) (fun b68 => ?_)
      refine ev_goto i52_69 ?_
      refine ev_ireturn i52_74 r52 ?_
      by_cases hz : 0 < c p
      · first
        | (exfalso; omega)
        | (have e1 : c p - 1 = c p - tk c p := by omega
           have e2 : zsum c 16 - 1 = zsum (cm c p) 16 := by omega
           have zc : 0 < zsum c 16 := zq hz
           rw [e1, e2]
           have s1 := ar_up hcJ hp.1 (v := c p - tk c p) (by omega)
           have e3 := hK (ts_up (ts_up J 38 p.toNat (zI (c p - tk c p))) 37 5 (zI (zsum (cm c p) 16))) (fr_up (fr_up (fr_mo h1 (fun a k q => by omega)) (by omega)) (by omega)) (fr_row (a := 39) h1 (fun k => by omega)) (h1 37 3 (by omega)) (h1 37 4 (by omega)) (h1 37 6 (by omega)) (ar_co s1 rfl) (rd_zI (by omega))
           exact zK e3 (by omega))
      · first
        | (exfalso; omega)
        | (have e4 : cm c p = c := cm_0 hz
           rw [e4] at hK
           have e3 := hK J (fr_mo h1 (fun a k q => by omega)) (fr_row h1 (fun k => by omega)) (h1 37 3 (by omega)) (h1 37 4 (by omega)) (h1 37 6 (by omega)) hcJ hlJ
           exact zK e3 (by omega))
  · refine ev_aloadn_0 i52_35 ?_
    refine ev_getA i52_36 g52_36 rfl rfl (by decide) ?_
    refine ev_iloadn_2 i52_39 ?_
    refine ev_dup2 i52_40 ?_
    refine ew_iaload i52_41 rfl (by omega) (by omega) (by omega) ((hcJ p hp.1 hp.2)) (fun b41 => ?_)
    refine ew_iconst i52_42 ?_
    refine ew_isub i52_43 ?_
    refine ew_iastore i52_44 rfl (by omega) (by omega) (by omega) ?_
    refine ev_aloadn_0 i52_45 ?_
    refine ev_dup i52_46 rfl ?_
    refine ew_getI i52_47 g52_47 rfl (hlJ) (fun b47 => ?_)
    refine ew_iconst i52_50 ?_
    refine ew_isub i52_51 ?_
    refine ev_putI i52_52 g52_52 rfl ?_
    refine ev_iload_4 i52_55 ?_
    refine ew_ifle i52_57 (by omega) (fun c57 => ?_) (fun c57 => ?_)
    · refine ew_bipush i52_72 (by decide) ?_
      refine ev_ireturn i52_74 r52 ?_
      by_cases hz : 0 < c p
      · first
        | (exfalso; omega)
        | (have e1 : c p - 1 = c p - tk c p := by omega
           have e2 : zsum c 16 - 1 = zsum (cm c p) 16 := by omega
           have zc : 0 < zsum c 16 := zq hz
           rw [e1, e2]
           have s1 := ar_up hcJ hp.1 (v := c p - tk c p) (by omega)
           have e3 := hK (ts_up (ts_up J 38 p.toNat (zI (c p - tk c p))) 37 5 (zI (zsum (cm c p) 16))) (fr_up (fr_up (fr_mo h1 (fun a k q => by omega)) (by omega)) (by omega)) (fr_row (a := 39) h1 (fun k => by omega)) (h1 37 3 (by omega)) (h1 37 4 (by omega)) (h1 37 6 (by omega)) (ar_co s1 rfl) (rd_zI (by omega))
           exact zK e3 (by omega))
      · first
        | (exfalso; omega)
        | (have e4 : cm c p = c := cm_0 hz
           rw [e4] at hK
           have e3 := hK J (fr_mo h1 (fun a k q => by omega)) (fr_row h1 (fun k => by omega)) (h1 37 3 (by omega)) (h1 37 4 (by omega)) (h1 37 6 (by omega)) hcJ hlJ
           exact zK e3 (by omega))
    · refine ev_aloadn_0 i52_60 ?_
      refine ev_getA i52_61 g52_61 rfl rfl (by decide) ?_
      refine ev_getA i52_64 g52_64 rfl rfl (by decide) ?_
      refine ev_iloadn_2 i52_67 ?_
      refine ew_iaload i52_68 rfl (by omega) (by omega) (by omega) ((hXJ.tone p hp.1 hp.2)) (fun b68 => ?_)
      refine ev_goto i52_69 ?_
      refine ev_ireturn i52_74 r52 ?_
      by_cases hz : 0 < c p
      · first
        | (exfalso; omega)
        | (have e1 : c p - 1 = c p - tk c p := by omega
           have e2 : zsum c 16 - 1 = zsum (cm c p) 16 := by omega
           have zc : 0 < zsum c 16 := zq hz
           rw [e1, e2]
           have s1 := ar_up hcJ hp.1 (v := c p - tk c p) (by omega)
           have e3 := hK (ts_up (ts_up J 38 p.toNat (zI (c p - tk c p))) 37 5 (zI (zsum (cm c p) 16))) (fr_up (fr_up (fr_mo h1 (fun a k q => by omega)) (by omega)) (by omega)) (fr_row (a := 39) h1 (fun k => by omega)) (h1 37 3 (by omega)) (h1 37 4 (by omega)) (h1 37 6 (by omega)) (ar_co s1 rfl) (rd_zI (by omega))
           exact zK e3 (by omega))
      · first
        | (exfalso; omega)
        | (have e4 : cm c p = c := cm_0 hz
           rw [e4] at hK
           have e3 := hK J (fr_mo h1 (fun a k q => by omega)) (fr_row h1 (fun k => by omega)) (h1 37 3 (by omega)) (h1 37 4 (by omega)) (h1 37 6 (by omega)) hcJ hlJ
           exact zK e3 (by omega))
end PL
