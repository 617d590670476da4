theorem i209_0 : ts_ins 209 0 = some (.iload_n 3, 1, 0) := by decide +kernel
theorem i209_1 : ts_ins 209 1 = some (.iload 4, 3, 0) := by decide +kernel
theorem i209_3 : ts_ins 209 3 = some (.if_icmp .ne 5, 6, 8) := by decide +kernel
theorem i209_6 : ts_ins 209 6 = some (.iconst 0, 7, 0) := by decide +kernel
theorem i209_7 : ts_ins 209 7 = some (.ireturn, 8, 0) := by decide +kernel
theorem i209_8 : ts_ins 209 8 = some (.iload_n 3, 9, 0) := by decide +kernel
theorem i209_9 : ts_ins 209 9 = some (.iconst 2, 10, 0) := by decide +kernel
theorem i209_10 : ts_ins 209 10 = some (.irem, 11, 0) := by decide +kernel
theorem i209_11 : ts_ins 209 11 = some (.ifCond .ne 7, 14, 18) := by decide +kernel
theorem i209_14 : ts_ins 209 14 = some (.iload_n 1, 15, 0) := by decide +kernel
theorem i209_15 : ts_ins 209 15 = some (.goto 4, 18, 19) := by decide +kernel
theorem i209_18 : ts_ins 209 18 = some (.iload_n 2, 19, 0) := by decide +kernel
theorem i209_19 : ts_ins 209 19 = some (.istore 5, 21, 0) := by decide +kernel
theorem i209_21 : ts_ins 209 21 = some (.aload_n 0, 22, 0) := by decide +kernel
theorem i209_22 : ts_ins 209 22 = some (.iload_n 1, 23, 0) := by decide +kernel
theorem i209_23 : ts_ins 209 23 = some (.iload_n 2, 24, 0) := by decide +kernel
theorem i209_24 : ts_ins 209 24 = some (.iload_n 3, 25, 0) := by decide +kernel
theorem i209_25 : ts_ins 209 25 = some (.iconst 1, 26, 0) := by decide +kernel
theorem i209_26 : ts_ins 209 26 = some (.iadd, 27, 0) := by decide +kernel
theorem i209_27 : ts_ins 209 27 = some (.iload 4, 29, 0) := by decide +kernel
theorem i209_29 : ts_ins 209 29 = some (.invokevirtual 280, 32, 0) := by decide +kernel
theorem g209_29 : ts_cal (ts_mc 209) 280 = some (0, 209, 4) := by decide +kernel
theorem i209_32 : ts_ins 209 32 = some (.istore 6, 34, 0) := by decide +kernel
theorem i209_34 : ts_ins 209 34 = some (.iconst 0, 35, 0) := by decide +kernel
theorem i209_35 : ts_ins 209 35 = some (.istore 7, 37, 0) := by decide +kernel
theorem i209_37 : ts_ins 209 37 = some (.iload 7, 39, 0) := by decide +kernel
theorem i209_39 : ts_ins 209 39 = some (.bipush 16, 41, 0) := by decide +kernel
theorem i209_41 : ts_ins 209 41 = some (.if_icmp .ge 128, 44, 169) := by decide +kernel
theorem i209_44 : ts_ins 209 44 = some (.aload_n 0, 45, 0) := by decide +kernel
theorem i209_45 : ts_ins 209 45 = some (.iload 5, 47, 0) := by decide +kernel
theorem i209_47 : ts_ins 209 47 = some (.iload 7, 49, 0) := by decide +kernel
theorem i209_49 : ts_ins 209 49 = some (.invokevirtual 201, 52, 0) := by decide +kernel
theorem g209_49 : ts_cal (ts_mc 209) 201 = some (0, 173, 2) := by decide +kernel
theorem i209_52 : ts_ins 209 52 = some (.ifCond .eq 111, 55, 163) := by decide +kernel
theorem i209_55 : ts_ins 209 55 = some (.aload_n 0, 56, 0) := by decide +kernel
theorem i209_56 : ts_ins 209 56 = some (.getfield 34, 59, 0) := by decide +kernel
theorem g209_56 : ts_fm 209 34 = some (12, 19, 2) := by decide +kernel
theorem i209_59 : ts_ins 209 59 = some (.iload 7, 61, 0) := by decide +kernel
theorem i209_61 : ts_ins 209 61 = some (.iaload, 62, 0) := by decide +kernel
theorem i209_62 : ts_ins 209 62 = some (.ifCond .le 7, 65, 69) := by decide +kernel
theorem i209_65 : ts_ins 209 65 = some (.iconst 1, 66, 0) := by decide +kernel
theorem i209_66 : ts_ins 209 66 = some (.goto 4, 69, 70) := by decide +kernel
theorem i209_69 : ts_ins 209 69 = some (.iconst 0, 70, 0) := by decide +kernel
theorem i209_70 : ts_ins 209 70 = some (.istore 8, 72, 0) := by decide +kernel
theorem i209_72 : ts_ins 209 72 = some (.aload_n 0, 73, 0) := by decide +kernel
theorem i209_73 : ts_ins 209 73 = some (.getfield 34, 76, 0) := by decide +kernel
theorem g209_73 : ts_fm 209 34 = some (12, 19, 2) := by decide +kernel
theorem i209_76 : ts_ins 209 76 = some (.iload 7, 78, 0) := by decide +kernel
theorem i209_78 : ts_ins 209 78 = some (.dup2, 79, 0) := by decide +kernel
theorem i209_79 : ts_ins 209 79 = some (.iaload, 80, 0) := by decide +kernel
theorem i209_80 : ts_ins 209 80 = some (.iload 8, 82, 0) := by decide +kernel
theorem i209_82 : ts_ins 209 82 = some (.isub, 83, 0) := by decide +kernel
theorem i209_83 : ts_ins 209 83 = some (.iastore, 84, 0) := by decide +kernel
theorem i209_84 : ts_ins 209 84 = some (.aload_n 0, 85, 0) := by decide +kernel
theorem i209_85 : ts_ins 209 85 = some (.iload_n 1, 86, 0) := by decide +kernel
theorem i209_86 : ts_ins 209 86 = some (.iload_n 2, 87, 0) := by decide +kernel
theorem i209_87 : ts_ins 209 87 = some (.iload_n 3, 88, 0) := by decide +kernel
theorem i209_88 : ts_ins 209 88 = some (.iconst 1, 89, 0) := by decide +kernel
theorem i209_89 : ts_ins 209 89 = some (.iadd, 90, 0) := by decide +kernel
theorem i209_90 : ts_ins 209 90 = some (.iload 4, 92, 0) := by decide +kernel
theorem i209_92 : ts_ins 209 92 = some (.invokevirtual 280, 95, 0) := by decide +kernel
theorem g209_92 : ts_cal (ts_mc 209) 280 = some (0, 209, 4) := by decide +kernel
theorem i209_95 : ts_ins 209 95 = some (.iload_n 3, 96, 0) := by decide +kernel
theorem i209_96 : ts_ins 209 96 = some (.iconst 2, 97, 0) := by decide +kernel
theorem i209_97 : ts_ins 209 97 = some (.irem, 98, 0) := by decide +kernel
theorem i209_98 : ts_ins 209 98 = some (.ifCond .ne 8, 101, 106) := by decide +kernel
theorem i209_101 : ts_ins 209 101 = some (.iload 8, 103, 0) := by decide +kernel
theorem i209_103 : ts_ins 209 103 = some (.goto 6, 106, 109) := by decide +kernel
theorem i209_106 : ts_ins 209 106 = some (.iload 8, 108, 0) := by decide +kernel
theorem i209_108 : ts_ins 209 108 = some (.ineg, 109, 0) := by decide +kernel
theorem i209_109 : ts_ins 209 109 = some (.iadd, 110, 0) := by decide +kernel
theorem i209_110 : ts_ins 209 110 = some (.istore 9, 112, 0) := by decide +kernel
theorem i209_112 : ts_ins 209 112 = some (.aload_n 0, 113, 0) := by decide +kernel
theorem i209_113 : ts_ins 209 113 = some (.getfield 34, 116, 0) := by decide +kernel
theorem g209_113 : ts_fm 209 34 = some (12, 19, 2) := by decide +kernel
theorem i209_116 : ts_ins 209 116 = some (.iload 7, 118, 0) := by decide +kernel
theorem i209_118 : ts_ins 209 118 = some (.dup2, 119, 0) := by decide +kernel
theorem i209_119 : ts_ins 209 119 = some (.iaload, 120, 0) := by decide +kernel
theorem i209_120 : ts_ins 209 120 = some (.iload 8, 122, 0) := by decide +kernel
theorem i209_122 : ts_ins 209 122 = some (.iadd, 123, 0) := by decide +kernel
theorem i209_123 : ts_ins 209 123 = some (.iastore, 124, 0) := by decide +kernel
theorem i209_124 : ts_ins 209 124 = some (.iload_n 3, 125, 0) := by decide +kernel
theorem i209_125 : ts_ins 209 125 = some (.iconst 2, 126, 0) := by decide +kernel
theorem i209_126 : ts_ins 209 126 = some (.irem, 127, 0) := by decide +kernel
theorem i209_127 : ts_ins 209 127 = some (.ifCond .ne 20, 130, 147) := by decide +kernel
theorem i209_130 : ts_ins 209 130 = some (.iload 9, 132, 0) := by decide +kernel
theorem i209_132 : ts_ins 209 132 = some (.iload 6, 134, 0) := by decide +kernel
theorem i209_134 : ts_ins 209 134 = some (.if_icmp .le 8, 137, 142) := by decide +kernel
theorem i209_137 : ts_ins 209 137 = some (.iload 9, 139, 0) := by decide +kernel
theorem i209_139 : ts_ins 209 139 = some (.goto 22, 142, 161) := by decide +kernel
theorem i209_142 : ts_ins 209 142 = some (.iload 6, 144, 0) := by decide +kernel
theorem i209_144 : ts_ins 209 144 = some (.goto 17, 147, 161) := by decide +kernel
theorem i209_147 : ts_ins 209 147 = some (.iload 9, 149, 0) := by decide +kernel
theorem i209_149 : ts_ins 209 149 = some (.iload 6, 151, 0) := by decide +kernel
theorem i209_151 : ts_ins 209 151 = some (.if_icmp .ge 8, 154, 159) := by decide +kernel
theorem i209_154 : ts_ins 209 154 = some (.iload 9, 156, 0) := by decide +kernel
theorem i209_156 : ts_ins 209 156 = some (.goto 5, 159, 161) := by decide +kernel
theorem i209_159 : ts_ins 209 159 = some (.iload 6, 161, 0) := by decide +kernel
theorem i209_161 : ts_ins 209 161 = some (.istore 6, 163, 0) := by decide +kernel
theorem i209_163 : ts_ins 209 163 = some (.iinc 7 1, 166, 0) := by decide +kernel
theorem i209_166 : ts_ins 209 166 = some (.goto (-129), 169, 37) := by decide +kernel
theorem i209_169 : ts_ins 209 169 = some (.iload 6, 171, 0) := by decide +kernel
theorem i209_171 : ts_ins 209 171 = some (.ireturn, 172, 0) := by decide +kernel
theorem r209 : ts_rt 209 = ((some .int), 0, 0) := by decide +kernel
theorem l209 : ts_ml 209 = 10 := by decide +kernel
/-! BY TURNS: both sides -/
/-- what it answers: that, and the first plank -/
def g_rest (f : ts_Fl) (a b n : Int) : Int := pv f a b (n - 1).toNat 1 (f_corn f)
def g_pl (f : ts_Fl) (a b n p : Int) : Int := pv f a b (n - 1).toNat 1 (cm (f_corn f) p) + tk (f_corn f) p
def g_byO (f : ts_Fl) (a b n w : Int) : Int := if w = 0 then pv f a b n.toNat 0 (f_corn f) else if g_rest f a b n = pv f a b n.toNat 0 (f_corn f) then 16 else zfd 16 (fun p => f_can f a p ∧ g_pl f a b n p = pv f a b n.toNat 0 (f_corn f)) (-1) 0
def g_byA (f : ts_Fl) (ab n w : Int) : Int := if ¬ (0 ≤ ab ∧ (1 ≤ n ∧ n ≤ 4) ∧ (0 ≤ w ∧ w ≤ 1) ∧ ¬ ab / 10 = ab % 10 ∧ ab / 10 < f_men f ∧ ab % 10 < f_men f) then -2000000000 else g_byO f (ab / 10) (ab % 10) n w
section BT
variable {X : ts_X} {I J : Nat → Nat → Int32} {L : Nat → Nat → Int64} {sw : Bool} {K : Option Value → ts_H → Prop} {d : Nat} {f : ts_Fl}
theorem cm_back {c : Int → Int} {p : Int} : zu (cm c p) p (c p - tk c p + tk c p) = c := by
  funext q
  unfold cm zu
  by_cases e : q = p
  · rw [if_pos e, e]; omega
  · rw [if_neg e, if_neg e]
theorem m_playsFrom (hM : RM I f) {a b n : Int} (ha : 0 ≤ a ∧ a < 4) (hb : 0 ≤ b ∧ b < 4) (hn : 0 ≤ n ∧ n ≤ 4) : ∀ t : Nat, ∀ k : Int, ∀ c J K, 0 ≤ k → k + t = n → fr fcm I J → ar J 81 16 0 9 c → (∀ M, fr fcm I M → ar M 81 16 0 9 c → K (some (.int (zI (pv f a b t k c)))) (M, L, ts_P0 sw, ts_S0)) → ts_Cal X (d + t + 3) 209 [.ref 72, .int (zI (a)), .int (zI (b)), .int (zI (k)), .int (zI (n))] (J, L, ts_P0 sw, ts_S0) K := by
  intro t
  induction t with
  | zero =>
    intro k c J K hk hkt hJ hc hK
    refine ev_enter (lv := [.ref 72, .int (zI (a)), .int (zI (b)), .int (zI (k)), .int (zI (n)), .null, .null, .null, .null, .null]) l209 rfl (Nat.le_of_ble_eq_true rfl) ?_
    refine ev_iloadn_3 i209_0 ?_
    refine ev_iload_4 i209_1 ?_
    refine ew_icmpne i209_3 (by omega) (fun c3 => ?_) (fun c3 => ?_)
    · exfalso; omega
    · refine ew_iconst i209_6 ?_
      refine ev_ireturn i209_7 r209 ?_
      exact hK J hJ hc
  | succ t ih =>
    intro k c J K hk hkt hJ hc hK
    have c0 : ∀ p, 0 ≤ p → p < 16 → 0 ≤ c p := fun p p0 p1 => (hc p p0 p1).2.1
    have go : ∀ m, m = (if k % 2 = 0 then a else b) → (0 ≤ m ∧ m < 4) → ts_Ev X (ts_Cal X (d + (t + 1) + 2)) 209 ts_S0 K 21 [.ref 72, .int (zI (a)), .int (zI (b)), .int (zI (k)), .int (zI (n)), .int (zI (m)), .null, .null, .null, .null] [] (J, L, ts_P0 sw, ts_S0) := by
      intro m hm hm4
      have hpv : pv f a b (t + 1) k c = zwh 16 (fun p best => if f_can f m p then (if k % 2 = 0 then (if best < pv f a b t (k + 1) (cm c p) + tk c p then pv f a b t (k + 1) (cm c p) + tk c p else best) else (if pv f a b t (k + 1) (cm c p) + -tk c p < best then pv f a b t (k + 1) (cm c p) + -tk c p else best)) else best) 0 (pv f a b t (k + 1) c) := by rw [hm]; rfl
      have loop : ∀ p : Int, 0 ≤ p → p ≤ 16 → ∀ best M o o2, -5 ≤ best → best ≤ 5 → fr fcm I M → ar M 81 16 0 9 c → zwh 16 (fun p best => if f_can f m p then (if k % 2 = 0 then (if best < pv f a b t (k + 1) (cm c p) + tk c p then pv f a b t (k + 1) (cm c p) + tk c p else best) else (if pv f a b t (k + 1) (cm c p) + -tk c p < best then pv f a b t (k + 1) (cm c p) + -tk c p else best)) else best) p best = pv f a b (t + 1) k c → ts_Ev X (ts_Cal X (d + (t + 1) + 2)) 209 ts_S0 K 37 [.ref 72, .int (zI (a)), .int (zI (b)), .int (zI (k)), .int (zI (n)), .int (zI (m)), .int (zI (best)), .int (zI (p)), o, o2] [] (M, L, ts_P0 sw, ts_S0) := by
        refine ts_ind 16 (fun p ihp p0 p1 best M o o2 b0 b1 hM1 hc1 hz => ?_)
        have hM2 := hM.fcm hM1
        have ct : tk c p = if 0 < c p then 1 else 0 := rfl
        have pr := pv_r (f := f) (a := a) (b := b) t (k + 1) (cm c p) (by omega) (cm_nn c0)
        have tr := tk_r c p
        have body : p < 16 → f_can f m p → ∀ v, v = tk c p → ts_Ev X (ts_Cal X (d + (t + 1) + 2)) 209 ts_S0 K 72 [.ref 72, .int (zI (a)), .int (zI (b)), .int (zI (k)), .int (zI (n)), .int (zI (m)), .int (zI (best)), .int (zI (p)), .int (zI (v)), o2] [] (M, L, ts_P0 sw, ts_S0) := by
          intro hp16 hcan v hv
          subst hv
          have cr := (hc1 p p0 hp16).2
          have hc2 : ar (ts_up M 81 p.toNat (zI (c p - tk c p))) 81 16 0 9 (cm c p) := ar_up hc1 p0 (by omega)
          rw [zwh_1 (by omega), if_pos hcan] at hz
          refine ev_aloadn_0 i209_72 ?_
          refine ev_getA i209_73 g209_73 rfl rfl (by decide) ?_
          refine ev_iload_7 i209_76 ?_
          refine ev_dup2 i209_78 ?_
          refine ew_iaload i209_79 rfl (by omega) (by omega) (by omega) ((hc1 p p0 hp16)) (fun b79 => ?_)
          refine ev_iload_8 i209_80 ?_
          refine ew_isub i209_82 ?_
          refine ew_iastore i209_83 rfl (by omega) (by omega) (by omega) ?_
          refine ev_aloadn_0 i209_84 ?_
          refine ev_iloadn_1 i209_85 ?_
          refine ev_iloadn_2 i209_86 ?_
          refine ev_iloadn_3 i209_87 ?_
          refine ew_iconst i209_88 ?_
          refine ew_iadd i209_89 ?_
          refine ev_iload_4 i209_90 ?_
          refine ev_virt4 i209_92 g209_92 rfl (by decide +kernel) (Nat.le_of_ble_eq_true rfl) (ih (k + 1) (cm c p) _ _ (by omega) (by omega) (fr_up hM1 (by omega)) hc2 (fun N h3 h4 => ?_))
          refine ev_iloadn_3 i209_95 ?_
          refine ew_iconst i209_96 ?_
          refine ew_irem i209_97 (by omega) (by omega) ?_
          first
          | refine ew_ifneB i209_98 (fun c98 => ?_) (fun c98 => ?_)
          | refine ew_ifne i209_98 (by omega) (fun c98 => ?_) (fun c98 => ?_)
          · refine ev_iload_8 i209_106 ?_
            refine ew_ineg i209_108 ?_
            refine ew_iadd i209_109 ?_
            refine ev_istore_9 i209_110 rfl ?_
            refine ev_aloadn_0 i209_112 ?_
            refine ev_getA i209_113 g209_113 rfl rfl (by decide) ?_
            refine ev_iload_7 i209_116 ?_
            refine ev_dup2 i209_118 ?_
            refine ew_iaload i209_119 rfl (by omega) (by omega) (by omega) ((by have q := h4 p p0 hp16; rw [show cm c p p = c p - tk c p from zu_e _ _ _] at q; exact q)) (fun b119 => ?_)
            refine ev_iload_8 i209_120 ?_
            refine ew_iadd i209_122 ?_
            refine ew_iastore i209_123 rfl (by omega) (by omega) (by omega) ?_
            refine ev_iloadn_3 i209_124 ?_
            refine ew_iconst i209_125 ?_
            refine ew_irem i209_126 (by omega) (by omega) ?_
            first
            | refine ew_ifneB i209_127 (fun c127 => ?_) (fun c127 => ?_)
            | refine ew_ifne i209_127 (by omega) (fun c127 => ?_) (fun c127 => ?_)
            · refine ev_iload_9 i209_147 ?_
              refine ev_iload_6 i209_149 ?_
              refine ew_icmpge i209_151 (by omega) (fun c151 => ?_) (fun c151 => ?_)
              · refine ev_iload_6 i209_159 ?_
                refine ev_istore_6 i209_161 rfl ?_
                have h5 : ar (ts_up N 81 p.toNat (zI (c p - tk c p + tk c p))) 81 16 0 9 c := by
                  have q := ar_up h4 p0 (v := c p - tk c p + tk c p) (by omega)
                  rw [cm_back] at q
                  exact q
                refine ew_iinc_7 i209_163 rfl ?_
                refine ev_goto i209_166 ?_
                first
                | (rw [if_pos c98, if_pos (by omega)] at hz
                   exact ihp (by omega) (by omega) (by omega) _ _ _ _ (by omega) (by omega) (fr_up h3 (by omega)) h5 hz)
                | (rw [if_pos c98, if_neg (by omega)] at hz
                   exact ihp (by omega) (by omega) (by omega) _ _ _ _ (by omega) (by omega) (fr_up h3 (by omega)) h5 hz)
                | (rw [if_neg c98, if_pos (by omega)] at hz
                   exact ihp (by omega) (by omega) (by omega) _ _ _ _ (by omega) (by omega) (fr_up h3 (by omega)) h5 hz)
                | (rw [if_neg c98, if_neg (by omega)] at hz
                   exact ihp (by omega) (by omega) (by omega) _ _ _ _ (by omega) (by omega) (fr_up h3 (by omega)) h5 hz)
                | (exfalso; omega)
              · refine ev_iload_9 i209_154 ?_
                refine ev_goto i209_156 ?_
                refine ev_istore_6 i209_161 rfl ?_
                have h5 : ar (ts_up N 81 p.toNat (zI (c p - tk c p + tk c p))) 81 16 0 9 c := by
                  have q := ar_up h4 p0 (v := c p - tk c p + tk c p) (by omega)
                  rw [cm_back] at q
                  exact q
                refine ew_iinc_7 i209_163 rfl ?_
                refine ev_goto i209_166 ?_
                first
                | (rw [if_pos c98, if_pos (by omega)] at hz
                   exact ihp (by omega) (by omega) (by omega) _ _ _ _ (by omega) (by omega) (fr_up h3 (by omega)) h5 hz)
                | (rw [if_pos c98, if_neg (by omega)] at hz
                   exact ihp (by omega) (by omega) (by omega) _ _ _ _ (by omega) (by omega) (fr_up h3 (by omega)) h5 hz)
                | (rw [if_neg c98, if_pos (by omega)] at hz
                   exact ihp (by omega) (by omega) (by omega) _ _ _ _ (by omega) (by omega) (fr_up h3 (by omega)) h5 hz)
                | (rw [if_neg c98, if_neg (by omega)] at hz
                   exact ihp (by omega) (by omega) (by omega) _ _ _ _ (by omega) (by omega) (fr_up h3 (by omega)) h5 hz)
                | (exfalso; omega)
            · refine ev_iload_9 i209_130 ?_
              refine ev_iload_6 i209_132 ?_
              refine ew_icmple i209_134 (by omega) (fun c134 => ?_) (fun c134 => ?_)
              · refine ev_iload_6 i209_142 ?_
                refine ev_goto i209_144 ?_
                refine ev_istore_6 i209_161 rfl ?_
                have h5 : ar (ts_up N 81 p.toNat (zI (c p - tk c p + tk c p))) 81 16 0 9 c := by
                  have q := ar_up h4 p0 (v := c p - tk c p + tk c p) (by omega)
                  rw [cm_back] at q
                  exact q
                refine ew_iinc_7 i209_163 rfl ?_
                refine ev_goto i209_166 ?_
                first
                | (rw [if_pos c98, if_pos (by omega)] at hz
                   exact ihp (by omega) (by omega) (by omega) _ _ _ _ (by omega) (by omega) (fr_up h3 (by omega)) h5 hz)
                | (rw [if_pos c98, if_neg (by omega)] at hz
                   exact ihp (by omega) (by omega) (by omega) _ _ _ _ (by omega) (by omega) (fr_up h3 (by omega)) h5 hz)
                | (rw [if_neg c98, if_pos (by omega)] at hz
                   exact ihp (by omega) (by omega) (by omega) _ _ _ _ (by omega) (by omega) (fr_up h3 (by omega)) h5 hz)
                | (rw [if_neg c98, if_neg (by omega)] at hz
                   exact ihp (by omega) (by omega) (by omega) _ _ _ _ (by omega) (by omega) (fr_up h3 (by omega)) h5 hz)
                | (exfalso; omega)
              · refine ev_iload_9 i209_137 ?_
                refine ev_goto i209_139 ?_
                refine ev_istore_6 i209_161 rfl ?_
                have h5 : ar (ts_up N 81 p.toNat (zI (c p - tk c p + tk c p))) 81 16 0 9 c := by
                  have q := ar_up h4 p0 (v := c p - tk c p + tk c p) (by omega)
                  rw [cm_back] at q
                  exact q
                refine ew_iinc_7 i209_163 rfl ?_
                refine ev_goto i209_166 ?_
                first
                | (rw [if_pos c98, if_pos (by omega)] at hz
                   exact ihp (by omega) (by omega) (by omega) _ _ _ _ (by omega) (by omega) (fr_up h3 (by omega)) h5 hz)
                | (rw [if_pos c98, if_neg (by omega)] at hz
                   exact ihp (by omega) (by omega) (by omega) _ _ _ _ (by omega) (by omega) (fr_up h3 (by omega)) h5 hz)
                | (rw [if_neg c98, if_pos (by omega)] at hz
                   exact ihp (by omega) (by omega) (by omega) _ _ _ _ (by omega) (by omega) (fr_up h3 (by omega)) h5 hz)
                | (rw [if_neg c98, if_neg (by omega)] at hz
                   exact ihp (by omega) (by omega) (by omega) _ _ _ _ (by omega) (by omega) (fr_up h3 (by omega)) h5 hz)
                | (exfalso; omega)
          · refine ev_iload_8 i209_101 ?_
            refine ev_goto i209_103 ?_
            refine ew_iadd i209_109 ?_
            refine ev_istore_9 i209_110 rfl ?_
            refine ev_aloadn_0 i209_112 ?_
            refine ev_getA i209_113 g209_113 rfl rfl (by decide) ?_
            refine ev_iload_7 i209_116 ?_
            refine ev_dup2 i209_118 ?_
            refine ew_iaload i209_119 rfl (by omega) (by omega) (by omega) ((by have q := h4 p p0 hp16; rw [show cm c p p = c p - tk c p from zu_e _ _ _] at q; exact q)) (fun b119 => ?_)
            refine ev_iload_8 i209_120 ?_
            refine ew_iadd i209_122 ?_
            refine ew_iastore i209_123 rfl (by omega) (by omega) (by omega) ?_
            refine ev_iloadn_3 i209_124 ?_
            refine ew_iconst i209_125 ?_
            refine ew_irem i209_126 (by omega) (by omega) ?_
            first
            | refine ew_ifneB i209_127 (fun c127 => ?_) (fun c127 => ?_)
            | refine ew_ifne i209_127 (by omega) (fun c127 => ?_) (fun c127 => ?_)
            · refine ev_iload_9 i209_147 ?_
              refine ev_iload_6 i209_149 ?_
              refine ew_icmpge i209_151 (by omega) (fun c151 => ?_) (fun c151 => ?_)
              · refine ev_iload_6 i209_159 ?_
                refine ev_istore_6 i209_161 rfl ?_
                have h5 : ar (ts_up N 81 p.toNat (zI (c p - tk c p + tk c p))) 81 16 0 9 c := by
                  have q := ar_up h4 p0 (v := c p - tk c p + tk c p) (by omega)
                  rw [cm_back] at q
                  exact q
                refine ew_iinc_7 i209_163 rfl ?_
                refine ev_goto i209_166 ?_
                first
                | (rw [if_pos c98, if_pos (by omega)] at hz
                   exact ihp (by omega) (by omega) (by omega) _ _ _ _ (by omega) (by omega) (fr_up h3 (by omega)) h5 hz)
                | (rw [if_pos c98, if_neg (by omega)] at hz
                   exact ihp (by omega) (by omega) (by omega) _ _ _ _ (by omega) (by omega) (fr_up h3 (by omega)) h5 hz)
                | (rw [if_neg c98, if_pos (by omega)] at hz
                   exact ihp (by omega) (by omega) (by omega) _ _ _ _ (by omega) (by omega) (fr_up h3 (by omega)) h5 hz)
                | (rw [if_neg c98, if_neg (by omega)] at hz
                   exact ihp (by omega) (by omega) (by omega) _ _ _ _ (by omega) (by omega) (fr_up h3 (by omega)) h5 hz)
                | (exfalso; omega)
              · refine ev_iload_9 i209_154 ?_
                refine ev_goto i209_156 ?_
                refine ev_istore_6 i209_161 rfl ?_
                have h5 : ar (ts_up N 81 p.toNat (zI (c p - tk c p + tk c p))) 81 16 0 9 c := by
                  have q := ar_up h4 p0 (v := c p - tk c p + tk c p) (by omega)
                  rw [cm_back] at q
                  exact q
                refine ew_iinc_7 i209_163 rfl ?_
                refine ev_goto i209_166 ?_
                first
                | (rw [if_pos c98, if_pos (by omega)] at hz
                   exact ihp (by omega) (by omega) (by omega) _ _ _ _ (by omega) (by omega) (fr_up h3 (by omega)) h5 hz)
                | (rw [if_pos c98, if_neg (by omega)] at hz
                   exact ihp (by omega) (by omega) (by omega) _ _ _ _ (by omega) (by omega) (fr_up h3 (by omega)) h5 hz)
                | (rw [if_neg c98, if_pos (by omega)] at hz
                   exact ihp (by omega) (by omega) (by omega) _ _ _ _ (by omega) (by omega) (fr_up h3 (by omega)) h5 hz)
                | (rw [if_neg c98, if_neg (by omega)] at hz
                   exact ihp (by omega) (by omega) (by omega) _ _ _ _ (by omega) (by omega) (fr_up h3 (by omega)) h5 hz)
                | (exfalso; omega)
            · refine ev_iload_9 i209_130 ?_
              refine ev_iload_6 i209_132 ?_
              refine ew_icmple i209_134 (by omega) (fun c134 => ?_) (fun c134 => ?_)
              · refine ev_iload_6 i209_142 ?_
                refine ev_goto i209_144 ?_
                refine ev_istore_6 i209_161 rfl ?_
                have h5 : ar (ts_up N 81 p.toNat (zI (c p - tk c p + tk c p))) 81 16 0 9 c := by
                  have q := ar_up h4 p0 (v := c p - tk c p + tk c p) (by omega)
                  rw [cm_back] at q
                  exact q
                refine ew_iinc_7 i209_163 rfl ?_
                refine ev_goto i209_166 ?_
                first
                | (rw [if_pos c98, if_pos (by omega)] at hz
                   exact ihp (by omega) (by omega) (by omega) _ _ _ _ (by omega) (by omega) (fr_up h3 (by omega)) h5 hz)
                | (rw [if_pos c98, if_neg (by omega)] at hz
                   exact ihp (by omega) (by omega) (by omega) _ _ _ _ (by omega) (by omega) (fr_up h3 (by omega)) h5 hz)
                | (rw [if_neg c98, if_pos (by omega)] at hz
                   exact ihp (by omega) (by omega) (by omega) _ _ _ _ (by omega) (by omega) (fr_up h3 (by omega)) h5 hz)
                | (rw [if_neg c98, if_neg (by omega)] at hz
                   exact ihp (by omega) (by omega) (by omega) _ _ _ _ (by omega) (by omega) (fr_up h3 (by omega)) h5 hz)
                | (exfalso; omega)
              · refine ev_iload_9 i209_137 ?_
                refine ev_goto i209_139 ?_
                refine ev_istore_6 i209_161 rfl ?_
                have h5 : ar (ts_up N 81 p.toNat (zI (c p - tk c p + tk c p))) 81 16 0 9 c := by
                  have q := ar_up h4 p0 (v := c p - tk c p + tk c p) (by omega)
                  rw [cm_back] at q
                  exact q
                refine ew_iinc_7 i209_163 rfl ?_
                refine ev_goto i209_166 ?_
                first
                | (rw [if_pos c98, if_pos (by omega)] at hz
                   exact ihp (by omega) (by omega) (by omega) _ _ _ _ (by omega) (by omega) (fr_up h3 (by omega)) h5 hz)
                | (rw [if_pos c98, if_neg (by omega)] at hz
                   exact ihp (by omega) (by omega) (by omega) _ _ _ _ (by omega) (by omega) (fr_up h3 (by omega)) h5 hz)
                | (rw [if_neg c98, if_pos (by omega)] at hz
                   exact ihp (by omega) (by omega) (by omega) _ _ _ _ (by omega) (by omega) (fr_up h3 (by omega)) h5 hz)
                | (rw [if_neg c98, if_neg (by omega)] at hz
                   exact ihp (by omega) (by omega) (by omega) _ _ _ _ (by omega) (by omega) (fr_up h3 (by omega)) h5 hz)
                | (exfalso; omega)
        refine ev_iload_7 i209_37 ?_
        refine ew_bipush i209_39 (by decide) ?_
        refine ew_icmpge i209_41 (by omega) (fun c41 => ?_) (fun c41 => ?_)
        · refine ev_iload_6 i209_169 ?_
          refine ev_ireturn i209_171 r209 ?_
          rw [zwh_0 (by omega)] at hz
          rw [hz]
          exact hK M hM1 hc1
        · refine ev_aloadn_0 i209_44 ?_
          refine ev_iload_5 i209_45 ?_
          refine ev_iload_7 i209_47 ?_
          refine ev_virt2 i209_49 g209_49 rfl (by decide +kernel) (Nat.le_of_ble_eq_true rfl) (m_reaches hM2 hm4.1 hm4.2 p0 (by omega) ?_)
          first
          | refine ew_ifeqB i209_52 (fun c52 => ?_) (fun c52 => ?_)
          | refine ew_ifeq i209_52 (by omega) (fun c52 => ?_) (fun c52 => ?_)
          · rw [zwh_1 (by omega), if_neg c52] at hz
            refine ew_iinc_7 i209_163 rfl ?_
            refine ev_goto i209_166 ?_
            exact ihp (by omega) (by omega) (by omega) _ _ _ _ (by omega) (by omega) hM1 hc1 hz
          · refine ev_aloadn_0 i209_55 ?_
            refine ev_getA i209_56 g209_56 rfl rfl (by decide) ?_
            refine ev_iload_7 i209_59 ?_
            refine ew_iaload i209_61 rfl (by omega) (by omega) (by omega) ((hc1 p p0 (by omega))) (fun b61 => ?_)
            refine ew_ifle i209_62 (by omega) (fun c62 => ?_) (fun c62 => ?_)
            · refine ew_iconst i209_69 ?_
              refine ev_istore_8 i209_70 rfl ?_
              first
              | exact body (by omega) c52 1 (by omega)
              | exact body (by omega) c52 0 (by omega)
            · refine ew_iconst i209_65 ?_
              refine ev_goto i209_66 ?_
              refine ev_istore_8 i209_70 rfl ?_
              first
              | exact body (by omega) c52 1 (by omega)
              | exact body (by omega) c52 0 (by omega)
      have pr0 := pv_r (f := f) (a := a) (b := b) t (k + 1) c (by omega) c0
      refine ev_aloadn_0 i209_21 ?_
      refine ev_iloadn_1 i209_22 ?_
      refine ev_iloadn_2 i209_23 ?_
      refine ev_iloadn_3 i209_24 ?_
      refine ew_iconst i209_25 ?_
      refine ew_iadd i209_26 ?_
      refine ev_iload_4 i209_27 ?_
      refine ev_virt4 i209_29 g209_29 rfl (by decide +kernel) (Nat.le_of_ble_eq_true rfl) (ih (k + 1) c J _ (by omega) (by omega) hJ hc (fun M h1 h2 => ?_))
      refine ev_istore_6 i209_32 rfl ?_
      refine ew_iconst i209_34 ?_
      refine ev_istore_7 i209_35 rfl ?_
      exact loop 0 (by decide) (by decide) _ M _ _ (by omega) (by omega) h1 h2 hpv.symm
    refine ev_enter (lv := [.ref 72, .int (zI (a)), .int (zI (b)), .int (zI (k)), .int (zI (n)), .null, .null, .null, .null, .null]) l209 rfl (Nat.le_of_ble_eq_true rfl) ?_
    refine ev_iloadn_3 i209_0 ?_
    refine ev_iload_4 i209_1 ?_
    refine ew_icmpne i209_3 (by omega) (fun c3 => ?_) (fun c3 => ?_)
    · refine ev_iloadn_3 i209_8 ?_
      refine ew_iconst i209_9 ?_
      refine ew_irem i209_10 (by omega) (by omega) ?_
      first
      | refine ew_ifneB i209_11 (fun c11 => ?_) (fun c11 => ?_)
      | refine ew_ifne i209_11 (by omega) (fun c11 => ?_) (fun c11 => ?_)
      · refine ev_iloadn_2 i209_18 ?_
        refine ev_istore_5 i209_19 rfl ?_
        first
        | exact go a (by omega) ha
        | exact go b (by omega) hb
      · refine ev_iloadn_1 i209_14 ?_
        refine ev_goto i209_15 ?_
        refine ev_istore_5 i209_19 rfl ?_
        first
        | exact go a (by omega) ha
        | exact go b (by omega) hb
    · exfalso; omega
end BT
