theorem i29_0 : ts_ins 29 0 = some (.iconst 0, 1, 0) := by decide +kernel
theorem i29_1 : ts_ins 29 1 = some (.istore_n 1, 2, 0) := by decide +kernel
theorem i29_2 : ts_ins 29 2 = some (.iconst 0, 3, 0) := by decide +kernel
theorem i29_3 : ts_ins 29 3 = some (.istore_n 2, 4, 0) := by decide +kernel
theorem i29_4 : ts_ins 29 4 = some (.iload_n 2, 5, 0) := by decide +kernel
theorem i29_5 : ts_ins 29 5 = some (.bipush 16, 7, 0) := by decide +kernel
theorem i29_7 : ts_ins 29 7 = some (.if_icmp .ge 18, 10, 25) := by decide +kernel
theorem i29_10 : ts_ins 29 10 = some (.iload_n 1, 11, 0) := by decide +kernel
theorem i29_11 : ts_ins 29 11 = some (.aload_n 0, 12, 0) := by decide +kernel
theorem i29_12 : ts_ins 29 12 = some (.getfield 15, 15, 0) := by decide +kernel
theorem g29_12 : ts_fm 29 15 = some (3, 1, 2) := by decide +kernel
theorem i29_15 : ts_ins 29 15 = some (.iload_n 2, 16, 0) := by decide +kernel
theorem i29_16 : ts_ins 29 16 = some (.iaload, 17, 0) := by decide +kernel
theorem i29_17 : ts_ins 29 17 = some (.iadd, 18, 0) := by decide +kernel
theorem i29_18 : ts_ins 29 18 = some (.istore_n 1, 19, 0) := by decide +kernel
theorem i29_19 : ts_ins 29 19 = some (.iinc 2 1, 22, 0) := by decide +kernel
theorem i29_22 : ts_ins 29 22 = some (.goto (-18), 25, 4) := by decide +kernel
theorem i29_25 : ts_ins 29 25 = some (.iload_n 1, 26, 0) := by decide +kernel
theorem i29_26 : ts_ins 29 26 = some (.ireturn, 27, 0) := by decide +kernel
theorem r29 : ts_rt 29 = ((some .int), 0, 0) := by decide +kernel
theorem l29 : ts_ml 29 = 3 := by decide +kernel
theorem i19_0 : ts_ins 19 0 = some (.iload_n 1, 1, 0) := by decide +kernel
theorem i19_1 : ts_ins 19 1 = some (.ifCond .lt 15, 4, 16) := by decide +kernel
theorem i19_4 : ts_ins 19 4 = some (.iload_n 1, 5, 0) := by decide +kernel
theorem i19_5 : ts_ins 19 5 = some (.aload_n 0, 6, 0) := by decide +kernel
theorem i19_6 : ts_ins 19 6 = some (.getfield 38, 9, 0) := by decide +kernel
theorem g19_6 : ts_fm 19 38 = some (3, 8, 0) := by decide +kernel
theorem i19_9 : ts_ins 19 9 = some (.if_icmp .ge 7, 12, 16) := by decide +kernel
theorem i19_12 : ts_ins 19 12 = some (.iconst 1, 13, 0) := by decide +kernel
theorem i19_13 : ts_ins 19 13 = some (.goto 4, 16, 17) := by decide +kernel
theorem i19_16 : ts_ins 19 16 = some (.iconst 0, 17, 0) := by decide +kernel
theorem i19_17 : ts_ins 19 17 = some (.ireturn, 18, 0) := by decide +kernel
theorem r19 : ts_rt 19 = ((some .boolean), 0, 0) := by decide +kernel
theorem l19 : ts_ml 19 = 2 := by decide +kernel
section T10
variable {X : ts_X} {I : Nat → Nat → Int32} {L : Nat → Nat → Int64} {sw : Bool} {K : Option Value → ts_H → Prop} {d : Nat}
set_option maxHeartbeats 4000000 in
theorem c_cornOfAll (hK : K (some (.int (bx_sum (I 4) 16))) (I, L, ts_P0 sw, ts_S0)) : ts_Cal X (d + 1) 29 [.ref 2] (I, L, ts_P0 sw, ts_S0) K := by
  have loop : ∀ n j : Nat, j + n = 16 → ts_Ev X (ts_Cal X d) 29 ts_S0 K 4 [.ref 2, .int (bx_sum (I 4) j), .int (nI j)] [] (I, L, ts_P0 sw, ts_S0) := by
    intro n
    induction n with
    | zero =>
      intro j hj
      obtain rfl : j = 16 := by omega
      refine ev_iloadn_2 i29_4 ?_
      refine ev_bipush (v := 16) i29_5 (by decide) ?_
      refine ev_icmpge i29_7 (fun c => ?_) (fun c => ?_)
      · refine ev_iloadn_1 i29_25 ?_
        refine ev_ireturn i29_26 r29 ?_
        exact hK
      · exact absurd (by decide) c
    | succ n ih =>
      intro j hj
      refine ev_iloadn_2 i29_4 ?_
      refine ev_bipush (v := 16) i29_5 (by decide) ?_
      refine ev_icmpge i29_7 (fun c => ?_) (fun c => ?_)
      · exact absurd c (nI_ge (b := 16) (by omega) (by decide))
      · refine ev_iloadn_1 i29_10 ?_
        refine ev_aloadn_0 i29_11 ?_
        refine ev_getA i29_12 g29_12 rfl rfl (by decide) ?_
        refine ev_iloadn_2 i29_15 ?_
        refine ev_iaload i29_16 rfl (vp_in_nI (by omega) (by decide)) ?_
        refine ev_iadd i29_17 ?_
        refine ev_istoren_1 i29_18 rfl ?_
        refine ev_iinc_2 (c := 1) i29_19 rfl (by decide) ?_
        refine ev_goto i29_22 ?_
        have := ih (j + 1) (by omega)
        rw [nI_clamp (by omega), nI_1]
        exact this
  refine ev_enter (lv := [.ref 2, .null, .null]) l29 rfl (by decide) ?_
  refine ev_iconst (v := 0) i29_0 (by decide) ?_
  refine ev_istoren_1 i29_1 rfl ?_
  refine ev_iconst (v := 0) i29_2 (by decide) ?_
  refine ev_istoren_2 i29_3 rfl ?_
  exact loop 16 0 rfl
set_option maxHeartbeats 4000000 in
theorem c_hasMan {x : Int32} (hK : K (some (.int (if 0 ≤ x ∧ x < I 2 8 then 1 else 0))) (I, L, ts_P0 sw, ts_S0)) : ts_Cal X (d + 1) 19 [.ref 2, .int x] (I, L, ts_P0 sw, ts_S0) K := by
  refine ev_enter (lv := [.ref 2, .int x]) l19 rfl (by decide) ?_
  refine ev_iloadn_1 i19_0 ?_
  refine ev_iflt i19_1 (fun c => ?_) (fun c => ?_)
  · refine ev_iconst (v := 0) i19_16 (by decide) ?_
    refine ev_zreturn i19_17 r19 rfl ?_
    rw [if_neg (by intro h; exact absurd h.1 (Int32.not_le.mpr c))] at hK
    exact hK
  · refine ev_iloadn_1 i19_4 ?_
    refine ev_aloadn_0 i19_5 ?_
    refine ev_getI i19_6 g19_6 rfl ?_
    refine ev_icmpge i19_9 (fun c2 => ?_) (fun c2 => ?_)
    · refine ev_iconst (v := 0) i19_16 (by decide) ?_
      refine ev_zreturn i19_17 r19 rfl ?_
      rw [if_neg (by intro h; exact absurd h.2 (Int32.not_lt.mpr c2))] at hK
      exact hK
    · refine ev_iconst (v := 1) i19_12 (by decide) ?_
      refine ev_goto i19_13 ?_
      refine ev_zreturn i19_17 r19 rfl ?_
      rw [if_pos ⟨Int32.not_lt.mp c, Int32.not_le.mp c2⟩] at hK
      exact hK
end T10
