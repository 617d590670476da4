/-! THE LAW, from its start -/
section LP0
variable {n : Nat} {xf : Nat → Int32} {d : Nat} {K : Option Value → ts_H → Prop}
theorem D_loop (hn : n ≤ 3072) (hK : ∀ h, K (some (.int 1)) h) : ∀ (j i : Int) (B : Int) (I : Nat → Nat → Int32) (L : Nat → Nat → Int64) (sw : Bool) (f : ts_Fl) (s : ts_Sh) (c : ts_Ch) (t : ts_Ta) (b : ts_Bo) (w : ts_Lw) (e : ts_De) (im : ts_Im), j ≤ i → 0 ≤ i → 6 * B = i → i ≤ n → XR I L sw B f s c t b w e im → MR I L B f s c t b w e im → PR f s c b w → ts_Ev (n, xf) (tsC n xf d) 238 [] K 18 [.ref 1000, .ref 1, .ref 72, .int (zI (i))] [] (I, L, ts_P0 sw, ts_S0) := by
  refine ts_ind n (fun j ih i B I L sw f s c t b w e im ji i0 iB iN hX hM hP => ?_)
  by_cases ci : i + 6 ≤ n
  · have go : ∀ (J : Nat → Nat → Int32) (M : Nat → Nat → Int64) (sw : Bool) (f : ts_Fl) (s : ts_Sh) (c : ts_Ch) (t : ts_Ta) (b : ts_Bo) (w : ts_Lw) (e : ts_De) (im : ts_Im), XR J M sw (B + 1) f s c t b w e im → MR J M (B + 1) f s c t b w e im → PR f s c b w → ts_Ev (n, xf) (tsC n xf d) 238 [] K 18 [.ref 1000, .ref 1, .ref 72, .int (zI (i + 6))] [] (J, M, ts_P0 sw, ts_S0) := fun J M sw f s c t b w e im h1 h2 h3 => ih (by omega) (i + 6) (B + 1) J M sw f s c t b w e im (by omega) (by omega) (by omega) ci h1 h2 h3
    have zr := zand_r (xf i.toNat).toInt 63
    refine ev_iloadn_3 i238_18 ?_
    refine ev_aloadn_0 i238_19 ?_
    refine ew_alen i238_20 rfl ?_
    refine ew_bipush i238_21 (by decide) ?_
    refine ew_isub i238_23 ?_
    refine ew_icmpgt i238_24 (by omega) (fun c24 => ?_) (fun c24 => ?_)
    · exfalso; omega
    · refine ev_aloadn_0 i238_27 ?_
      refine ev_iloadn_3 i238_28 ?_
      refine ew_iaload i238_29 rfl (by omega) (by omega) (by omega) (by first | exact rd_any _ | exact hX.men | exact hX.told | exact hX.road | exact hX.tone _ (by omega) (by omega) | exact hX.corn _ (by omega) (by omega) | exact hX.stand _ (by omega) (by omega) | exact hX.reach _ (by omega) (by omega) | exact hX.arm _ (by omega) (by omega) | exact hX.late _ (by omega) (by omega) | exact hX.len _ (by omega) (by omega) | exact hX.say (by omega) (by omega) _ (by omega) (by omega)) (fun b29 => ?_)
      refine ew_bipush i238_30 (by decide) ?_
      refine ew_iand i238_32 ?_
      rcases (show zand (xf i.toNat).toInt 63 = 0 ∨ zand (xf i.toNat).toInt 63 = 1 ∨ zand (xf i.toNat).toInt 63 = 2 ∨ zand (xf i.toNat).toInt 63 = 3 ∨ zand (xf i.toNat).toInt 63 = 4 ∨ zand (xf i.toNat).toInt 63 = 5 ∨ zand (xf i.toNat).toInt 63 = 6 ∨ zand (xf i.toNat).toInt 63 = 7 ∨ zand (xf i.toNat).toInt 63 = 8 ∨ zand (xf i.toNat).toInt 63 = 9 ∨ zand (xf i.toNat).toInt 63 = 10 ∨ zand (xf i.toNat).toInt 63 = 11 ∨ zand (xf i.toNat).toInt 63 = 12 ∨ zand (xf i.toNat).toInt 63 = 13 ∨ zand (xf i.toNat).toInt 63 = 14 ∨ zand (xf i.toNat).toInt 63 = 15 ∨ zand (xf i.toNat).toInt 63 = 16 ∨ zand (xf i.toNat).toInt 63 = 17 ∨ zand (xf i.toNat).toInt 63 = 18 ∨ zand (xf i.toNat).toInt 63 = 19 ∨ zand (xf i.toNat).toInt 63 = 20 ∨ zand (xf i.toNat).toInt 63 = 21 ∨ zand (xf i.toNat).toInt 63 = 22 ∨ zand (xf i.toNat).toInt 63 = 23 ∨ zand (xf i.toNat).toInt 63 = 24 ∨ zand (xf i.toNat).toInt 63 = 25 ∨ zand (xf i.toNat).toInt 63 = 26 ∨ zand (xf i.toNat).toInt 63 = 27 ∨ zand (xf i.toNat).toInt 63 = 28 ∨ zand (xf i.toNat).toInt 63 = 29 ∨ zand (xf i.toNat).toInt 63 = 30 ∨ zand (xf i.toNat).toInt 63 = 31 ∨ zand (xf i.toNat).toInt 63 = 32 ∨ zand (xf i.toNat).toInt 63 = 33 ∨ zand (xf i.toNat).toInt 63 = 34 ∨ zand (xf i.toNat).toInt 63 = 35 ∨ zand (xf i.toNat).toInt 63 = 36 ∨ zand (xf i.toNat).toInt 63 = 37 ∨ zand (xf i.toNat).toInt 63 = 38 ∨ zand (xf i.toNat).toInt 63 = 39 ∨ zand (xf i.toNat).toInt 63 = 40 ∨ zand (xf i.toNat).toInt 63 = 41 ∨ zand (xf i.toNat).toInt 63 = 42 ∨ (zand (xf i.toNat).toInt 63 < 0 ∨ 42 < zand (xf i.toNat).toInt 63) by omega) with c33 | c33 | c33 | c33 | c33 | c33 | c33 | c33 | c33 | c33 | c33 | c33 | c33 | c33 | c33 | c33 | c33 | c33 | c33 | c33 | c33 | c33 | c33 | c33 | c33 | c33 | c33 | c33 | c33 | c33 | c33 | c33 | c33 | c33 | c33 | c33 | c33 | c33 | c33 | c33 | c33 | c33 | c33 | c33
      · refine ew_sw (v := 0) i238_33 c33 (t := 220) (by decide) rfl ?_
        exact D_man hX hM hP (by omega) hn ⟨i0, ci⟩ go
      · refine ew_sw (v := 1) i238_33 c33 (t := 243) (by decide) rfl ?_
        exact D_saying hX hM hP (by omega) hn ⟨i0, ci⟩ go
      · refine ew_sw (v := 2) i238_33 c33 (t := 286) (by decide) rfl ?_
        exact D_mend hX hM hP (by omega) hn ⟨i0, ci⟩ go
      · refine ew_sw (v := 3) i238_33 c33 (t := 329) (by decide) rfl ?_
        exact D_of hX hM hP (by omega) hn ⟨i0, ci⟩ go
      · refine ew_sw (v := 4) i238_33 c33 (t := 362) (by decide) rfl ?_
        exact D_feed hX hM hP (by omega) hn ⟨i0, ci⟩ go
      · refine ew_sw (v := 5) i238_33 c33 (t := 385) (by decide) rfl ?_
        exact D_law hX hM hP (by omega) hn ⟨i0, ci⟩ go
      · refine ew_sw (v := 6) i238_33 c33 (t := 398) (by decide) rfl ?_
        exact D_reach hX hM hP (by omega) hn ⟨i0, ci⟩ go
      · refine ew_sw (v := 7) i238_33 c33 (t := 421) (by decide) rfl ?_
        exact D_plan hX hM hP (by omega) hn ⟨i0, ci⟩ go
      · refine ew_sw (v := 8) i238_33 c33 (t := 454) (by decide) rfl ?_
        exact D_tone hX hM hP (by omega) hn ⟨i0, ci⟩ go
      · refine ew_sw (v := 9) i238_33 c33 (t := 487) (by decide) rfl ?_
        exact D_behind hX hM hP (by omega) hn ⟨i0, ci⟩ go
      · refine ew_sw (v := 10) i238_33 c33 (t := 530) (by decide) rfl ?_
        exact D_say hX hM hP (by omega) hn ⟨i0, ci⟩ go
      · refine ew_sw (v := 11) i238_33 c33 (t := 563) (by decide) rfl ?_
        exact D_can hX hM hP (by omega) hn ⟨i0, ci⟩ go
      · refine ew_sw (v := 12) i238_33 c33 (t := 576) (by decide) rfl ?_
        exact D_rows hX hM hP (by omega) hn ⟨i0, ci⟩ go
      · refine ew_sw (v := 13) i238_33 c33 (t := 600) (by decide) rfl ?_
        exact D_thresh hX hM hP (by omega) hn ⟨i0, ci⟩ go
      · refine ew_sw (v := 14) i238_33 c33 (t := 613) (by decide) rfl ?_
        exact D_tune hX hM hP (by omega) hn ⟨i0, ci⟩ go
      · refine ew_sw (v := 15) i238_33 c33 (t := 636) (by decide) rfl ?_
        exact D_nearest hX hM hP (by omega) hn ⟨i0, ci⟩ go
      · refine ew_sw (v := 16) i238_33 c33 (t := 669) (by decide) rfl ?_
        exact D_likely hX hM hP (by omega) hn ⟨i0, ci⟩ go
      · refine ew_sw (v := 17) i238_33 c33 (t := 713) (by decide) rfl ?_
        exact D_slips hX hM hP (by omega) hn ⟨i0, ci⟩ go
      · refine ew_sw (v := 18) i238_33 c33 (t := 746) (by decide) rfl ?_
        exact D_apart hX hM hP (by omega) hn ⟨i0, ci⟩ go
      · refine ew_sw (v := 19) i238_33 c33 (t := 769) (by decide) rfl ?_
        exact D_closest hX hM hP (by omega) hn ⟨i0, ci⟩ go
      · refine ew_sw (v := 20) i238_33 c33 (t := 782) (by decide) rfl ?_
        exact D_begins hX hM hP (by omega) hn ⟨i0, ci⟩ go
      · refine ew_sw (v := 21) i238_33 c33 (t := 805) (by decide) rfl ?_
        exact D_meet hX hM hP (by omega) hn ⟨i0, ci⟩ go
      · refine ew_sw (v := 22) i238_33 c33 (t := 828) (by decide) rfl ?_
        exact D_first hX hM hP (by omega) hn ⟨i0, ci⟩ go
      · refine ew_sw (v := 23) i238_33 c33 (t := 851) (by decide) rfl ?_
        exact D_silent hX hM hP (by omega) hn ⟨i0, ci⟩ go
      · refine ew_sw (v := 24) i238_33 c33 (t := 864) (by decide) rfl ?_
        exact D_byTurns hX hM hP (by omega) hn ⟨i0, ci⟩ go
      · refine ew_sw (v := 25) i238_33 c33 (t := 907) (by decide) rfl ?_
        exact D_drawn hX hM hP (by omega) hn ⟨i0, ci⟩ go
      · refine ew_sw (v := 26) i238_33 c33 (t := 960) (by decide) rfl ?_
        exact D_strike hX hM hP (by omega) hn ⟨i0, ci⟩ go
      · refine ew_sw (v := 27) i238_33 c33 (t := 983) (by decide) rfl ?_
        exact D_sow hX hM hP (by omega) hn ⟨i0, ci⟩ go
      · refine ew_sw (v := 28) i238_33 c33 (t := 1006) (by decide) rfl ?_
        exact D_led hX hM hP (by omega) hn ⟨i0, ci⟩ go
      · refine ew_sw (v := 29) i238_33 c33 (t := 1029) (by decide) rfl ?_
        exact D_image hX hM hP (by omega) hn ⟨i0, ci⟩ go
      · refine ew_sw (v := 30) i238_33 c33 (t := 1042) (by decide) rfl ?_
        exact D_back hX hM hP (by omega) hn ⟨i0, ci⟩ go
      · refine ew_sw (v := 31) i238_33 c33 (t := 1055) (by decide) rfl ?_
        exact D_undo hX hM hP (by omega) hn ⟨i0, ci⟩ go
      · refine ew_sw (v := 32) i238_33 c33 (t := 1068) (by decide) rfl ?_
        exact D_redo hX hM hP (by omega) hn ⟨i0, ci⟩ go
      · refine ew_sw (v := 33) i238_33 c33 (t := 1081) (by decide) rfl ?_
        exact D_body hX hM hP (by omega) hn ⟨i0, ci⟩ go
      · refine ew_sw (v := 34) i238_33 c33 (t := 1104) (by decide) rfl ?_
        exact D_act hX hM hP (by omega) hn ⟨i0, ci⟩ go
      · refine ew_sw (v := 35) i238_33 c33 (t := 1147) (by decide) rfl ?_
        exact D_trace hX hM hP (by omega) hn ⟨i0, ci⟩ go
      · refine ew_sw (v := 36) i238_33 c33 (t := 1170) (by decide) rfl ?_
        exact D_keep hX hM hP (by omega) hn ⟨i0, ci⟩ go
      · refine ew_sw (v := 37) i238_33 c33 (t := 1203) (by decide) rfl ?_
        exact D_row hX hM hP (by omega) hn ⟨i0, ci⟩ go
      · refine ew_sw (v := 38) i238_33 c33 (t := 1246) (by decide) rfl ?_
        exact D_put hX hM hP (by omega) hn ⟨i0, ci⟩ go
      · refine ew_sw (v := 39) i238_33 c33 (t := 1319) (by decide) rfl ?_
        exact D_element hX hM hP (by omega) hn ⟨i0, ci⟩ go
      · refine ew_sw (v := 40) i238_33 c33 (t := 1353) (by decide) rfl ?_
        exact D_shift hX hM hP (by omega) hn ⟨i0, ci⟩ go
      · refine ew_sw (v := 41) i238_33 c33 (t := 1416) (by decide) rfl ?_
        exact D_taken hX hM hP (by omega) hn ⟨i0, ci⟩ go
      · refine ew_sw (v := 42) i238_33 c33 (t := 1449) (by decide) rfl ?_
        exact D_count hX hM hP (by omega) hn ⟨i0, ci⟩ go
      · refine ew_tswD (t := 1472) i238_33 (by omega) c33 (by decide) ?_
        refine ew_iinc_3 i238_1472 rfl ?_
        refine ev_goto i238_1475 ?_
        exact go _ _ _ _ _ _ _ _ _ _ _ hX.up hM.up hP
  · refine ev_iloadn_3 i238_18 ?_
    refine ev_aloadn_0 i238_19 ?_
    refine ew_alen i238_20 rfl ?_
    refine ew_bipush i238_21 (by decide) ?_
    refine ew_isub i238_23 ?_
    refine ew_icmpgt i238_24 (by omega) (fun c24 => ?_) (fun c24 => ?_)
    · refine ew_iconst i238_1478 ?_
      exact ec_zret i238_1479 (congrArg Prod.fst r238) (by decide) (by decide +kernel) (by decide +kernel) (hK _)
    · exfalso; omega
end LP0
def zI2 : Nat → Nat → Int32 := (ts_up (ts_up (ts_up (ts_up (ts_up (ts_up (ts_up (ts_up (ts_up zz 37 6 (zI (-2))) 42 3 (zI (16))) 93 ((0 : Int)).toNat (zI (-1))) 93 ((0 : Int) + 1).toNat (zI (-1))) 93 ((0 : Int) + 1 + 1).toNat (zI (-1))) 93 ((0 : Int) + 1 + 1 + 1).toNat (zI (-1))) 93 ((0 : Int) + 1 + 1 + 1 + 1).toNat (zI (-1))) 93 ((0 : Int) + 1 + 1 + 1 + 1 + 1).toNat (zI (-1))) 72 12 (zI (-1)))
abbrev z_f : ts_Fl := (0, 0, 0, fun _ => 0, fun _ => 0, fun _ => 0, fun _ => 0, fun _ => 0, fun _ => 0, fun _ => 0, fun _ _ => 0)
abbrev z_s : ts_Sh := (fun _ => -1, fun _ => 0, fun _ _ => 0)
abbrev z_c : ts_Ch := (0, 0, fun _ => 0, fun _ => 0, fun _ => 0, fun _ => 0)
abbrev z_t : ts_Ta := (0, fun _ => 0)
abbrev z_b : ts_Bo := (0, 0, fun _ => 0, fun _ => 0)
abbrev z_w : ts_Lw := (0, fun _ => 0)
abbrev z_e : ts_De := (fun _ => 0, fun _ => 0)
abbrev z_im : ts_Im := (0, fun _ => 0, z_e)
theorem ts_up_o {α : Type} {f : Nat → Nat → α} {a j b k : Nat} {v : α} (h : ¬ (b = a ∧ k = j)) : ts_up f a j v b k = f b k := by
  unfold ts_up
  by_cases c : b = a
  · rw [if_pos c, if_neg (fun e => h ⟨c, e⟩), c]
  · rw [if_neg c]
theorem zI2_0 {a k : Nat} (h : ¬ a = 37 ∧ ¬ a = 42 ∧ ¬ a = 93 ∧ ¬ (a = 72 ∧ k = 12)) : zI2 a k = 0 := by
  unfold zI2
  rw [ts_up_o (by omega), ts_up_o (by omega), ts_up_o (by omega), ts_up_o (by omega), ts_up_o (by omega), ts_up_o (by omega), ts_up_o (by omega), ts_up_o (by omega), ts_up_o (by omega)]
  rfl
theorem z_rd {a k : Nat} {hi : Int} (h : ¬ a = 37 ∧ ¬ a = 42 ∧ ¬ a = 93 ∧ ¬ (a = 72 ∧ k = 12)) (h0 : 0 ≤ hi) : rd (zI2 a k) 0 hi 0 := by
  rw [zI2_0 h]
  exact ⟨rfl, Int.le_refl _, h0⟩
theorem z_ar {a : Nat} {n hi : Int} (h : ¬ a = 37 ∧ ¬ a = 42 ∧ ¬ a = 93 ∧ ¬ a = 72) (h0 : 0 ≤ hi) : ar zI2 a n 0 hi (fun _ => 0) := fun p p0 p1 => z_rd (by omega) h0
theorem z_arf {a : Nat} {o n hi : Int} (h : ¬ a = 37 ∧ ¬ a = 42 ∧ ¬ a = 93 ∧ ¬ a = 72) (h0 : 0 ≤ hi) : arf zI2 a o n 0 hi (fun _ => 0) := fun p p0 p1 => z_rd (by omega) h0
theorem z_rl {a k : Nat} : rl (zzL a k) (-9223372036854775808) 9223372036854775807 0 := ⟨rfl, by decide, by decide⟩
theorem Z_X : XR zI2 zzL false 0 z_f z_s z_c z_t z_b z_w z_e z_im := by
  refine ⟨⟨z_rd (by decide) (by decide), z_rd (by decide) (by decide), z_rd (by decide) (by decide), z_ar (by decide) (by decide), z_ar (by decide) (by decide), z_ar (by decide) (by decide), z_ar (by decide) (by decide), z_ar (by decide) (by decide), z_ar (by decide) (by decide), z_ar (by decide) (by decide), fun s s0 s1 => z_ar (by omega) (by decide)⟩, fun q hq => ⟨z_rd (by omega) (by decide), fun h => absurd h (by show ¬ (0 : Int) ≤ -1; decide), fun h => absurd h (by show ¬ (50 : Int) ≤ -1; decide), z_rd (by omega) (by decide), fun k k0 k1 => z_rl⟩, ⟨z_rd (by decide) (by decide), z_rd (by decide) (by decide), z_ar (by decide) (by decide), z_ar (by decide) (by decide), z_ar (by decide) (by decide), z_ar (by decide) (by decide)⟩, ⟨z_rd (by decide) (by decide), z_ar (by decide) (by decide)⟩, ⟨z_rd (by decide) (by decide), z_rd (by decide) (by decide), z_ar (by decide) (by decide), z_ar (by decide) (by decide)⟩, ⟨z_rd (by decide) (by decide), fun h => absurd h (by decide)⟩, ⟨z_ar (by decide) (by decide), z_ar (by decide) (by decide)⟩, ⟨z_rd (by decide) (by decide), z_ar (by decide) (by decide), z_ar (by decide) (by decide), z_ar (by decide) (by decide)⟩⟩
theorem Z_M : MR zI2 zzL 0 z_f z_s z_c z_t z_b z_w z_e z_im := by
  refine ⟨⟨z_rd (by decide) (by decide), z_rd (by decide) (by decide), z_rd (by decide) (by decide), z_ar (by decide) (by decide), z_arf (by decide) (by decide), z_arf (by decide) (by decide), z_arf (by decide) (by decide), z_arf (by decide) (by decide), z_arf (by decide) (by decide), z_ar (by decide) (by decide), fun s s0 s1 => z_arf (by decide) (by decide)⟩, ⟨fun q q0 q1 => ?_, z_ar (by decide) (by decide), fun q q0 q1 k k0 k1 => z_rl⟩, ⟨z_rd (by decide) (by decide), z_rd (by decide) (by decide), z_ar (by decide) (by decide), z_ar (by decide) (by decide), z_ar (by decide) (by decide)⟩, ⟨z_rd (by decide) (by decide), z_ar (by decide) (by decide)⟩, ⟨z_rd (by decide) (by decide), z_rd (by decide) (by decide), z_ar (by decide) (by decide), z_ar (by decide) (by decide)⟩, ⟨by decide, fun _ => ⟨rfl, by decide, by decide⟩, fun h => absurd h (by decide)⟩, ⟨z_ar (by decide) (by decide), z_ar (by decide) (by decide)⟩, ⟨z_rd (by decide) (by decide), z_ar (by decide) (by decide), z_ar (by decide) (by decide), z_ar (by decide) (by decide)⟩⟩
  rcases (show q = 0 ∨ q = 1 ∨ q = 2 ∨ q = 3 ∨ q = 4 ∨ q = 5 by omega) with rfl | rfl | rfl | rfl | rfl | rfl <;> exact ⟨rfl, by decide, by decide⟩
theorem Z_P : PR z_f z_s z_c z_b z_w := ⟨⟨fun _ _ _ _ => rfl, fun s h0 h1 => absurd h1 (by show ¬ s < 0; omega)⟩, fun q q0 q1 => ⟨by show (-1 : Int) ≤ -1; decide, by show (-1 : Int) ≤ 54; decide, fun _ => rfl, fun h => absurd h (by show ¬ (-1 : Int) = 50; decide)⟩, ⟨by show (0 : Int) ≤ 0; decide, fun k k0 k1 => absurd k1 (by show ¬ k < 0; omega)⟩, fun q q0 q1 _ => by show (-1 : Int) < 0; decide, fun N => ⟨by show (-2147483648 : Int) ≤ 0; decide, by show (0 : Int) ≤ 2147483647; decide⟩⟩
theorem D_law0 (X : ts_X) (hX : X.1 ≤ 3072) : ts_Ev X (ts_Cal X 400) 238 [] (fun r _ => r = some (.int 1)) 0 [.ref 1000, .null, .null, .null] [] (zz, zzL, [], []) := by
  obtain ⟨n, xf⟩ := X
  show ts_Ev (n, xf) (tsC n xf 300) 238 [] (fun r _ => r = some (.int 1)) 0 [.ref 1000, .null, .null, .null] [] (zz, zzL, tp_0, ts_S0.take 0)
  refine ec_new (ci := 11) (a := 1) (c := 13) (P' := tp_1) (S' := ts_S0.take 1) i238_0 (by decide +kernel) rfl (by decide +kernel) rfl (fun k => rfl) rfl (by decide +kernel) ?_
  refine ev_dup i238_3 rfl ?_
  refine ec_spec0 (q := 2) i238_4 g238_4 (Or.inl rfl) (by decide) (Nat.le_of_ble_eq_true rfl) (by decide +kernel) (ct_1 (fun x hx k => rfl) ?_)
  refine ev_astoren_1 i238_7 rfl ?_
  refine ec_new (ci := 12) (a := 72) (c := 42) (P' := tp_130) (S' := ts_S0.take 72) i238_8 (by decide +kernel) rfl (by decide +kernel) rfl (fun k => rfl) rfl (by decide +kernel) ?_
  refine ev_dup i238_11 rfl ?_
  refine ec_spec0 (q := 2) i238_12 g238_12 (Or.inl rfl) (by decide) (Nat.le_of_ble_eq_true rfl) (by decide +kernel) (ct_20 (fun x hx k => by rw [ts_up_na (by omega), ts_up_na (by omega)]; rfl) ?_)
  rw [tp_end, tS_end]
  refine ev_astoren_2 i238_15 rfl ?_
  refine ew_iconst i238_16 ?_
  refine ev_istoren_3 i238_17 rfl ?_
  exact D_loop (d := 300) hX (fun h => rfl) 0 0 0 _ _ false _ _ _ _ _ _ _ _ (by decide) (by decide) (by decide) (by omega) Z_X Z_M Z_P
