/-! MASKS of up to sixteen -/
abbrev zbt (a : Int) (i : Nat) : Bool := (zI a).toBitVec.getLsbD i
theorem zbt_ext {a b : Int} (ha : -2147483648 ≤ a ∧ a ≤ 2147483647) (hb : -2147483648 ≤ b ∧ b ≤ 2147483647) (h : ∀ i : Nat, i < 32 → zbt a i = zbt b i) : a = b := by
  have e : (zI a).toBitVec = (zI b).toBitVec := BitVec.eq_of_getLsbD_eq h
  exact (zI_eq ⟨ha, hb⟩).mp (Int32.toBitVec_inj.mp e)
theorem zbt_or (a b : Int) (i : Nat) : zbt (zor a b) i = (zbt a i || zbt b i) := by
  unfold zbt zor
  rw [zI_of, Int32.toBitVec_or, BitVec.getLsbD_or]
theorem zbt_and (a b : Int) (i : Nat) : zbt (zand a b) i = (zbt a i && zbt b i) := by
  unfold zbt zand
  rw [zI_of, Int32.toBitVec_and, BitVec.getLsbD_and]
theorem zbt_xor (a b : Int) (i : Nat) : zbt (zxor a b) i = ((zbt a i) ^^ (zbt b i)) := by
  unfold zbt zxor
  rw [zI_of, Int32.toBitVec_xor, BitVec.getLsbD_xor]
theorem zbt_m1 {i : Nat} (h : i < 32) : zbt (-1) i = true := (by decide +kernel : ∀ i : Nat, i < 32 → zbt (-1) i = true) i h
theorem zbt_1 {p : Nat} (h : p < 16) (i : Nat) : zbt (zshl 1 p) i = decide (p = i) := by
  have e : (zI (zshl 1 p)).toBitVec = BitVec.twoPow 32 p := (by decide +kernel : ∀ p : Nat, p < 16 → (zI (zshl 1 p)).toBitVec = BitVec.twoPow 32 p) p h
  unfold zbt
  rw [e, BitVec.getLsbD_twoPow]
  rw [decide_eq_true (show p < 32 by omega), Bool.true_and]
theorem zbt_shr (a : Int) {p : Nat} (h : p < 16) (i : Nat) : zbt (zshr a p) i = ((zI a).toBitVec.sshiftRight p).getLsbD i := by
  have e : ((zI p &&& 31).toBitVec.smod 32).toNat = p := (by decide +kernel : ∀ p : Nat, p < 16 → ((zI p &&& 31).toBitVec.smod 32).toNat = p) p h
  unfold zbt zshr
  rw [zI_of, Int32.toBitVec_shiftRight]
  show ((zI a).toBitVec.sshiftRight ((zI p &&& 31).toBitVec.smod 32).toNat).getLsbD i = _
  rw [e]
theorem zbt_bits (G : Int → Prop) [DecidablePred G] : ∀ n : Nat, n ≤ 16 → ∀ i : Nat, zbt (zbits G n) i = decide (i < n ∧ G i) := by
  intro n
  induction n with
  | zero =>
    intro _ i
    rw [decide_eq_false (by omega)]
    show ((0 : BitVec 32).getLsbD i) = false
    exact BitVec.getLsbD_zero
  | succ n ih =>
    intro hn i
    have e := ih (by omega) i
    show zbt (if G n then zor (zbits G n) (zshl 1 n) else zbits G n) i = _
    by_cases c : G n
    · rw [if_pos c, zbt_or, e, zbt_1 (by omega)]
      by_cases q : n = i
      · subst q
        rw [decide_eq_true rfl, Bool.or_true, decide_eq_true ⟨by omega, c⟩]
      · rw [decide_eq_false q, Bool.or_false]
        exact decide_eq_decide.mpr ⟨fun r => ⟨by omega, r.2⟩, fun r => ⟨by omega, r.2⟩⟩
    · rw [if_neg c, e]
      refine decide_eq_decide.mpr ⟨fun r => ⟨by omega, r.2⟩, fun r => ⟨?_, r.2⟩⟩
      rcases Nat.lt_or_ge i n with q | q
      · exact q
      · obtain rfl : i = n := by omega
        exact absurd r.2 c
theorem zbits_and (G H : Int → Prop) [DecidablePred G] [DecidablePred H] {n : Nat} (hn : n ≤ 16) : zand (zbits G n) (zbits H n) = zbits (fun k => G k ∧ H k) n := by
  refine zbt_ext (zand_r _ _) (zbits_r _ _) (fun i hi => ?_)
  rw [zbt_and, zbt_bits G n hn, zbt_bits H n hn, zbt_bits _ n hn, ← Bool.decide_and]
  exact decide_eq_decide.mpr ⟨fun r => ⟨r.1.1, r.1.2, r.2.2⟩, fun r => ⟨⟨r.1, r.2.1⟩, r.1, r.2.2⟩⟩
theorem zbits_on (G : Int → Prop) [DecidablePred G] {n : Nat} (hn : n ≤ 16) {p : Int} (hp : 0 ≤ p ∧ p < n) : zor (zbits G n) (zshl 1 p) = zbits (fun k => G k ∨ k = p) n := by
  obtain ⟨p, rfl⟩ := Int.eq_ofNat_of_zero_le hp.1
  refine zbt_ext (zor_r _ _) (zbits_r _ _) (fun i hi => ?_)
  rw [zbt_or, zbt_bits G n hn, zbt_1 (by omega), zbt_bits _ n hn, ← Bool.decide_or]
  exact decide_eq_decide.mpr ⟨fun r => r.elim (fun q => ⟨q.1, Or.inl q.2⟩) (fun q => ⟨by omega, Or.inr (by omega)⟩), fun r => r.2.elim (fun q => Or.inl ⟨r.1, q⟩) (fun q => Or.inr (by omega))⟩
theorem zbits_off (G : Int → Prop) [DecidablePred G] {n : Nat} (hn : n ≤ 16) {p : Int} (hp : 0 ≤ p ∧ p < n) : zand (zbits G n) (zxor (zshl 1 p) (-1)) = zbits (fun k => G k ∧ ¬ k = p) n := by
  obtain ⟨p, rfl⟩ := Int.eq_ofNat_of_zero_le hp.1
  refine zbt_ext (zand_r _ _) (zbits_r _ _) (fun i hi => ?_)
  rw [zbt_and, zbt_bits G n hn, zbt_xor, zbt_m1 hi, Bool.xor_true, zbt_1 (by omega), zbt_bits _ n hn, ← decide_not, ← Bool.decide_and]
  exact decide_eq_decide.mpr ⟨fun r => ⟨r.1.1, r.1.2, by omega⟩, fun r => ⟨⟨r.1, r.2.1⟩, by omega⟩⟩
theorem zbits_bt (G : Int → Prop) [DecidablePred G] {n : Nat} (hn : n ≤ 16) {p : Int} (hp : 0 ≤ p ∧ p < n) : zand (zshr (zbits G n) p) 1 = if G p then 1 else 0 := by
  obtain ⟨p, rfl⟩ := Int.eq_ofNat_of_zero_le hp.1
  refine zbt_ext (zand_r _ _) (by split <;> decide) (fun i hi => ?_)
  rw [zbt_and, zbt_shr _ (by omega), BitVec.getLsbD_sshiftRight]
  rcases Nat.eq_zero_or_pos i with rfl | q
  · have e := zbt_bits G n hn p
    unfold zbt at e
    rw [Nat.add_zero, if_pos (by omega), e]
    by_cases c : G p
    · rw [if_pos c, decide_eq_true (show p < n ∧ G p from ⟨by omega, c⟩)]; rfl
    · rw [if_neg c, decide_eq_false (show ¬ (p < n ∧ G p) from fun r => c r.2)]; rfl
  · have e1 : zbt 1 i = false := (by decide +kernel : ∀ i : Nat, i < 32 → 0 < i → zbt 1 i = false) i hi q
    have e0 : zbt 0 i = false := (by decide +kernel : ∀ i : Nat, i < 32 → zbt 0 i = false) i hi
    rw [e1, Bool.and_false]
    by_cases c : G p
    · rw [if_pos c, e1]
    · rw [if_neg c, e0]
theorem zbits_z0 (G : Int → Prop) [DecidablePred G] {n : Nat} (hn : n ≤ 16) {p : Int} (hp : 0 ≤ p ∧ p < n) (h : zshr (zbits G n) p = 0) : ∀ k, p ≤ k → k < n → ¬ G k := by
  obtain ⟨p, rfl⟩ := Int.eq_ofNat_of_zero_le hp.1
  intro k k0 k1 hg
  obtain ⟨k, rfl⟩ := Int.eq_ofNat_of_zero_le (show 0 ≤ k by omega)
  have e : zbt (zshr (zbits G n) p) (k - p) = false := by rw [h]; exact (by decide +kernel : ∀ i : Nat, i < 32 → zbt 0 i = false) _ (by omega)
  have e2 := zbt_bits G n hn k
  unfold zbt at e2
  rw [zbt_shr _ (by omega), BitVec.getLsbD_sshiftRight, if_pos (by omega), show p + (k - p) = k from by omega, e2, decide_eq_true (show k < n ∧ G k from ⟨by omega, hg⟩), decide_eq_false (show ¬ 32 ≤ k - p by omega)] at e
  exact absurd e (by decide)
