/-! THE INT FORM: every int is zI a with a : Int, every long zL a; bounds are left to omega -/
def zI (n : Int) : Int32 := Int32.ofInt n
def zL (n : Int) : Int64 := Int64.ofInt n
/-- in the range of an int, of a long -/
def zr (a : Int) : Prop := -2147483648 ≤ a ∧ a ≤ 2147483647
def zrl (a : Int) : Prop := -9223372036854775808 ≤ a ∧ a ≤ 9223372036854775807
theorem zI_of (x : Int32) : zI x.toInt = x := Int32.ofInt_toInt x
theorem zL_of (x : Int64) : zL x.toInt = x := Int64.ofInt_toInt x
theorem zI_r (x : Int32) : -2147483648 ≤ x.toInt ∧ x.toInt ≤ 2147483647 := ⟨by have := Int32.le_toInt x; omega, by have := Int32.toInt_lt x; omega⟩
theorem zL_r (x : Int64) : -9223372036854775808 ≤ x.toInt ∧ x.toInt ≤ 9223372036854775807 := ⟨by have := Int64.le_toInt x; omega, by have := Int64.toInt_lt x; omega⟩
theorem zI_T {a : Int} (h : -2147483648 ≤ a ∧ a ≤ 2147483647) : (zI a).toInt = a := Int32.toInt_ofInt_of_le (by omega) (by omega)
theorem zL_T {a : Int} (h : -9223372036854775808 ≤ a ∧ a ≤ 9223372036854775807) : (zL a).toInt = a := Int64.toInt_ofInt_of_le (by omega) (by omega)
theorem zI_ex (x : Int32) : ∃ a : Int, x = zI a ∧ -2147483648 ≤ a ∧ a ≤ 2147483647 := ⟨x.toInt, (zI_of x).symm, zI_r x⟩
theorem zL_ex (x : Int64) : ∃ a : Int, x = zL a ∧ -9223372036854775808 ≤ a ∧ a ≤ 9223372036854775807 := ⟨x.toInt, (zL_of x).symm, zL_r x⟩
theorem zI_add (a b : Int) : zI (a + b) = zI a + zI b := Int32.ofInt_add a b
theorem zI_sub (a b : Int) : zI (a - b) = zI a - zI b := Int32.ofInt_sub a b
theorem zI_mul (a b : Int) : zI (a * b) = zI a * zI b := Int32.ofInt_mul a b
theorem zI_neg (a : Int) : zI (-a) = -zI a := Int32.neg_ofInt.symm
theorem zL_add (a b : Int) : zL (a + b) = zL a + zL b := Int64.ofInt_add a b
theorem zL_mul (a b : Int) : zL (a * b) = zL a * zL b := Int64.ofInt_mul a b
theorem zL_sub (a b : Int) : zL (a - b) = zL a - zL b := Int64.ofInt_sub a b
theorem zI_nI (n : Nat) : nI n = zI n := Int32.ofInt_eq_ofNat.symm
theorem zI_lt {a b : Int} (h : (-2147483648 ≤ a ∧ a ≤ 2147483647) ∧ (-2147483648 ≤ b ∧ b ≤ 2147483647)) : zI a < zI b ↔ a < b := by rw [Int32.lt_iff_toInt_lt, zI_T h.1, zI_T h.2]
theorem zI_le {a b : Int} (h : (-2147483648 ≤ a ∧ a ≤ 2147483647) ∧ (-2147483648 ≤ b ∧ b ≤ 2147483647)) : zI a ≤ zI b ↔ a ≤ b := by rw [Int32.le_iff_toInt_le, zI_T h.1, zI_T h.2]
theorem zI_eq {a b : Int} (h : (-2147483648 ≤ a ∧ a ≤ 2147483647) ∧ (-2147483648 ≤ b ∧ b ≤ 2147483647)) : zI a = zI b ↔ a = b := ⟨fun q => by rw [← zI_T h.1, ← zI_T h.2, q], fun q => by rw [q]⟩
theorem zI_cl {a : Int} (h : -2147483648 ≤ a ∧ a ≤ 2147483647) : (zI a).toNatClampNeg = a.toNat := by rw [← Int32.toNat_toInt, zI_T h]
theorem zI_in {a : Int} {n : Nat} (h0 : 0 ≤ a) (h1 : a < n) (hr : a ≤ 2147483647) : vp_in (zI a) n := vp_in_iff.mpr (by rw [zI_T ⟨by omega, hr⟩]; exact ⟨h0, h1⟩)
theorem zI_div {a b : Int} (ha : 0 ≤ a ∧ a ≤ 2147483647) (hb : 0 < b ∧ b ≤ 2147483647) : zI (a / b) = zI a / zI b := by
  rw [← Int.tdiv_eq_ediv_of_nonneg ha.1]
  exact Int32.ofInt_tdiv (by show (-2147483648 : Int) ≤ a; omega) (by show a ≤ (2147483647 : Int); omega) (by show (-2147483648 : Int) ≤ b; omega) (by show b ≤ (2147483647 : Int); omega)
theorem zI_rem {a b : Int} (ha : 0 ≤ a ∧ a ≤ 2147483647) (hb : 0 < b ∧ b ≤ 2147483647) : zI (a % b) = ts_rem (zI a) (zI b) := by
  unfold ts_rem
  rw [← zI_div ha hb, ← zI_mul, ← zI_sub, Int.emod_def, Int.mul_comm]
theorem zI_tdiv {a b : Int} (ha : -2147483648 ≤ a ∧ a ≤ 2147483647) (hb : -2147483648 ≤ b ∧ b ≤ 2147483647) : zI (a.tdiv b) = zI a / zI b := Int32.ofInt_tdiv (by show (-2147483648 : Int) ≤ a; omega) (by show a ≤ (2147483647 : Int); omega) (by show (-2147483648 : Int) ≤ b; omega) (by show b ≤ (2147483647 : Int); omega)
theorem zI_tmod {a b : Int} (ha : -2147483648 ≤ a ∧ a ≤ 2147483647) (hb : -2147483648 ≤ b ∧ b ≤ 2147483647) : zI (a.tmod b) = ts_rem (zI a) (zI b) := by
  unfold ts_rem
  rw [← zI_tdiv ha hb, ← zI_mul, ← zI_sub, Int.tmod_def, Int.mul_comm]
theorem zL_div {a b : Int} (ha : 0 ≤ a ∧ a ≤ 9223372036854775807) (hb : 0 < b ∧ b ≤ 9223372036854775807) : zL (a / b) = zL a / zL b := by
  rw [← Int.tdiv_eq_ediv_of_nonneg ha.1]
  exact Int64.ofInt_tdiv (by show (-9223372036854775808 : Int) ≤ a; omega) (by show a ≤ (9223372036854775807 : Int); omega) (by show (-9223372036854775808 : Int) ≤ b; omega) (by show b ≤ (9223372036854775807 : Int); omega)
theorem zL_rem {a b : Int} (ha : 0 ≤ a ∧ a ≤ 9223372036854775807) (hb : 0 < b ∧ b ≤ 9223372036854775807) : zL (a % b) = ts_lrem (zL a) (zL b) := by
  unfold ts_lrem
  rw [← zL_div ha hb, ← zL_mul, ← zL_sub, Int.emod_def, Int.mul_comm]
theorem zI_l {a : Int} (h : -2147483648 ≤ a ∧ a ≤ 2147483647) : (zI a).toInt64 = zL a := Int32.toInt64_ofInt (by show (-2147483648 : Int) ≤ a; omega) (by show a ≤ (2147483647 : Int); omega)
theorem zL_i (a : Int) : (zL a).toInt32 = zI a := Int64.toInt32_ofInt
def zcmp (a b : Int) : Int := if b < a then 1 else if a = b then 0 else -1
theorem zL_cmp {a b : Int} (ha : -9223372036854775808 ≤ a ∧ a ≤ 9223372036854775807) (hb : -9223372036854775808 ≤ b ∧ b ≤ 9223372036854775807) : lg_cmp (zL a) (zL b) = zI (if b < a then 1 else if a = b then 0 else -1) := by
  have e1 : (zL a > zL b) ↔ b < a := by rw [gt_iff_lt, Int64.lt_iff_toInt_lt, zL_T ha, zL_T hb]
  have e2 : (zL a = zL b) ↔ a = b := ⟨fun q => by rw [← zL_T ha, ← zL_T hb, q], fun q => by rw [q]⟩
  unfold lg_cmp
  by_cases h1 : b < a
  · rw [if_pos (e1.mpr h1), if_pos h1]; rfl
  · rw [if_neg (fun q => h1 (e1.mp q)), if_neg h1]
    by_cases h2 : a = b
    · rw [if_pos (e2.mpr h2), if_pos h2]; rfl
    · rw [if_neg (fun q => h2 (e2.mp q)), if_neg h2]; rfl
/-- bits of ints -/
def zand (a b : Int) : Int := (zI a &&& zI b).toInt
theorem zand_r (a b : Int) : -2147483648 ≤ zand a b ∧ zand a b ≤ 2147483647 := zI_r _
/-- bits of ints -/
def zor (a b : Int) : Int := (zI a ||| zI b).toInt
theorem zor_r (a b : Int) : -2147483648 ≤ zor a b ∧ zor a b ≤ 2147483647 := zI_r _
/-- bits of ints -/
def zxor (a b : Int) : Int := (zI a ^^^ zI b).toInt
theorem zxor_r (a b : Int) : -2147483648 ≤ zxor a b ∧ zxor a b ≤ 2147483647 := zI_r _
/-- bits of ints -/
def zshl (a b : Int) : Int := (zI a <<< (zI b &&& 31)).toInt
theorem zshl_r (a b : Int) : -2147483648 ≤ zshl a b ∧ zshl a b ≤ 2147483647 := zI_r _
/-- bits of ints -/
def zshr (a b : Int) : Int := (zI a >>> (zI b &&& 31)).toInt
theorem zshr_r (a b : Int) : -2147483648 ≤ zshr a b ∧ zshr a b ≤ 2147483647 := zI_r _
/-- bits of ints -/
def zushr (a b : Int) : Int := (ts_ushr (zI a) (zI b)).toInt
theorem zushr_r (a b : Int) : -2147483648 ≤ zushr a b ∧ zushr a b ≤ 2147483647 := zI_r _
def zland (a b : Int) : Int := (zL a &&& zL b).toInt
theorem zland_r (a b : Int) : -9223372036854775808 ≤ zland a b ∧ zland a b ≤ 9223372036854775807 := zL_r _
def zlor (a b : Int) : Int := (zL a ||| zL b).toInt
theorem zlor_r (a b : Int) : -9223372036854775808 ≤ zlor a b ∧ zlor a b ≤ 9223372036854775807 := zL_r _
def zlshl (a b : Int) : Int := (zL a <<< ((zI b).toInt64 &&& 63)).toInt
theorem zlshl_r (a b : Int) : -9223372036854775808 ≤ zlshl a b ∧ zlshl a b ≤ 9223372036854775807 := zL_r _
def zi2b (a : Int) : Int := ((zI a).toInt8.toInt32).toInt
theorem zi2b_r (a : Int) : -2147483648 ≤ zi2b a ∧ zi2b a ≤ 2147483647 := zI_r _
def zi2s (a : Int) : Int := ((zI a).toInt16.toInt32).toInt
theorem zi2s_r (a : Int) : -2147483648 ≤ zi2s a ∧ zi2s a ≤ 2147483647 := zI_r _
def zi2c (a : Int) : Int := (ts_i2c (zI a)).toInt
theorem zi2c_r (a : Int) : -2147483648 ≤ zi2c a ∧ zi2c a ≤ 2147483647 := zI_r _
/-- a cell's int, within bounds -/
def rd (x : Int32) (lo hi v : Int) : Prop := x = zI v ∧ lo ≤ v ∧ v ≤ hi
def rl (x : Int64) (lo hi v : Int) : Prop := x = zL v ∧ lo ≤ v ∧ v ≤ hi
theorem rd_any (x : Int32) : rd x (-2147483648) 2147483647 x.toInt := ⟨(zI_of x).symm, zI_r x⟩
theorem rl_any (x : Int64) : rl x (-9223372036854775808) 9223372036854775807 x.toInt := ⟨(zL_of x).symm, zL_r x⟩
theorem rd_zI {lo hi v : Int} (h : lo ≤ v ∧ v ≤ hi) : rd (zI v) lo hi v := ⟨rfl, h⟩
theorem rl_zL {lo hi v : Int} (h : lo ≤ v ∧ v ≤ hi) : rl (zL v) lo hi v := ⟨rfl, h⟩
/-- row a holds g on 0 .. n-1, within bounds -/
def ar (I : Nat → Nat → Int32) (a : Nat) (n lo hi : Int) (g : Int → Int) : Prop := ∀ p : Int, 0 ≤ p → p < n → rd (I a p.toNat) lo hi (g p)
/-- row a from place o on -/
def arf (I : Nat → Nat → Int32) (a : Nat) (o n lo hi : Int) (g : Int → Int) : Prop := ∀ p : Int, 0 ≤ p → p < n → rd (I a (o + p).toNat) lo hi (g p)
def zu (g : Int → Int) (p v : Int) : Int → Int := fun q => if q = p then v else g q
theorem zu_e (g : Int → Int) (p v : Int) : zu g p v p = v := if_pos rfl
theorem zu_n {g : Int → Int} {p v q : Int} (h : ¬ q = p) : zu g p v q = g q := if_neg h
theorem ts_up_e {α : Type} (f : Nat → Nat → α) (a j : Nat) (v : α) : ts_up f a j v a j = v := by unfold ts_up; rw [if_pos rfl, if_pos rfl]
theorem ts_up_nj {α : Type} {f : Nat → Nat → α} {a j k : Nat} {v : α} (h : ¬ k = j) : ts_up f a j v a k = f a k := by unfold ts_up; rw [if_pos rfl, if_neg h]
theorem ts_up_na {α : Type} {f : Nat → Nat → α} {a j b : Nat} {v : α} (h : ¬ b = a) : ts_up f a j v b = f b := by funext k; unfold ts_up; rw [if_neg h]
theorem ar_up {I : Nat → Nat → Int32} {a : Nat} {n lo hi : Int} {g : Int → Int} (h : ar I a n lo hi g) {p v : Int} (hp : 0 ≤ p) (hv : lo ≤ v ∧ v ≤ hi) : ar (ts_up I a p.toNat (zI v)) a n lo hi (zu g p v) := by
  intro q h0 h1
  by_cases e : q = p
  · subst e
    rw [ts_up_e, zu_e]
    exact rd_zI hv
  · rw [ts_up_nj (by omega), zu_n e]
    exact h q h0 h1
theorem arf_up {I : Nat → Nat → Int32} {a : Nat} {o n lo hi : Int} {g : Int → Int} (h : arf I a o n lo hi g) {p v : Int} (ho : 0 ≤ o) (hp : 0 ≤ p) (hv : lo ≤ v ∧ v ≤ hi) : arf (ts_up I a (o + p).toNat (zI v)) a o n lo hi (zu g p v) := by
  intro q h0 h1
  by_cases e : q = p
  · subst e
    rw [ts_up_e, zu_e]
    exact rd_zI hv
  · rw [ts_up_nj (by omega), zu_n e]
    exact h q h0 h1
theorem arf_out {I : Nat → Nat → Int32} {a j : Nat} {o n lo hi : Int} {g : Int → Int} {v : Int32} (h : arf I a o n lo hi g) (ho : 0 ≤ o) (hj : (j : Int) < o ∨ o + n ≤ j) : arf (ts_up I a j v) a o n lo hi g := by
  intro q h0 h1
  rw [ts_up_nj (by omega)]
  exact h q h0 h1
/-- all places but those told are the same -/
def fr {α : Type} (C : Nat → Nat → Prop) (I J : Nat → Nat → α) : Prop := ∀ a k, ¬ C a k → J a k = I a k
theorem fr_rfl {α : Type} (C : Nat → Nat → Prop) (I : Nat → Nat → α) : fr C I I := fun _ _ _ => rfl
theorem fr_tr {α : Type} {C : Nat → Nat → Prop} {I J K : Nat → Nat → α} (h : fr C I J) (h2 : fr C J K) : fr C I K := fun a k q => (h2 a k q).trans (h a k q)
theorem fr_mo {α : Type} {C D : Nat → Nat → Prop} {I J : Nat → Nat → α} (h : fr C I J) (hc : ∀ a k, C a k → D a k) : fr D I J := fun a k q => h a k (fun r => q (hc a k r))
theorem fr_up {α : Type} {C : Nat → Nat → Prop} {I J : Nat → Nat → α} {b j : Nat} {v : α} (h : fr C I J) (hb : C b j) : fr C I (ts_up J b j v) := fun a k q => (by
  have e2 : ts_up J b j v a k = J a k := by
    unfold ts_up
    by_cases c : a = b
    · rw [if_pos c, if_neg (fun e => q (by rw [c, e]; exact hb)), c]
    · rw [if_neg c]
  exact e2.trans (h a k q))
theorem fr_cp {α : Type} {C : Nat → Nat → Prop} {I J : Nat → Nat → α} {x i b j n : Nat} (h : fr C I J) (hb : ∀ k, C b k) : fr C I (ts_cp J x i b j n) := fun a k q => (by
  have c : ¬ a = b := fun e => q (e ▸ hb k)
  have e2 : ts_cp J x i b j n a k = J a k := by unfold ts_cp; rw [if_neg c]
  exact e2.trans (h a k q))
theorem fr_row {α : Type} {C : Nat → Nat → Prop} {I J : Nat → Nat → α} (h : fr C I J) {a : Nat} (hc : ∀ k, ¬ C a k) : J a = I a := funext fun k => h a k (hc k)
theorem ar_co {I J : Nat → Nat → Int32} {a : Nat} {n lo hi : Int} {g : Int → Int} (h : ar I a n lo hi g) (e : J a = I a) : ar J a n lo hi g := by intro p h0 h1; rw [e]; exact h p h0 h1
theorem arf_co {I J : Nat → Nat → Int32} {a : Nat} {o n lo hi : Int} {g : Int → Int} (h : arf I a o n lo hi g) (e : J a = I a) : arf J a o n lo hi g := by intro p h0 h1; rw [e]; exact h p h0 h1
theorem ar_cp {I : Nat → Nat → Int32} {a b : Nat} {n lo hi : Int} {g : Int → Int} {N : Nat} (h : ar I a n lo hi g) (hN : (N : Int) = n) : ar (ts_cp I a 0 b 0 N) b n lo hi g := by
  intro p h0 h1
  have e : ts_cp I a 0 b 0 N b p.toNat = I a p.toNat := by unfold ts_cp; rw [if_pos rfl, if_pos (by omega)]; congr 1; omega
  rw [e]
  exact h p h0 h1
theorem zK {K : Option Value → ts_H → Prop} {a b : Int} {h : ts_H} (hK : K (some (.int (zI a))) h) (e : a = b) : K (some (.int (zI b))) h := e ▸ hK
theorem zKl {K : Option Value → ts_H → Prop} {a b : Int} {h : ts_H} (hK : K (some (.long (zL a))) h) (e : a = b) : K (some (.long (zL b))) h := e ▸ hK
/-- going on up to a bound -/
theorem ts_ind {T : Int → Prop} (hi : Int) (st : ∀ j, (j < hi → T (j + 1)) → T j) : ∀ j, T j := by
  have h : ∀ n : Nat, ∀ j : Int, (hi - j).toNat ≤ n → T j := by
    intro n
    induction n with
    | zero => intro j hj; exact st j (fun q => by omega)
    | succ n ih => intro j hj; exact st j (fun q => ih (j + 1) (by omega))
  intro j
  exact h _ j (Nat.le_refl _)
/-- going down to a bound -/
theorem ts_indd {T : Int → Prop} (lo : Int) (st : ∀ j, (lo < j → T (j - 1)) → T j) : ∀ j, T j := by
  have h : ∀ n : Nat, ∀ j : Int, (j - lo).toNat ≤ n → T j := by
    intro n
    induction n with
    | zero => intro j hj; exact st j (fun q => by omega)
    | succ n ih => intro j hj; exact st j (fun q => ih (j - 1) (by omega))
  intro j
  exact h _ j (Nat.le_refl _)
section ZRULES
variable {X : ts_X} {d m : Nat} {E : ts_S} {Q : Option Value → ts_H → Prop} {pc nx tg : Nat} {lv st : List Value} {h : ts_H} {I : Nat → Nat → Int32} {L : Nat → Nat → Int64} {P : List (List Nat)} {S : ts_S}
theorem ew_iconst {n : Int} (hi : ts_ins m pc = some (.iconst n, nx, tg)) (k : ts_Ev X (ts_Cal X d) m E Q nx lv (.int (zI n) :: st) h) : ts_Ev X (ts_Cal X d) m E Q pc lv st h := ev_iconst hi rfl k
theorem ew_bipush {n : Int} (hi : ts_ins m pc = some (.bipush n, nx, tg)) (hv : (Int8.ofInt n).toInt32 = zI n) (k : ts_Ev X (ts_Cal X d) m E Q nx lv (.int (zI n) :: st) h) : ts_Ev X (ts_Cal X d) m E Q pc lv st h := ev_bipush hi hv k
theorem ew_sipush {n : Int} (hi : ts_ins m pc = some (.sipush n, nx, tg)) (hv : (Int16.ofInt n).toInt32 = zI n) (k : ts_Ev X (ts_Cal X d) m E Q nx lv (.int (zI n) :: st) h) : ts_Ev X (ts_Cal X d) m E Q pc lv st h := ev_sipush hi hv k
theorem ew_lconst {n : Fin 2} {z : Int} (hi : ts_ins m pc = some (.lconst n, nx, tg)) (hv : Int64.ofNat (n : Nat) = zL z) (k : ts_Ev X (ts_Cal X d) m E Q nx lv (.long (zL z) :: st) h) : ts_Ev X (ts_Cal X d) m E Q pc lv st h := ev_lconst hi hv k
theorem ew_ldc {n : Nat} {v : Int32} {z : Int} (hi : ts_ins m pc = some (.ldc n, nx, tg)) (hg : ts_lc (ts_mc m) n = some (.int v)) (hv : v = zI z) (k : ts_Ev X (ts_Cal X d) m E Q nx lv (.int (zI z) :: st) h) : ts_Ev X (ts_Cal X d) m E Q pc lv st h := ev_ldc hi hg (hv ▸ k)
theorem ew_ldc_w {n : Nat} {v : Int32} {z : Int} (hi : ts_ins m pc = some (.ldc_w n, nx, tg)) (hg : ts_lc (ts_mc m) n = some (.int v)) (hv : v = zI z) (k : ts_Ev X (ts_Cal X d) m E Q nx lv (.int (zI z) :: st) h) : ts_Ev X (ts_Cal X d) m E Q pc lv st h := ev_ldc_w hi hg (hv ▸ k)
theorem ew_ldc2_w {n : Nat} {v : Int64} {z : Int} (hi : ts_ins m pc = some (.ldc2_w n, nx, tg)) (hg : ts_lc (ts_mc m) n = some (.long v)) (hv : v = zL z) (k : ts_Ev X (ts_Cal X d) m E Q nx lv (.long (zL z) :: st) h) : ts_Ev X (ts_Cal X d) m E Q pc lv st h := ev_ldc2_w hi hg (hv ▸ k)
theorem ew_iinc_0 {a n : Int} (hi : ts_ins m pc = some (.iinc 0 n, nx, tg)) (k : ts_Ev X (ts_Cal X d) m E Q nx (.int (zI (a + n)) :: lv) st h) : ts_Ev X (ts_Cal X d) m E Q pc (.int (zI a) :: lv) st h := ev_iinc_0 hi rfl (by rw [zI_add] at k; exact k)
theorem ew_iinc_1 {v0 : Value} {a n : Int} (hi : ts_ins m pc = some (.iinc 1 n, nx, tg)) (hn : ts_nl v0 = true) (k : ts_Ev X (ts_Cal X d) m E Q nx (v0 :: .int (zI (a + n)) :: lv) st h) : ts_Ev X (ts_Cal X d) m E Q pc (v0 :: .int (zI a) :: lv) st h := ev_iinc_1 hi hn rfl (by rw [zI_add] at k; exact k)
theorem ew_iinc_2 {v0 v1 : Value} {a n : Int} (hi : ts_ins m pc = some (.iinc 2 n, nx, tg)) (hn : ts_nl v1 = true) (k : ts_Ev X (ts_Cal X d) m E Q nx (v0 :: v1 :: .int (zI (a + n)) :: lv) st h) : ts_Ev X (ts_Cal X d) m E Q pc (v0 :: v1 :: .int (zI a) :: lv) st h := ev_iinc_2 hi hn rfl (by rw [zI_add] at k; exact k)
theorem ew_iinc_3 {v0 v1 v2 : Value} {a n : Int} (hi : ts_ins m pc = some (.iinc 3 n, nx, tg)) (hn : ts_nl v2 = true) (k : ts_Ev X (ts_Cal X d) m E Q nx (v0 :: v1 :: v2 :: .int (zI (a + n)) :: lv) st h) : ts_Ev X (ts_Cal X d) m E Q pc (v0 :: v1 :: v2 :: .int (zI a) :: lv) st h := ev_iinc_3 hi hn rfl (by rw [zI_add] at k; exact k)
theorem ew_iinc_4 {v0 v1 v2 v3 : Value} {a n : Int} (hi : ts_ins m pc = some (.iinc 4 n, nx, tg)) (hn : ts_nl v3 = true) (k : ts_Ev X (ts_Cal X d) m E Q nx (v0 :: v1 :: v2 :: v3 :: .int (zI (a + n)) :: lv) st h) : ts_Ev X (ts_Cal X d) m E Q pc (v0 :: v1 :: v2 :: v3 :: .int (zI a) :: lv) st h := ev_iinc_4 hi hn rfl (by rw [zI_add] at k; exact k)
theorem ew_iinc_5 {v0 v1 v2 v3 v4 : Value} {a n : Int} (hi : ts_ins m pc = some (.iinc 5 n, nx, tg)) (hn : ts_nl v4 = true) (k : ts_Ev X (ts_Cal X d) m E Q nx (v0 :: v1 :: v2 :: v3 :: v4 :: .int (zI (a + n)) :: lv) st h) : ts_Ev X (ts_Cal X d) m E Q pc (v0 :: v1 :: v2 :: v3 :: v4 :: .int (zI a) :: lv) st h := ev_iinc_5 hi hn rfl (by rw [zI_add] at k; exact k)
theorem ew_iinc_6 {v0 v1 v2 v3 v4 v5 : Value} {a n : Int} (hi : ts_ins m pc = some (.iinc 6 n, nx, tg)) (hn : ts_nl v5 = true) (k : ts_Ev X (ts_Cal X d) m E Q nx (v0 :: v1 :: v2 :: v3 :: v4 :: v5 :: .int (zI (a + n)) :: lv) st h) : ts_Ev X (ts_Cal X d) m E Q pc (v0 :: v1 :: v2 :: v3 :: v4 :: v5 :: .int (zI a) :: lv) st h := ev_iinc_6 hi hn rfl (by rw [zI_add] at k; exact k)
theorem ew_iinc_7 {v0 v1 v2 v3 v4 v5 v6 : Value} {a n : Int} (hi : ts_ins m pc = some (.iinc 7 n, nx, tg)) (hn : ts_nl v6 = true) (k : ts_Ev X (ts_Cal X d) m E Q nx (v0 :: v1 :: v2 :: v3 :: v4 :: v5 :: v6 :: .int (zI (a + n)) :: lv) st h) : ts_Ev X (ts_Cal X d) m E Q pc (v0 :: v1 :: v2 :: v3 :: v4 :: v5 :: v6 :: .int (zI a) :: lv) st h := ev_iinc_7 hi hn rfl (by rw [zI_add] at k; exact k)
theorem ew_iinc_8 {v0 v1 v2 v3 v4 v5 v6 v7 : Value} {a n : Int} (hi : ts_ins m pc = some (.iinc 8 n, nx, tg)) (hn : ts_nl v7 = true) (k : ts_Ev X (ts_Cal X d) m E Q nx (v0 :: v1 :: v2 :: v3 :: v4 :: v5 :: v6 :: v7 :: .int (zI (a + n)) :: lv) st h) : ts_Ev X (ts_Cal X d) m E Q pc (v0 :: v1 :: v2 :: v3 :: v4 :: v5 :: v6 :: v7 :: .int (zI a) :: lv) st h := ev_iinc_8 hi hn rfl (by rw [zI_add] at k; exact k)
theorem ew_iinc_9 {v0 v1 v2 v3 v4 v5 v6 v7 v8 : Value} {a n : Int} (hi : ts_ins m pc = some (.iinc 9 n, nx, tg)) (hn : ts_nl v8 = true) (k : ts_Ev X (ts_Cal X d) m E Q nx (v0 :: v1 :: v2 :: v3 :: v4 :: v5 :: v6 :: v7 :: v8 :: .int (zI (a + n)) :: lv) st h) : ts_Ev X (ts_Cal X d) m E Q pc (v0 :: v1 :: v2 :: v3 :: v4 :: v5 :: v6 :: v7 :: v8 :: .int (zI a) :: lv) st h := ev_iinc_9 hi hn rfl (by rw [zI_add] at k; exact k)
theorem ew_iinc_10 {v0 v1 v2 v3 v4 v5 v6 v7 v8 v9 : Value} {a n : Int} (hi : ts_ins m pc = some (.iinc 10 n, nx, tg)) (hn : ts_nl v9 = true) (k : ts_Ev X (ts_Cal X d) m E Q nx (v0 :: v1 :: v2 :: v3 :: v4 :: v5 :: v6 :: v7 :: v8 :: v9 :: .int (zI (a + n)) :: lv) st h) : ts_Ev X (ts_Cal X d) m E Q pc (v0 :: v1 :: v2 :: v3 :: v4 :: v5 :: v6 :: v7 :: v8 :: v9 :: .int (zI a) :: lv) st h := ev_iinc_10 hi hn rfl (by rw [zI_add] at k; exact k)
theorem ew_iinc_11 {v0 v1 v2 v3 v4 v5 v6 v7 v8 v9 v10 : Value} {a n : Int} (hi : ts_ins m pc = some (.iinc 11 n, nx, tg)) (hn : ts_nl v10 = true) (k : ts_Ev X (ts_Cal X d) m E Q nx (v0 :: v1 :: v2 :: v3 :: v4 :: v5 :: v6 :: v7 :: v8 :: v9 :: v10 :: .int (zI (a + n)) :: lv) st h) : ts_Ev X (ts_Cal X d) m E Q pc (v0 :: v1 :: v2 :: v3 :: v4 :: v5 :: v6 :: v7 :: v8 :: v9 :: v10 :: .int (zI a) :: lv) st h := ev_iinc_11 hi hn rfl (by rw [zI_add] at k; exact k)
theorem ew_iadd {a b : Int} (hi : ts_ins m pc = some (.iadd, nx, tg)) (k : ts_Ev X (ts_Cal X d) m E Q nx lv (.int (zI (a + b)) :: st) h) : ts_Ev X (ts_Cal X d) m E Q pc lv (.int (zI b) :: .int (zI a) :: st) h := ev_iadd hi (by rw [zI_add] at k; exact k)
theorem ew_isub {a b : Int} (hi : ts_ins m pc = some (.isub, nx, tg)) (k : ts_Ev X (ts_Cal X d) m E Q nx lv (.int (zI (a - b)) :: st) h) : ts_Ev X (ts_Cal X d) m E Q pc lv (.int (zI b) :: .int (zI a) :: st) h := ev_isub hi (by rw [zI_sub] at k; exact k)
theorem ew_imul {a b : Int} (hi : ts_ins m pc = some (.imul, nx, tg)) (k : ts_Ev X (ts_Cal X d) m E Q nx lv (.int (zI (a * b)) :: st) h) : ts_Ev X (ts_Cal X d) m E Q pc lv (.int (zI b) :: .int (zI a) :: st) h := ev_imul hi (by rw [zI_mul] at k; exact k)
theorem ew_iand {a b : Int} (hi : ts_ins m pc = some (.iand, nx, tg)) (k : ts_Ev X (ts_Cal X d) m E Q nx lv (.int (zI (zand a b)) :: st) h) : ts_Ev X (ts_Cal X d) m E Q pc lv (.int (zI b) :: .int (zI a) :: st) h := ev_iand hi (by unfold zand at k; rw [zI_of] at k; exact k)
theorem ew_ior {a b : Int} (hi : ts_ins m pc = some (.ior, nx, tg)) (k : ts_Ev X (ts_Cal X d) m E Q nx lv (.int (zI (zor a b)) :: st) h) : ts_Ev X (ts_Cal X d) m E Q pc lv (.int (zI b) :: .int (zI a) :: st) h := ev_ior hi (by unfold zor at k; rw [zI_of] at k; exact k)
theorem ew_ixor {a b : Int} (hi : ts_ins m pc = some (.ixor, nx, tg)) (k : ts_Ev X (ts_Cal X d) m E Q nx lv (.int (zI (zxor a b)) :: st) h) : ts_Ev X (ts_Cal X d) m E Q pc lv (.int (zI b) :: .int (zI a) :: st) h := ev_ixor hi (by unfold zxor at k; rw [zI_of] at k; exact k)
theorem ew_ishl {a b : Int} (hi : ts_ins m pc = some (.ishl, nx, tg)) (k : ts_Ev X (ts_Cal X d) m E Q nx lv (.int (zI (zshl a b)) :: st) h) : ts_Ev X (ts_Cal X d) m E Q pc lv (.int (zI b) :: .int (zI a) :: st) h := ev_ishl hi (by unfold zshl at k; rw [zI_of] at k; exact k)
theorem ew_ishr {a b : Int} (hi : ts_ins m pc = some (.ishr, nx, tg)) (k : ts_Ev X (ts_Cal X d) m E Q nx lv (.int (zI (zshr a b)) :: st) h) : ts_Ev X (ts_Cal X d) m E Q pc lv (.int (zI b) :: .int (zI a) :: st) h := ev_ishr hi (by unfold zshr at k; rw [zI_of] at k; exact k)
theorem ew_iushr {a b : Int} (hi : ts_ins m pc = some (.iushr, nx, tg)) (k : ts_Ev X (ts_Cal X d) m E Q nx lv (.int (zI (zushr a b)) :: st) h) : ts_Ev X (ts_Cal X d) m E Q pc lv (.int (zI b) :: .int (zI a) :: st) h := ev_iushr hi (by unfold zushr at k; rw [zI_of] at k; exact k)
theorem ew_ineg {a : Int} (hi : ts_ins m pc = some (.ineg, nx, tg)) (k : ts_Ev X (ts_Cal X d) m E Q nx lv (.int (zI (-a)) :: st) h) : ts_Ev X (ts_Cal X d) m E Q pc lv (.int (zI a) :: st) h := ev_ineg hi (by rw [zI_neg] at k; exact k)
theorem ew_i2b {a : Int} (hi : ts_ins m pc = some (.i2b, nx, tg)) (k : ts_Ev X (ts_Cal X d) m E Q nx lv (.int (zI (zi2b a)) :: st) h) : ts_Ev X (ts_Cal X d) m E Q pc lv (.int (zI a) :: st) h := ev_i2b hi (by unfold zi2b at k; rw [zI_of] at k; exact k)
theorem ew_i2s {a : Int} (hi : ts_ins m pc = some (.i2s, nx, tg)) (k : ts_Ev X (ts_Cal X d) m E Q nx lv (.int (zI (zi2s a)) :: st) h) : ts_Ev X (ts_Cal X d) m E Q pc lv (.int (zI a) :: st) h := ev_i2s hi (by unfold zi2s at k; rw [zI_of] at k; exact k)
theorem ew_i2c {a : Int} (hi : ts_ins m pc = some (.i2c, nx, tg)) (k : ts_Ev X (ts_Cal X d) m E Q nx lv (.int (zI (zi2c a)) :: st) h) : ts_Ev X (ts_Cal X d) m E Q pc lv (.int (zI a) :: st) h := ev_i2c hi (by unfold zi2c at k; rw [zI_of] at k; exact k)
theorem ew_idiv {a b : Int} (hi : ts_ins m pc = some (.idiv, nx, tg)) (ha : 0 ≤ a ∧ a ≤ 2147483647) (hb : 0 < b ∧ b ≤ 2147483647) (k : ts_Ev X (ts_Cal X d) m E Q nx lv (.int (zI (a / b)) :: st) h) : ts_Ev X (ts_Cal X d) m E Q pc lv (.int (zI b) :: .int (zI a) :: st) h := ev_idiv hi (fun q => by have q2 := congrArg Int32.toInt q; rw [zI_T (by omega)] at q2; have q3 : (0 : Int32).toInt = 0 := rfl; omega) (by rw [zI_div ha hb] at k; exact k)
theorem ew_irem {a b : Int} (hi : ts_ins m pc = some (.irem, nx, tg)) (ha : 0 ≤ a ∧ a ≤ 2147483647) (hb : 0 < b ∧ b ≤ 2147483647) (k : ts_Ev X (ts_Cal X d) m E Q nx lv (.int (zI (a % b)) :: st) h) : ts_Ev X (ts_Cal X d) m E Q pc lv (.int (zI b) :: .int (zI a) :: st) h := ev_irem hi (fun q => by have q2 := congrArg Int32.toInt q; rw [zI_T (by omega)] at q2; have q3 : (0 : Int32).toInt = 0 := rfl; omega) (by rw [zI_rem ha hb] at k; exact k)
theorem ew_iremB {a b : Int} (hi : ts_ins m pc = some (.irem, nx, tg)) (ha : 0 ≤ a ∧ a ≤ 2147483647) (hb : 0 < b ∧ b ≤ 2147483647) (k : 0 ≤ a % b ∧ a % b < b → ts_Ev X (ts_Cal X d) m E Q nx lv (.int (zI (a % b)) :: st) h) : ts_Ev X (ts_Cal X d) m E Q pc lv (.int (zI b) :: .int (zI a) :: st) h := ew_irem hi ha hb (k ⟨Int.emod_nonneg _ (by omega), Int.emod_lt_of_pos _ hb.1⟩)
theorem ew_idivS {a b : Int} (hi : ts_ins m pc = some (.idiv, nx, tg)) (ha : -2147483648 ≤ a ∧ a ≤ 2147483647) (hb : ¬ b = 0 ∧ -2147483648 ≤ b ∧ b ≤ 2147483647) (k : ts_Ev X (ts_Cal X d) m E Q nx lv (.int (zI (a.tdiv b)) :: st) h) : ts_Ev X (ts_Cal X d) m E Q pc lv (.int (zI b) :: .int (zI a) :: st) h := ev_idiv hi (fun q => by have q2 := congrArg Int32.toInt q; rw [zI_T (by omega)] at q2; have q3 : (0 : Int32).toInt = 0 := rfl; omega) (by rw [zI_tdiv ha hb.2] at k; exact k)
theorem ew_iremS {a b : Int} (hi : ts_ins m pc = some (.irem, nx, tg)) (ha : -2147483648 ≤ a ∧ a ≤ 2147483647) (hb : ¬ b = 0 ∧ -2147483648 ≤ b ∧ b ≤ 2147483647) (k : ts_Ev X (ts_Cal X d) m E Q nx lv (.int (zI (a.tmod b)) :: st) h) : ts_Ev X (ts_Cal X d) m E Q pc lv (.int (zI b) :: .int (zI a) :: st) h := ev_irem hi (fun q => by have q2 := congrArg Int32.toInt q; rw [zI_T (by omega)] at q2; have q3 : (0 : Int32).toInt = 0 := rfl; omega) (by rw [zI_tmod ha hb.2] at k; exact k)
theorem ew_ldiv {a b : Int} (hi : ts_ins m pc = some (.ldiv, nx, tg)) (ha : 0 ≤ a ∧ a ≤ 9223372036854775807) (hb : 0 < b ∧ b ≤ 9223372036854775807) (k : ts_Ev X (ts_Cal X d) m E Q nx lv (.long (zL (a / b)) :: st) h) : ts_Ev X (ts_Cal X d) m E Q pc lv (.long (zL b) :: .long (zL a) :: st) h := ev_ldiv hi (fun q => by have q2 := congrArg Int64.toInt q; rw [zL_T (by omega)] at q2; have q3 : (0 : Int64).toInt = 0 := rfl; omega) (by rw [zL_div ha hb] at k; exact k)
theorem ew_lrem {a b : Int} (hi : ts_ins m pc = some (.lrem, nx, tg)) (ha : 0 ≤ a ∧ a ≤ 9223372036854775807) (hb : 0 < b ∧ b ≤ 9223372036854775807) (k : ts_Ev X (ts_Cal X d) m E Q nx lv (.long (zL (a % b)) :: st) h) : ts_Ev X (ts_Cal X d) m E Q pc lv (.long (zL b) :: .long (zL a) :: st) h := ev_lrem hi (fun q => by have q2 := congrArg Int64.toInt q; rw [zL_T (by omega)] at q2; have q3 : (0 : Int64).toInt = 0 := rfl; omega) (by rw [zL_rem ha hb] at k; exact k)
theorem ew_ladd {a b : Int} (hi : ts_ins m pc = some (.ladd, nx, tg)) (k : ts_Ev X (ts_Cal X d) m E Q nx lv (.long (zL (a + b)) :: st) h) : ts_Ev X (ts_Cal X d) m E Q pc lv (.long (zL b) :: .long (zL a) :: st) h := ev_ladd hi (by rw [zL_add] at k; exact k)
theorem ew_lmul {a b : Int} (hi : ts_ins m pc = some (.lmul, nx, tg)) (k : ts_Ev X (ts_Cal X d) m E Q nx lv (.long (zL (a * b)) :: st) h) : ts_Ev X (ts_Cal X d) m E Q pc lv (.long (zL b) :: .long (zL a) :: st) h := ev_lmul hi (by rw [zL_mul] at k; exact k)
theorem ew_land {a b : Int} (hi : ts_ins m pc = some (.land, nx, tg)) (k : ts_Ev X (ts_Cal X d) m E Q nx lv (.long (zL (zland a b)) :: st) h) : ts_Ev X (ts_Cal X d) m E Q pc lv (.long (zL b) :: .long (zL a) :: st) h := ev_land hi (by unfold zland at k; rw [zL_of] at k; exact k)
theorem ew_lor {a b : Int} (hi : ts_ins m pc = some (.lor, nx, tg)) (k : ts_Ev X (ts_Cal X d) m E Q nx lv (.long (zL (zlor a b)) :: st) h) : ts_Ev X (ts_Cal X d) m E Q pc lv (.long (zL b) :: .long (zL a) :: st) h := ev_lor hi (by unfold zlor at k; rw [zL_of] at k; exact k)
theorem ew_lshl {a b : Int} (hi : ts_ins m pc = some (.lshl, nx, tg)) (k : ts_Ev X (ts_Cal X d) m E Q nx lv (.long (zL (zlshl a b)) :: st) h) : ts_Ev X (ts_Cal X d) m E Q pc lv (.int (zI b) :: .long (zL a) :: st) h := ev_lshl hi (by unfold zlshl at k; rw [zL_of] at k; exact k)
theorem ew_i2l {a : Int} (hi : ts_ins m pc = some (.i2l, nx, tg)) (hr : (-2147483648 ≤ a ∧ a ≤ 2147483647)) (k : ts_Ev X (ts_Cal X d) m E Q nx lv (.long (zL a) :: st) h) : ts_Ev X (ts_Cal X d) m E Q pc lv (.int (zI a) :: st) h := ev_i2l hi (by rw [zI_l hr]; exact k)
theorem ew_l2i {a : Int} (hi : ts_ins m pc = some (.l2i, nx, tg)) (k : ts_Ev X (ts_Cal X d) m E Q nx lv (.int (zI a) :: st) h) : ts_Ev X (ts_Cal X d) m E Q pc lv (.long (zL a) :: st) h := ev_l2i hi (by rw [zL_i]; exact k)
theorem ew_lcmp {a b : Int} (hi : ts_ins m pc = some (.lcmp, nx, tg)) (ha : (-9223372036854775808 ≤ a ∧ a ≤ 9223372036854775807)) (hb : (-9223372036854775808 ≤ b ∧ b ≤ 9223372036854775807)) (k : ts_Ev X (ts_Cal X d) m E Q nx lv (.int (zI (if b < a then 1 else if a = b then 0 else -1)) :: st) h) : ts_Ev X (ts_Cal X d) m E Q pc lv (.long (zL b) :: .long (zL a) :: st) h := ev_lcmp hi (by rw [zL_cmp ha hb]; exact k)
theorem ew_ifeq {a : Int} {o : Int} (hi : ts_ins m pc = some (.ifCond .eq o, nx, tg)) (hr : (-2147483648 ≤ a ∧ a ≤ 2147483647)) (kt : a = 0 → ts_Ev X (ts_Cal X d) m E Q tg lv st h) (kf : ¬ (a = 0) → ts_Ev X (ts_Cal X d) m E Q nx lv st h) : ts_Ev X (ts_Cal X d) m E Q pc lv (.int (zI a) :: st) h := by
  have hq := (show (-2147483648 ≤ (0 : Int) ∧ (0 : Int) ≤ 2147483647) from ⟨by decide, by decide⟩)
  have h0 : (0 : Int32) = zI 0 := rfl
  have hq := And.intro hr hq
  refine ev_ifeq hi ?_ ?_ <;> rw [h0]
  · exact (fun q => kt ((zI_eq hq).mp q))
  · exact (fun q => kf (fun e => q ((zI_eq hq).mpr e)))
theorem ew_icmpeq {a b : Int} {o : Int} (hi : ts_ins m pc = some (.if_icmp .eq o, nx, tg)) (hr : (-2147483648 ≤ a ∧ a ≤ 2147483647) ∧ (-2147483648 ≤ b ∧ b ≤ 2147483647)) (kt : a = b → ts_Ev X (ts_Cal X d) m E Q tg lv st h) (kf : ¬ (a = b) → ts_Ev X (ts_Cal X d) m E Q nx lv st h) : ts_Ev X (ts_Cal X d) m E Q pc lv (.int (zI b) :: .int (zI a) :: st) h := by
  have hq := hr
  exact ev_icmpeq hi (fun q => kt ((zI_eq hq).mp q)) (fun q => kf (fun e => q ((zI_eq hq).mpr e)))
theorem ew_ifne {a : Int} {o : Int} (hi : ts_ins m pc = some (.ifCond .ne o, nx, tg)) (hr : (-2147483648 ≤ a ∧ a ≤ 2147483647)) (kt : ¬ a = 0 → ts_Ev X (ts_Cal X d) m E Q tg lv st h) (kf : a = 0 → ts_Ev X (ts_Cal X d) m E Q nx lv st h) : ts_Ev X (ts_Cal X d) m E Q pc lv (.int (zI a) :: st) h := by
  have hq := (show (-2147483648 ≤ (0 : Int) ∧ (0 : Int) ≤ 2147483647) from ⟨by decide, by decide⟩)
  have h0 : (0 : Int32) = zI 0 := rfl
  have hq := And.intro hr hq
  refine ev_ifne hi ?_ ?_ <;> rw [h0]
  · exact (fun q => kt (fun e => q ((zI_eq hq).mpr e)))
  · exact (fun q => kf ((zI_eq hq).mp q))
theorem ew_icmpne {a b : Int} {o : Int} (hi : ts_ins m pc = some (.if_icmp .ne o, nx, tg)) (hr : (-2147483648 ≤ a ∧ a ≤ 2147483647) ∧ (-2147483648 ≤ b ∧ b ≤ 2147483647)) (kt : ¬ a = b → ts_Ev X (ts_Cal X d) m E Q tg lv st h) (kf : a = b → ts_Ev X (ts_Cal X d) m E Q nx lv st h) : ts_Ev X (ts_Cal X d) m E Q pc lv (.int (zI b) :: .int (zI a) :: st) h := by
  have hq := hr
  exact ev_icmpne hi (fun q => kt (fun e => q ((zI_eq hq).mpr e))) (fun q => kf ((zI_eq hq).mp q))
theorem ew_iflt {a : Int} {o : Int} (hi : ts_ins m pc = some (.ifCond .lt o, nx, tg)) (hr : (-2147483648 ≤ a ∧ a ≤ 2147483647)) (kt : a < 0 → ts_Ev X (ts_Cal X d) m E Q tg lv st h) (kf : ¬ (a < 0) → ts_Ev X (ts_Cal X d) m E Q nx lv st h) : ts_Ev X (ts_Cal X d) m E Q pc lv (.int (zI a) :: st) h := by
  have hq := (show (-2147483648 ≤ (0 : Int) ∧ (0 : Int) ≤ 2147483647) from ⟨by decide, by decide⟩)
  have h0 : (0 : Int32) = zI 0 := rfl
  have hq := And.intro hr hq
  refine ev_iflt hi ?_ ?_ <;> rw [h0]
  · exact (fun q => kt ((zI_lt hq).mp q))
  · exact (fun q => kf (fun e => q ((zI_lt hq).mpr e)))
theorem ew_icmplt {a b : Int} {o : Int} (hi : ts_ins m pc = some (.if_icmp .lt o, nx, tg)) (hr : (-2147483648 ≤ a ∧ a ≤ 2147483647) ∧ (-2147483648 ≤ b ∧ b ≤ 2147483647)) (kt : a < b → ts_Ev X (ts_Cal X d) m E Q tg lv st h) (kf : ¬ (a < b) → ts_Ev X (ts_Cal X d) m E Q nx lv st h) : ts_Ev X (ts_Cal X d) m E Q pc lv (.int (zI b) :: .int (zI a) :: st) h := by
  have hq := hr
  exact ev_icmplt hi (fun q => kt ((zI_lt hq).mp q)) (fun q => kf (fun e => q ((zI_lt hq).mpr e)))
theorem ew_ifge {a : Int} {o : Int} (hi : ts_ins m pc = some (.ifCond .ge o, nx, tg)) (hr : (-2147483648 ≤ a ∧ a ≤ 2147483647)) (kt : 0 ≤ a → ts_Ev X (ts_Cal X d) m E Q tg lv st h) (kf : ¬ (0 ≤ a) → ts_Ev X (ts_Cal X d) m E Q nx lv st h) : ts_Ev X (ts_Cal X d) m E Q pc lv (.int (zI a) :: st) h := by
  have hq := (show (-2147483648 ≤ (0 : Int) ∧ (0 : Int) ≤ 2147483647) from ⟨by decide, by decide⟩)
  have h0 : (0 : Int32) = zI 0 := rfl
  have hq := And.intro hq hr
  refine ev_ifge hi ?_ ?_ <;> rw [h0]
  · exact (fun q => kt ((zI_le hq).mp q))
  · exact (fun q => kf (fun e => q ((zI_le hq).mpr e)))
theorem ew_icmpge {a b : Int} {o : Int} (hi : ts_ins m pc = some (.if_icmp .ge o, nx, tg)) (hr : (-2147483648 ≤ a ∧ a ≤ 2147483647) ∧ (-2147483648 ≤ b ∧ b ≤ 2147483647)) (kt : b ≤ a → ts_Ev X (ts_Cal X d) m E Q tg lv st h) (kf : ¬ (b ≤ a) → ts_Ev X (ts_Cal X d) m E Q nx lv st h) : ts_Ev X (ts_Cal X d) m E Q pc lv (.int (zI b) :: .int (zI a) :: st) h := by
  have hq := (And.intro hr.2 hr.1)
  exact ev_icmpge hi (fun q => kt ((zI_le hq).mp q)) (fun q => kf (fun e => q ((zI_le hq).mpr e)))
theorem ew_ifgt {a : Int} {o : Int} (hi : ts_ins m pc = some (.ifCond .gt o, nx, tg)) (hr : (-2147483648 ≤ a ∧ a ≤ 2147483647)) (kt : 0 < a → ts_Ev X (ts_Cal X d) m E Q tg lv st h) (kf : ¬ (0 < a) → ts_Ev X (ts_Cal X d) m E Q nx lv st h) : ts_Ev X (ts_Cal X d) m E Q pc lv (.int (zI a) :: st) h := by
  have hq := (show (-2147483648 ≤ (0 : Int) ∧ (0 : Int) ≤ 2147483647) from ⟨by decide, by decide⟩)
  have h0 : (0 : Int32) = zI 0 := rfl
  have hq := And.intro hq hr
  refine ev_ifgt hi ?_ ?_ <;> rw [h0]
  · exact (fun q => kt ((zI_lt hq).mp q))
  · exact (fun q => kf (fun e => q ((zI_lt hq).mpr e)))
theorem ew_icmpgt {a b : Int} {o : Int} (hi : ts_ins m pc = some (.if_icmp .gt o, nx, tg)) (hr : (-2147483648 ≤ a ∧ a ≤ 2147483647) ∧ (-2147483648 ≤ b ∧ b ≤ 2147483647)) (kt : b < a → ts_Ev X (ts_Cal X d) m E Q tg lv st h) (kf : ¬ (b < a) → ts_Ev X (ts_Cal X d) m E Q nx lv st h) : ts_Ev X (ts_Cal X d) m E Q pc lv (.int (zI b) :: .int (zI a) :: st) h := by
  have hq := (And.intro hr.2 hr.1)
  exact ev_icmpgt hi (fun q => kt ((zI_lt hq).mp q)) (fun q => kf (fun e => q ((zI_lt hq).mpr e)))
theorem ew_ifle {a : Int} {o : Int} (hi : ts_ins m pc = some (.ifCond .le o, nx, tg)) (hr : (-2147483648 ≤ a ∧ a ≤ 2147483647)) (kt : a ≤ 0 → ts_Ev X (ts_Cal X d) m E Q tg lv st h) (kf : ¬ (a ≤ 0) → ts_Ev X (ts_Cal X d) m E Q nx lv st h) : ts_Ev X (ts_Cal X d) m E Q pc lv (.int (zI a) :: st) h := by
  have hq := (show (-2147483648 ≤ (0 : Int) ∧ (0 : Int) ≤ 2147483647) from ⟨by decide, by decide⟩)
  have h0 : (0 : Int32) = zI 0 := rfl
  have hq := And.intro hr hq
  refine ev_ifle hi ?_ ?_ <;> rw [h0]
  · exact (fun q => kt ((zI_le hq).mp q))
  · exact (fun q => kf (fun e => q ((zI_le hq).mpr e)))
theorem ew_icmple {a b : Int} {o : Int} (hi : ts_ins m pc = some (.if_icmp .le o, nx, tg)) (hr : (-2147483648 ≤ a ∧ a ≤ 2147483647) ∧ (-2147483648 ≤ b ∧ b ≤ 2147483647)) (kt : a ≤ b → ts_Ev X (ts_Cal X d) m E Q tg lv st h) (kf : ¬ (a ≤ b) → ts_Ev X (ts_Cal X d) m E Q nx lv st h) : ts_Ev X (ts_Cal X d) m E Q pc lv (.int (zI b) :: .int (zI a) :: st) h := by
  have hq := hr
  exact ev_icmple hi (fun q => kt ((zI_le hq).mp q)) (fun q => kf (fun e => q ((zI_le hq).mpr e)))
theorem ew_ifeqB {p : Prop} [Decidable p] {o : Int} (hi : ts_ins m pc = some (.ifCond .eq o, nx, tg)) (kt : ¬ p → ts_Ev X (ts_Cal X d) m E Q tg lv st h) (kf : p → ts_Ev X (ts_Cal X d) m E Q nx lv st h) : ts_Ev X (ts_Cal X d) m E Q pc lv (.int (zI (if p then 1 else 0)) :: st) h := by
  by_cases hp : p
  · rw [if_pos hp]; exact ev_ifeq hi (fun q => absurd q (by decide)) (fun _ => kf hp)
  · rw [if_neg hp]; exact ev_ifeq hi (fun _ => kt hp) (fun q => absurd rfl q)
theorem ew_ifneB {p : Prop} [Decidable p] {o : Int} (hi : ts_ins m pc = some (.ifCond .ne o, nx, tg)) (kt : p → ts_Ev X (ts_Cal X d) m E Q tg lv st h) (kf : ¬ p → ts_Ev X (ts_Cal X d) m E Q nx lv st h) : ts_Ev X (ts_Cal X d) m E Q pc lv (.int (zI (if p then 1 else 0)) :: st) h := by
  by_cases hp : p
  · rw [if_pos hp]; exact ev_ifne hi (fun _ => kt hp) (fun q => absurd q (by decide))
  · rw [if_neg hp]; exact ev_ifne hi (fun q => absurd rfl q) (fun _ => kf hp)
theorem ew_sw {a v : Int} {i : Instr} {t : Nat} (hi : ts_ins m pc = some (i, nx, tg)) (hc : a = v) (hs : ts_sw i pc (zI v) = some t) (hk : (match i with | .tableswitch _ _ _ _ => true | .lookupswitch _ _ => true | _ => false) = true) (k : ts_Ev X (ts_Cal X d) m E Q t lv st h) : ts_Ev X (ts_Cal X d) m E Q pc lv (.int (zI a) :: st) h := by
  subst hc
  cases i <;> first | exact ev_tsw hi hs k | exact ev_lsw hi hs k | (cases hk; done)
theorem ew_tswD {a dd lo hh : Int} {os : Array Int} {t : Nat} (hi : ts_ins m pc = some (.tableswitch dd lo hh os, nx, tg)) (hr : (-2147483648 ≤ a ∧ a ≤ 2147483647)) (hc : a < lo ∨ hh < a) (ht : ((pc : Int) + dd).toNat = t) (k : ts_Ev X (ts_Cal X d) m E Q t lv st h) : ts_Ev X (ts_Cal X d) m E Q pc lv (.int (zI a) :: st) h := ev_tsw hi (by unfold ts_sw; simp only [zI_T hr]; rw [if_pos hc, ht]) k
theorem ew_lswD {a dd o : Int} {ps : Array (Int × Int)} {t : Nat} (hi : ts_ins m pc = some (.lookupswitch dd ps, nx, tg)) (hr : (-2147483648 ≤ a ∧ a ≤ 2147483647)) (hs : Op.lookupswitch.offset ps.toList dd a = o) (ht : ((pc : Int) + o).toNat = t) (k : ts_Ev X (ts_Cal X d) m E Q t lv st h) : ts_Ev X (ts_Cal X d) m E Q pc lv (.int (zI a) :: st) h := ev_lsw hi (by unfold ts_sw; simp only [zI_T hr]; rw [hs, ht]) k
theorem ew_getI {n a ci j : Nat} {lo hh v : Int} (hi : ts_ins m pc = some (.getfield n, nx, tg)) (hg : ts_fm m n = some (ci, j, 0)) (hs : ts_isI S a ci = true) (hv : rd (I a j) lo hh v) (k : lo ≤ v ∧ v ≤ hh → ts_Ev X (ts_Cal X d) m E Q nx lv (.int (zI v) :: st) (I, L, P, S)) : ts_Ev X (ts_Cal X d) m E Q pc lv (.ref a :: st) (I, L, P, S) := ev_getI hi hg hs (by rw [hv.1]; exact k hv.2)
theorem ew_getZ {n a ci j : Nat} {lo hh v : Int} (hi : ts_ins m pc = some (.getfield n, nx, tg)) (hg : ts_fm m n = some (ci, j, 1)) (hs : ts_isI S a ci = true) (hv : rd (I a j) lo hh v) (k : lo ≤ v ∧ v ≤ hh → ts_Ev X (ts_Cal X d) m E Q nx lv (.int (zI v) :: st) (I, L, P, S)) : ts_Ev X (ts_Cal X d) m E Q pc lv (.ref a :: st) (I, L, P, S) := ev_getZ hi hg hs (by rw [hv.1]; exact k hv.2)
theorem ew_iaload {a n : Nat} {x lo hh v : Int} {f : Nat → Int32} (hi : ts_ins m pc = some (.iaload, nx, tg)) (ha : ts_ai X I S a = some (n, f)) (h0 : 0 ≤ x) (h1 : x < (n : Int)) (h2 : x ≤ 2147483647) (hv : rd (f x.toNat) lo hh v) (k : lo ≤ v ∧ v ≤ hh → ts_Ev X (ts_Cal X d) m E Q nx lv (.int (zI v) :: st) (I, L, P, S)) : ts_Ev X (ts_Cal X d) m E Q pc lv (.int (zI x) :: .ref a :: st) (I, L, P, S) := ev_iaload hi ha (zI_in h0 h1 h2) (by rw [zI_cl ⟨by omega, h2⟩, hv.1]; exact k hv.2)
theorem ew_laload {a n : Nat} {x lo hh v : Int} (hi : ts_ins m pc = some (.laload, nx, tg)) (ha : ts_sA S a = some (1, n)) (h0 : 0 ≤ x) (h1 : x < (n : Int)) (h2 : x ≤ 2147483647) (hv : rl (L a x.toNat) lo hh v) (k : lo ≤ v ∧ v ≤ hh → ts_Ev X (ts_Cal X d) m E Q nx lv (.long (zL v) :: st) (I, L, P, S)) : ts_Ev X (ts_Cal X d) m E Q pc lv (.int (zI x) :: .ref a :: st) (I, L, P, S) := ev_laload hi ha (zI_in h0 h1 h2) (by rw [zI_cl ⟨by omega, h2⟩, hv.1]; exact k hv.2)
theorem ew_aaload {a n q : Nat} {x : Int} (hi : ts_ins m pc = some (.aaload, nx, tg)) (ha : ts_sA S a = some (2, n)) (h0 : 0 ≤ x) (h1 : x < (n : Int)) (h2 : x ≤ 2147483647) (hp : ts_pg P a x.toNat = some q) (hq : ¬ q = 0) (k : ts_Ev X (ts_Cal X d) m E Q nx lv (.ref q :: st) (I, L, P, S)) : ts_Ev X (ts_Cal X d) m E Q pc lv (.int (zI x) :: .ref a :: st) (I, L, P, S) := ev_aaload hi ha (zI_in h0 h1 h2) (by rw [zI_cl ⟨by omega, h2⟩]; exact hp) hq k
theorem ew_aaloadG {a n q : Nat} {x : Int} (hi : ts_ins m pc = some (.aaload, nx, tg)) (ha : ts_sA S a = some (3, n)) (h0 : 0 ≤ x) (h1 : x < (n : Int)) (h2 : x ≤ 2147483647) (hp : ts_pg P a x.toNat = some q) (hq : ¬ q = 0) (k : ts_Ev X (ts_Cal X d) m E Q nx lv (.ref q :: st) (I, L, P, S)) : ts_Ev X (ts_Cal X d) m E Q pc lv (.int (zI x) :: .ref a :: st) (I, L, P, S) := ev_aaloadG hi ha (zI_in h0 h1 h2) (by rw [zI_cl ⟨by omega, h2⟩]; exact hp) hq k
theorem ew_baload {x lo hh v : Int} (hi : ts_ins m pc = some (.baload, nx, tg)) (h0 : 0 ≤ x) (h1 : x < 6) (hv : rd (ts_tx.getD x.toNat 0) lo hh v) (k : lo ≤ v ∧ v ≤ hh → ts_Ev X (ts_Cal X d) m E Q nx lv (.int (zI v) :: st) (I, L, P, S)) : ts_Ev X (ts_Cal X d) m E Q pc lv (.int (zI x) :: .ref 1005 :: st) (I, L, P, S) := ev_baload hi (zI_in h0 h1 (by omega)) (by rw [zI_cl ⟨by omega, by omega⟩, hv.1]; exact k hv.2)
theorem ew_iastore {a n : Nat} {x : Int} {v : Int32} (hi : ts_ins m pc = some (.iastore, nx, tg)) (ha : ts_sA S a = some (0, n)) (h0 : 0 ≤ x) (h1 : x < (n : Int)) (h2 : x ≤ 2147483647) (k : ts_Ev X (ts_Cal X d) m E Q nx lv st (ts_up I a x.toNat v, L, P, S)) : ts_Ev X (ts_Cal X d) m E Q pc lv (.int v :: .int (zI x) :: .ref a :: st) (I, L, P, S) := ev_iastore hi ha (zI_in h0 h1 h2) (by rw [zI_cl ⟨by omega, h2⟩]; exact k)
theorem ew_lastore {a n : Nat} {x : Int} {v : Int64} (hi : ts_ins m pc = some (.lastore, nx, tg)) (ha : ts_sA S a = some (1, n)) (h0 : 0 ≤ x) (h1 : x < (n : Int)) (h2 : x ≤ 2147483647) (k : ts_Ev X (ts_Cal X d) m E Q nx lv st (I, ts_up L a x.toNat v, P, S)) : ts_Ev X (ts_Cal X d) m E Q pc lv (.long v :: .int (zI x) :: .ref a :: st) (I, L, P, S) := ev_lastore hi ha (zI_in h0 h1 h2) (by rw [zI_cl ⟨by omega, h2⟩]; exact k)
theorem ew_alen {a n : Nat} (hi : ts_ins m pc = some (.arraylength, nx, tg)) (ha : ts_al X S a = some n) (k : ts_Ev X (ts_Cal X d) m E Q nx lv (.int (zI n) :: st) (I, L, P, S)) : ts_Ev X (ts_Cal X d) m E Q pc lv (.ref a :: st) (I, L, P, S) := ev_alen hi ha (by rw [show Int32.ofNat n = zI n from Int32.ofInt_eq_ofNat.symm]; exact k)
theorem ew_copyI {k z zz a b na nb : Nat} {sp dp n : Int} (hi : ts_ins m pc = some (.invokestatic k, nx, tg)) (hg : ts_cal (ts_mc m) k = some (9, z, zz)) (ha : ts_sA S a = some (0, na)) (hb : ts_sA S b = some (0, nb)) (h1 : 0 ≤ sp ∧ sp ≤ 2147483647) (h2 : 0 ≤ dp ∧ dp ≤ 2147483647) (h3 : 0 ≤ n ∧ n ≤ 2147483647) (h4 : sp + n ≤ na) (h5 : dp + n ≤ nb) (hc : ts_cat st ≤ 8) (kk : ts_Ev X (ts_Cal X d) m E Q nx lv st (ts_cp I a sp.toNat b dp.toNat n.toNat, L, P, S)) : ts_Ev X (ts_Cal X d) m E Q pc lv (.int (zI n) :: .int (zI dp) :: .ref b :: .int (zI sp) :: .ref a :: st) (I, L, P, S) := by
  have q : ∀ {x : Int}, 0 ≤ x → x ≤ 2147483647 → ¬ zI x < 0 := fun h0 h1 => by rw [show (0 : Int32) = zI 0 from rfl, zI_lt ⟨⟨by omega, h1⟩, by decide, by decide⟩]; omega
  have c1 := zI_cl (a := sp) ⟨by omega, h1.2⟩
  have c2 := zI_cl (a := dp) ⟨by omega, h2.2⟩
  have c3 := zI_cl (a := n) ⟨by omega, h3.2⟩
  refine ev_copyI hi hg ha hb (q h1.1 h1.2) (q h2.1 h2.2) (q h3.1 h3.2) (by rw [c1, c3]; omega) (by rw [c2, c3]; omega) hc ?_
  rw [c1, c2, c3]
  exact kk
theorem ew_copyL {k z zz a b na nb : Nat} {sp dp n : Int} (hi : ts_ins m pc = some (.invokestatic k, nx, tg)) (hg : ts_cal (ts_mc m) k = some (9, z, zz)) (ha : ts_sA S a = some (1, na)) (hb : ts_sA S b = some (1, nb)) (h1 : 0 ≤ sp ∧ sp ≤ 2147483647) (h2 : 0 ≤ dp ∧ dp ≤ 2147483647) (h3 : 0 ≤ n ∧ n ≤ 2147483647) (h4 : sp + n ≤ na) (h5 : dp + n ≤ nb) (hc : ts_cat st ≤ 8) (kk : ts_Ev X (ts_Cal X d) m E Q nx lv st (I, ts_cp L a sp.toNat b dp.toNat n.toNat, P, S)) : ts_Ev X (ts_Cal X d) m E Q pc lv (.int (zI n) :: .int (zI dp) :: .ref b :: .int (zI sp) :: .ref a :: st) (I, L, P, S) := by
  have q : ∀ {x : Int}, 0 ≤ x → x ≤ 2147483647 → ¬ zI x < 0 := fun h0 h1 => by rw [show (0 : Int32) = zI 0 from rfl, zI_lt ⟨⟨by omega, h1⟩, by decide, by decide⟩]; omega
  have c1 := zI_cl (a := sp) ⟨by omega, h1.2⟩
  have c2 := zI_cl (a := dp) ⟨by omega, h2.2⟩
  have c3 := zI_cl (a := n) ⟨by omega, h3.2⟩
  refine ev_copyL hi hg ha hb (q h1.1 h1.2) (q h2.1 h2.2) (q h3.1 h3.2) (by rw [c1, c3]; omega) (by rw [c2, c3]; omega) hc ?_
  rw [c1, c2, c3]
  exact kk
theorem ew_mmax {a b : Int} {k z zz : Nat} (hi : ts_ins m pc = some (.invokestatic k, nx, tg)) (hg : ts_cal (ts_mc m) k = some (5, z, zz)) (hc : ts_cat st ≤ 8) (hr : (-2147483648 ≤ a ∧ a ≤ 2147483647) ∧ (-2147483648 ≤ b ∧ b ≤ 2147483647)) (kk : ts_Ev X (ts_Cal X d) m E Q nx lv (.int (zI (if a < b then b else a)) :: st) h) : ts_Ev X (ts_Cal X d) m E Q pc lv (.int (zI b) :: .int (zI a) :: st) h := ev_mmax hi hg hc (by rw [show (if zI a < zI b then zI b else zI a) = zI (if a < b then b else a) from by by_cases q : a < b; rw [if_pos q, if_pos ((zI_lt hr).mpr q)]; rw [if_neg q, if_neg (fun r => q ((zI_lt hr).mp r))]]; exact kk)
theorem ew_mmin {a b : Int} {k z zz : Nat} (hi : ts_ins m pc = some (.invokestatic k, nx, tg)) (hg : ts_cal (ts_mc m) k = some (6, z, zz)) (hc : ts_cat st ≤ 8) (hr : (-2147483648 ≤ a ∧ a ≤ 2147483647) ∧ (-2147483648 ≤ b ∧ b ≤ 2147483647)) (kk : ts_Ev X (ts_Cal X d) m E Q nx lv (.int (zI (if b < a then b else a)) :: st) h) : ts_Ev X (ts_Cal X d) m E Q pc lv (.int (zI b) :: .int (zI a) :: st) h := ev_mmin hi hg hc (by rw [show (if zI b < zI a then zI b else zI a) = zI (if b < a then b else a) from by by_cases q : b < a; rw [if_pos q, if_pos ((zI_lt ⟨hr.2, hr.1⟩).mpr q)]; rw [if_neg q, if_neg (fun r => q ((zI_lt ⟨hr.2, hr.1⟩).mp r))]]; exact kk)
theorem ew_mabs {a : Int} {k z zz : Nat} (hi : ts_ins m pc = some (.invokestatic k, nx, tg)) (hg : ts_cal (ts_mc m) k = some (7, z, zz)) (hc : ts_cat st ≤ 8) (hr : (-2147483648 ≤ a ∧ a ≤ 2147483647)) (kk : ts_Ev X (ts_Cal X d) m E Q nx lv (.int (zI (if 0 ≤ a then a else -a)) :: st) h) : ts_Ev X (ts_Cal X d) m E Q pc lv (.int (zI a) :: st) h := ev_mabs (b := 0) hi hg hc (by
  have h0 : (0 : Int32) = zI 0 := rfl
  rw [show (if 0 ≤ zI a then zI a else 0 - zI a) = zI (if 0 ≤ a then a else -a) from by rw [h0]; by_cases q : 0 ≤ a; rw [if_pos q, if_pos ((zI_le ⟨⟨by decide, by decide⟩, hr⟩).mpr q)]; rw [if_neg q, if_neg (fun r => q ((zI_le ⟨⟨by decide, by decide⟩, hr⟩).mp r)), ← zI_sub, Int.zero_sub]]
  exact kk)
theorem ew_zreturn {p : Prop} [Decidable p] {v : Int} (hi : ts_ins m pc = some (.ireturn, nx, tg)) (hr : ts_rt m = (some .boolean, 0, 0)) (hv : (v = 1 ∧ p) ∨ (v = 0 ∧ ¬ p)) (kq : Q (some (.int (zI (if p then 1 else 0)))) (I, L, P, S)) : ts_Ev X (ts_Cal X d) m S Q pc lv [.int (zI v)] (I, L, P, S) := by
  rcases hv with ⟨rfl, hp⟩ | ⟨rfl, hp⟩
  · rw [if_pos hp] at kq; exact ev_zreturn hi hr (by decide) kq
  · rw [if_neg hp] at kq; exact ev_zreturn hi hr (by decide) kq
end ZRULES
