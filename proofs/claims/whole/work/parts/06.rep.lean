/-! how the machine's heap holds the simple one -/
def ts_tr (ad : Nat → Nat) (v : Value) : Value := match v with
  | .ref k => .ref (ad k)
  | v => v
/-- a reference of the simple heap, as the machine has it -/
def ts_po (ad : Nat → Nat) (P : List (List Nat)) (a j : Nat) : Option Nat := match ts_pg P a j with
  | some r => if r = 0 then none else some (ad r)
  | none => none
def ts_fv (ad : Nat → Nat) (h : ts_H) (a ci j : Nat) : Value := if (ts_fk.getD ci []).getD j 9 = 2 then va_rf (ts_po ad h.2.2.1 a j) else .int (h.1 a j)
def ts_ct (cA : Nat → ClassId) (ad : Nat → Nat) (h : ts_H) (a : Nat) (k n : Nat) : va_E :=
  if k = 0 then .inl (cA 0, n, .inl (h.1 a))
  else if k = 1 then .inl (cA 1, n, .inr (.inl (h.2.1 a)))
  else if k < 10 then .inl (cA k, n, .inr (.inr (.inr (.inr (ts_po ad h.2.2.1 a)))))
  else .inr (k - 10, (List.range (ts_nf (k - 10))).map (ts_fv ad h a (k - 10)))
/-- the world -/
def ts_W (cA : Nat → ClassId) (ad : Nat → Nat) (h : ts_H) : va_W := h.2.2.2.zipIdx.map (fun q => (ad (q.2 + 1), ts_ct cA ad h (q.2 + 1) q.1.1 q.1.2))
def ts_at (k : Nat) : FieldType := if k = 0 then .int else if k = 1 then .long else if k = 2 then .object "ThreshedSound$Shelf" else .array .int
def ts_ak (k : Nat) : Nat := if k < 4 then k else 0
def ts_tys (cA : Nat → ClassId) (S : ts_S) : List (ClassId × FieldType) := (cA 0, .int) :: (cA 1, .long) :: S.map (fun q => (cA (ts_ak q.1), ts_at (ts_ak q.1)))
theorem ts_W_get {cA : Nat → ClassId} {ad : Nat → Nat} {h : ts_H} {i k n : Nat} (hs : h.2.2.2[i]? = some (k, n)) : (ts_W cA ad h)[i]? = some (ad (i + 1), ts_ct cA ad h (i + 1) k n) := by
  unfold ts_W
  rw [List.getElem?_map, List.getElem?_zipIdx, hs]
  simp
theorem ts_W_len {cA : Nat → ClassId} {ad : Nat → Nat} {h : ts_H} : (ts_W cA ad h).length = h.2.2.2.length := by simp [ts_W]
theorem ts_tys_get {cA : Nat → ClassId} {S : ts_S} {i k n : Nat} (hs : S[i]? = some (k, n)) (hk : k < 4) : (ts_tys cA S)[i + 2]? = some (cA k, ts_at k) := by
  unfold ts_tys
  show (S.map _)[i]? = _
  rw [List.getElem?_map, hs]
  simp [ts_ak, hk]
theorem ts_sh_some {S : ts_S} {a : Nat} {q : Nat × Nat} (h : ts_sh S a = some q) : ∃ i, a = i + 1 ∧ S[i]? = some q := by
  cases a with
  | zero => cases h
  | succ i => exact ⟨i, rfl, h⟩
theorem ts_sA_some {S : ts_S} {a : Nat} {q : Nat × Nat} (h : ts_sA S a = some q) : a < 1000 ∧ ∃ i, a = i + 1 ∧ S[i]? = some q := by
  unfold ts_sA at h
  cases hb : Nat.blt a 1000 with
  | false => rw [hb] at h; cases h
  | true => rw [hb] at h; exact ⟨by simpa using hb, ts_sh_some h⟩
theorem ts_isI_some {S : ts_S} {a ci : Nat} (h : ts_isI S a ci = true) : a < 1000 ∧ ∃ i n, a = i + 1 ∧ S[i]? = some (10 + ci, n) := by
  unfold ts_isI at h
  rw [Bool.and_eq_true] at h
  obtain ⟨h1, h2⟩ := h
  refine ⟨by simpa using h1, ?_⟩
  cases hs : ts_sh S a with
  | none => rw [hs] at h2; cases h2
  | some q =>
    obtain ⟨k, n⟩ := q
    rw [hs] at h2
    obtain ⟨i, e1, e2⟩ := ts_sh_some hs
    refine ⟨i, n, e1, ?_⟩
    have : k = 10 + ci := Nat.eq_of_beq_eq_true h2
    rw [← this]
    exact e2
theorem ts_ct0 {cA : Nat → ClassId} {ad : Nat → Nat} {h : ts_H} {a n : Nat} : ts_ct cA ad h a 0 n = .inl (cA 0, n, .inl (h.1 a)) := rfl
theorem ts_ct1 {cA : Nat → ClassId} {ad : Nat → Nat} {h : ts_H} {a n : Nat} : ts_ct cA ad h a 1 n = .inl (cA 1, n, .inr (.inl (h.2.1 a))) := rfl
theorem ts_ctq {cA : Nat → ClassId} {ad : Nat → Nat} {h : ts_H} {a k n : Nat} (h2 : k = 2 ∨ k = 3) : ts_ct cA ad h a k n = .inl (cA k, n, .inr (.inr (.inr (.inr (ts_po ad h.2.2.1 a))))) := by
  rcases h2 with rfl | rfl <;> rfl
theorem ts_cto {cA : Nat → ClassId} {ad : Nat → Nat} {h : ts_H} {a ci n : Nat} : ts_ct cA ad h a (10 + ci) n = .inr (ci, (List.range (ts_nf ci)).map (ts_fv ad h a ci)) := by
  unfold ts_ct
  rw [if_neg (by omega), if_neg (by omega), if_neg (by omega), show 10 + ci - 10 = ci by omega]
/-- worlds are equal where their cells are -/
theorem ts_W_ext {cA cA' : Nat → ClassId} {ad ad' : Nat → Nat} {h h' : ts_H} {w : va_W} (hl : w.length = h'.2.2.2.length) (hw : ∀ i k n, h'.2.2.2[i]? = some (k, n) → w[i]? = some (ad' (i + 1), ts_ct cA' ad' h' (i + 1) k n)) : w = ts_W cA' ad' h' := by
  apply List.ext_getElem?
  intro i
  cases hs : h'.2.2.2[i]? with
  | none =>
    have h1 : h'.2.2.2.length ≤ i := List.getElem?_eq_none_iff.mp hs
    rw [List.getElem?_eq_none (by omega), List.getElem?_eq_none (by rw [ts_W_len]; exact h1)]
  | some q =>
    obtain ⟨k, n⟩ := q
    rw [hw i k n hs, ts_W_get hs]
theorem ts_up_row {α : Type} {f : Nat → Nat → α} {a j : Nat} {v : α} : ts_up f a j v a = fun k => if k = j then v else f a k := by
  funext k
  simp [ts_up]
theorem ts_up_off {α : Type} {f : Nat → Nat → α} {a j b : Nat} {v : α} (h : b ≠ a) : ts_up f a j v b = f b := by
  funext k
  simp [ts_up, h]
theorem ts_ct_same {cA : Nat → ClassId} {ad : Nat → Nat} {h h' : ts_H} {b k n : Nat} (h1 : h'.1 b = h.1 b) (h2 : h'.2.1 b = h.2.1 b) (h3 : ∀ j, ts_pg h'.2.2.1 b j = ts_pg h.2.2.1 b j) : ts_ct cA ad h' b k n = ts_ct cA ad h b k n := by
  have e3 : ts_po ad h'.2.2.1 b = ts_po ad h.2.2.1 b := by
    funext j
    simp only [ts_po, h3]
  have e4 : ts_fv ad h' b (k - 10) = ts_fv ad h b (k - 10) := by
    funext j
    simp only [ts_fv, e3, h1]
  simp only [ts_ct, h1, h2, e3, e4]
/-- one cell written -/
theorem ts_W_set {cA : Nat → ClassId} {ad : Nat → Nat} {h h' : ts_H} {i k n : Nat} {e : va_E} (hS : h'.2.2.2 = h.2.2.2) (hs : h.2.2.2[i]? = some (k, n)) (he : ts_ct cA ad h' (i + 1) k n = e) (ho : ∀ b, b ≠ i + 1 → h'.1 b = h.1 b ∧ h'.2.1 b = h.2.1 b ∧ ∀ j, ts_pg h'.2.2.1 b j = ts_pg h.2.2.1 b j) : (ts_W cA ad h).set i (ad (i + 1), e) = ts_W cA ad h' := by
  have hi : i < (ts_W cA ad h).length := by rw [ts_W_len]; exact (List.getElem?_eq_some_iff.mp hs).1
  refine ts_W_ext (cA := cA) (ad := ad) (h := h) (by simp [ts_W_len, hS]) fun b k' n' hb => ?_
  rw [hS] at hb
  by_cases hq : i = b
  · subst hq
    have e0 : some (k, n) = some (k', n') := hs.symm.trans hb
    cases e0
    rw [List.getElem?_set_self hi, he]
  · rw [List.getElem?_set_ne hq, ts_W_get hb]
    obtain ⟨g1, g2, g3⟩ := ho (b + 1) (by omega)
    rw [ts_ct_same g1 g2 g3]
/-- an int array written -/
theorem ts_W_setI {cA : Nat → ClassId} {ad : Nat → Nat} {h : ts_H} {i n j : Nat} {v : Int32} (hs : h.2.2.2[i]? = some (0, n)) : (ts_W cA ad h).set i (ad (i + 1), .inl (cA 0, n, .inl (upd (h.1 (i + 1)) j v))) = ts_W cA ad (ts_up h.1 (i + 1) j v, h.2) := by
  refine ts_W_set rfl hs ?_ fun b hb => ⟨ts_up_off hb, rfl, fun _ => rfl⟩
  show Sum.inl (cA 0, n, Sum.inl (ts_up h.1 (i + 1) j v (i + 1))) = _
  rw [ts_up_row]
  rfl
theorem ts_W_setL {cA : Nat → ClassId} {ad : Nat → Nat} {h : ts_H} {i n j : Nat} {v : Int64} (hs : h.2.2.2[i]? = some (1, n)) : (ts_W cA ad h).set i (ad (i + 1), .inl (cA 1, n, .inr (.inl (vp_updL (h.2.1 (i + 1)) j v)))) = ts_W cA ad (h.1, ts_up h.2.1 (i + 1) j v, h.2.2) := by
  refine ts_W_set rfl hs ?_ fun b hb => ⟨rfl, ts_up_off hb, fun _ => rfl⟩
  show Sum.inl (cA 1, n, Sum.inr (Sum.inl (ts_up h.2.1 (i + 1) j v (i + 1)))) = _
  rw [ts_up_row]
  rfl
theorem ts_cp_row {α : Type} {f : Nat → Nat → α} {a i b j n : Nat} : ts_cp f a i b j n b = va_cpy (f a) (f b) i j n := by
  funext k
  simp [ts_cp, va_cpy]
theorem ts_cp_off {α : Type} {f : Nat → Nat → α} {a i b j n c : Nat} (h : c ≠ b) : ts_cp f a i b j n c = f c := by
  funext k
  simp [ts_cp, h]
theorem ts_W_cpI {cA : Nat → ClassId} {ad : Nat → Nat} {h : ts_H} {i n a x y z : Nat} (hs : h.2.2.2[i]? = some (0, n)) : (ts_W cA ad h).set i (ad (i + 1), .inl (cA 0, n, .inl (va_cpy (h.1 a) (h.1 (i + 1)) x y z))) = ts_W cA ad (ts_cp h.1 a x (i + 1) y z, h.2) := by
  refine ts_W_set rfl hs ?_ fun b hb => ⟨ts_cp_off hb, rfl, fun _ => rfl⟩
  show Sum.inl (cA 0, n, Sum.inl (ts_cp h.1 a x (i + 1) y z (i + 1))) = _
  rw [ts_cp_row]
theorem ts_W_cpL {cA : Nat → ClassId} {ad : Nat → Nat} {h : ts_H} {i n a x y z : Nat} (hs : h.2.2.2[i]? = some (1, n)) : (ts_W cA ad h).set i (ad (i + 1), .inl (cA 1, n, .inr (.inl (va_cpy (h.2.1 a) (h.2.1 (i + 1)) x y z)))) = ts_W cA ad (h.1, ts_cp h.2.1 a x (i + 1) y z, h.2.2) := by
  refine ts_W_set rfl hs ?_ fun b hb => ⟨rfl, ts_cp_off hb, fun _ => rfl⟩
  show Sum.inl (cA 1, n, Sum.inr (Sum.inl (ts_cp h.2.1 a x (i + 1) y z (i + 1)))) = _
  rw [ts_cp_row]
theorem ts_ps_none {P : List (List Nat)} {a j v : Nat} (hr : P[a]? = none) : ts_ps P (a + 1) j v = P := by simp only [ts_ps, hr]
theorem ts_ps_some {P : List (List Nat)} {a j v : Nat} {r : List Nat} (hr : P[a]? = some r) : ts_ps P (a + 1) j v = P.set a (r.set j v) := by simp only [ts_ps, hr]
theorem ts_ps_off {P : List (List Nat)} {a j v b k : Nat} (h : b ≠ a) : ts_pg (ts_ps P a j v) b k = ts_pg P b k := by
  cases a with
  | zero => rfl
  | succ a =>
    cases hr : P[a]? with
    | none => rw [ts_ps_none hr]
    | some r =>
      rw [ts_ps_some hr]
      cases b with
      | zero => rfl
      | succ b =>
        have hq : a ≠ b := by omega
        simp only [ts_pg, List.getElem?_set_ne hq]
theorem ts_ps_row {P : List (List Nat)} {a j v k : Nat} {r : List Nat} (hr : P[a]? = some r) : ts_pg (ts_ps P (a + 1) j v) (a + 1) k = (r.set j v)[k]? := by
  have ha : a < P.length := (List.getElem?_eq_some_iff.mp hr).1
  simp only [ts_ps, hr, ts_pg, List.getElem?_set_self ha]
theorem ts_ps_len {P : List (List Nat)} {a j v : Nat} : (ts_ps P a j v).length = P.length := by
  cases a with
  | zero => rfl
  | succ a =>
    cases hr : P[a]? with
    | none => rw [ts_ps_none hr]
    | some r => rw [ts_ps_some hr]; simp
/-- an object's int field written -/
theorem ts_fv_set {ad : Nat → Nat} {h : ts_H} {a ci j N : Nat} {v : Int32} (hk : ¬ (ts_fk.getD ci []).getD j 9 = 2) : ((List.range N).map (ts_fv ad h a ci)).set j (.int v) = (List.range N).map (ts_fv ad (ts_up h.1 a j v, h.2) a ci) := by
  apply List.ext_getElem?
  intro i
  by_cases hi : i < N
  · by_cases hq : j = i
    · subst hq
      rw [List.getElem?_set_self (by simpa using hi), List.getElem?_map, List.getElem?_range hi]
      simp only [Option.map_some, ts_fv, if_neg hk, ts_up, if_true]
    · rw [List.getElem?_set_ne hq, List.getElem?_map, List.getElem?_map, List.getElem?_range hi]
      have : ts_up h.1 a j v a i = h.1 a i := by simp [ts_up, Ne.symm hq]
      simp only [Option.map_some, ts_fv, this]
  · rw [List.getElem?_eq_none (by simp; omega), List.getElem?_eq_none (by simp; omega)]
theorem ts_W_putI {cA : Nat → ClassId} {ad : Nat → Nat} {h : ts_H} {i ci n j : Nat} {v : Int32} (hs : h.2.2.2[i]? = some (10 + ci, n)) (hk : ¬ (ts_fk.getD ci []).getD j 9 = 2) : (ts_W cA ad h).set i (ad (i + 1), .inr (ci, ((List.range (ts_nf ci)).map (ts_fv ad h (i + 1) ci)).set j (.int v))) = ts_W cA ad (ts_up h.1 (i + 1) j v, h.2) := by
  refine ts_W_set rfl hs ?_ fun b hb => ⟨ts_up_off hb, rfl, fun _ => rfl⟩
  rw [ts_cto, ts_fv_set hk]
theorem ts_fv_setA {ad : Nat → Nat} {h : ts_H} {a ci j v : Nat} {N : Nat} (hk : (ts_fk.getD ci []).getD j 9 = 2) {r : List Nat} (hr : h.2.2.1[a]? = some r) (hj : j < r.length) (hv : ¬ v = 0) : ((List.range N).map (ts_fv ad h (a + 1) ci)).set j (.ref (ad v)) = (List.range N).map (ts_fv ad (h.1, h.2.1, ts_ps h.2.2.1 (a + 1) j v, h.2.2.2) (a + 1) ci) := by
  apply List.ext_getElem?
  intro i
  by_cases hi : i < N
  · have e1 : ts_pg (ts_ps h.2.2.1 (a + 1) j v) (a + 1) i = (r.set j v)[i]? := ts_ps_row hr
    by_cases hq : j = i
    · subst hq
      rw [List.getElem?_set_self (by simpa using hi), List.getElem?_map, List.getElem?_range hi]
      rw [List.getElem?_set_self hj] at e1
      simp only [Option.map_some, ts_fv, if_pos hk, ts_po, e1, if_neg hv]
      rfl
    · rw [List.getElem?_set_ne hq] at e1
      rw [List.getElem?_set_ne hq, List.getElem?_map, List.getElem?_map, List.getElem?_range hi]
      have e2 : ts_pg h.2.2.1 (a + 1) i = r[i]? := by simp only [ts_pg, hr]
      simp only [Option.map_some, ts_fv, ts_po, e1, e2]
  · rw [List.getElem?_eq_none (by simp; omega), List.getElem?_eq_none (by simp; omega)]
theorem ts_pg_row {P : List (List Nat)} {a j : Nat} (h : (ts_pg P (a + 1) j).isSome = true) : ∃ r, P[a]? = some r ∧ j < r.length := by
  unfold ts_pg at h
  cases hr : P[a]? with
  | none => simp only [hr] at h; cases h
  | some r =>
    simp only [hr] at h
    refine ⟨r, rfl, ?_⟩
    obtain ⟨x, hx⟩ := Option.isSome_iff_exists.mp h
    exact (List.getElem?_eq_some_iff.mp hx).1
theorem ts_W_putA {cA : Nat → ClassId} {ad : Nat → Nat} {h : ts_H} {i ci n j v : Nat} (hs : h.2.2.2[i]? = some (10 + ci, n)) (hk : (ts_fk.getD ci []).getD j 9 = 2) (hp : (ts_pg h.2.2.1 (i + 1) j).isSome = true) (hv : ¬ v = 0) : (ts_W cA ad h).set i (ad (i + 1), .inr (ci, ((List.range (ts_nf ci)).map (ts_fv ad h (i + 1) ci)).set j (.ref (ad v)))) = ts_W cA ad (h.1, h.2.1, ts_ps h.2.2.1 (i + 1) j v, h.2.2.2) := by
  obtain ⟨r, hr, hj⟩ := ts_pg_row hp
  refine ts_W_set rfl hs ?_ fun b hb => ⟨rfl, rfl, fun _ => ts_ps_off hb⟩
  rw [ts_cto, ts_fv_setA hk hr hj hv]
/-- an array of references written -/
theorem ts_W_setA {cA : Nat → ClassId} {ad : Nat → Nat} {h : ts_H} {i n j v : Nat} (hs : h.2.2.2[i]? = some (2, n)) (hp : (ts_pg h.2.2.1 (i + 1) j).isSome = true) (hv : ¬ v = 0) : (ts_W cA ad h).set i (ad (i + 1), .inl (cA 2, n, .inr (.inr (.inr (.inr (va_up (ts_po ad h.2.2.1 (i + 1)) j (some (ad v)))))))) = ts_W cA ad (h.1, h.2.1, ts_ps h.2.2.1 (i + 1) j v, h.2.2.2) := by
  obtain ⟨r, hr, hj⟩ := ts_pg_row hp
  refine ts_W_set rfl hs ?_ fun b hb => ⟨rfl, rfl, fun _ => ts_ps_off hb⟩
  rw [ts_ctq (Or.inl rfl)]
  have e : ts_po ad (ts_ps h.2.2.1 (i + 1) j v) (i + 1) = va_up (ts_po ad h.2.2.1 (i + 1)) j (some (ad v)) := by
    funext k
    have e1 : ts_pg (ts_ps h.2.2.1 (i + 1) j v) (i + 1) k = (r.set j v)[k]? := ts_ps_row hr
    have e2 : ts_pg h.2.2.1 (i + 1) k = r[k]? := by simp only [ts_pg, hr]
    by_cases hq : k = j
    · subst hq
      rw [List.getElem?_set_self hj] at e1
      simp only [ts_po, e1, if_neg hv, va_up, if_true]
    · rw [List.getElem?_set_ne (Ne.symm hq)] at e1
      simp only [ts_po, e1, e2, va_up, if_neg hq]
  rw [← e]
