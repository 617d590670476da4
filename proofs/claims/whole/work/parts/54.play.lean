/-! BY TURNS: the best that both can do, plank by plank and by sums -/
def tk (c : Int → Int) (p : Int) : Int := if 0 < c p then 1 else 0
def cm (c : Int → Int) (p : Int) : Int → Int := zu c p (c p - tk c p)
/-- plank by plank: t strokes are left, it is stroke k -/
def pv (f : ts_Fl) (a b : Int) : Nat → Int → (Int → Int) → Int
  | 0, _, _ => 0
  | t + 1, k, c => zwh 16 (fun p best => if f_can f (if k % 2 = 0 then a else b) p then (if k % 2 = 0 then (if best < pv f a b t (k + 1) (cm c p) + tk c p then pv f a b t (k + 1) (cm c p) + tk c p else best) else (if pv f a b t (k + 1) (cm c p) + -tk c p < best then pv f a b t (k + 1) (cm c p) + -tk c p else best)) else best) 0 (pv f a b t (k + 1) c)
/-- by sums -/
def zgn : Nat → Int → Int → Int → Int
  | 0, _, _, _ => 0
  | t + 1, m, y, o =>
    let b1 := -zgn t y m o
    let b2 := if 0 < m then (if b1 < 1 - zgn t y (m - 1) o then 1 - zgn t y (m - 1) o else b1) else b1
    if 0 < o then (if b2 < 1 - zgn t y m (o - 1) then 1 - zgn t y m (o - 1) else b2) else b2
theorem zgn_s (t : Nat) (m y o : Int) : (-zgn t y m o ≤ zgn (t + 1) m y o ∧ (0 < m → 1 - zgn t y (m - 1) o ≤ zgn (t + 1) m y o) ∧ (0 < o → 1 - zgn t y m (o - 1) ≤ zgn (t + 1) m y o)) ∧ (zgn (t + 1) m y o = -zgn t y m o ∨ (0 < m ∧ zgn (t + 1) m y o = 1 - zgn t y (m - 1) o) ∨ (0 < o ∧ zgn (t + 1) m y o = 1 - zgn t y m (o - 1))) := by
  have e : zgn (t + 1) m y o = (if 0 < o then (if (if 0 < m then (if -zgn t y m o < 1 - zgn t y (m - 1) o then 1 - zgn t y (m - 1) o else -zgn t y m o) else -zgn t y m o) < 1 - zgn t y m (o - 1) then 1 - zgn t y m (o - 1) else (if 0 < m then (if -zgn t y m o < 1 - zgn t y (m - 1) o then 1 - zgn t y (m - 1) o else -zgn t y m o) else -zgn t y m o)) else (if 0 < m then (if -zgn t y m o < 1 - zgn t y (m - 1) o then 1 - zgn t y (m - 1) o else -zgn t y m o) else -zgn t y m o)) := rfl
  rw [e]
  omega
theorem zgn_r : ∀ (t : Nat) (m y o : Int), -(t : Int) ≤ zgn t m y o ∧ zgn t m y o ≤ t := by
  intro t
  induction t with
  | zero => intro m y o; exact ⟨Int.le_refl _, Int.le_refl _⟩
  | succ t ih =>
    intro m y o
    have h := zgn_s t m y o
    have a := ih y m o
    have b := ih y (m - 1) o
    have c := ih y m (o - 1)
    rw [show ((t + 1 : Nat) : Int) = (t : Int) + 1 from rfl]
    omega
/-- the greatest of those told -/
theorem zmxq {n : Int} {Q : Int → Prop} [DecidablePred Q] {v : Int → Int} : ∀ i s : Int, s ≤ zwh n (fun p b => if Q p then (if b < v p then v p else b) else b) i s ∧ (∀ p, i ≤ p → p < n → Q p → v p ≤ zwh n (fun p b => if Q p then (if b < v p then v p else b) else b) i s) ∧ (zwh n (fun p b => if Q p then (if b < v p then v p else b) else b) i s = s ∨ ∃ p, i ≤ p ∧ p < n ∧ Q p ∧ zwh n (fun p b => if Q p then (if b < v p then v p else b) else b) i s = v p) := by
  refine ts_ind n (fun i ih s => ?_)
  by_cases c : i < n
  · rw [zwh_1 c]
    obtain ⟨h1, h2, h3⟩ := ih c (if Q i then (if s < v i then v i else s) else s)
    by_cases q : Q i
    · rw [if_pos q] at h1 h2 h3 ⊢
      refine ⟨by omega, fun p p0 p1 pq => ?_, ?_⟩
      · by_cases e : p = i
        · subst e; omega
        · exact h2 p (by omega) p1 pq
      · rcases h3 with h3 | ⟨p, p0, p1, pq, h3⟩
        · by_cases e : s < v i
          · rw [if_pos e] at h3 ⊢; exact Or.inr ⟨i, Int.le_refl _, c, q, h3⟩
          · rw [if_neg e] at h3 ⊢; exact Or.inl h3
        · exact Or.inr ⟨p, by omega, p1, pq, h3⟩
    · rw [if_neg q] at h1 h2 h3 ⊢
      refine ⟨h1, fun p p0 p1 pq => ?_, ?_⟩
      · by_cases e : p = i
        · subst e; exact absurd pq q
        · exact h2 p (by omega) p1 pq
      · exact h3.elim Or.inl (fun ⟨p, p0, p1, pq, h⟩ => Or.inr ⟨p, by omega, p1, pq, h⟩)
  · rw [zwh_0 c]
    exact ⟨Int.le_refl _, fun p p0 p1 => by omega, Or.inl rfl⟩
theorem zmnq {n : Int} {Q : Int → Prop} [DecidablePred Q] {v : Int → Int} : ∀ i s : Int, zwh n (fun p b => if Q p then (if v p < b then v p else b) else b) i s ≤ s ∧ (∀ p, i ≤ p → p < n → Q p → zwh n (fun p b => if Q p then (if v p < b then v p else b) else b) i s ≤ v p) ∧ (zwh n (fun p b => if Q p then (if v p < b then v p else b) else b) i s = s ∨ ∃ p, i ≤ p ∧ p < n ∧ Q p ∧ zwh n (fun p b => if Q p then (if v p < b then v p else b) else b) i s = v p) := by
  refine ts_ind n (fun i ih s => ?_)
  by_cases c : i < n
  · rw [zwh_1 c]
    obtain ⟨h1, h2, h3⟩ := ih c (if Q i then (if v i < s then v i else s) else s)
    by_cases q : Q i
    · rw [if_pos q] at h1 h2 h3 ⊢
      refine ⟨by omega, fun p p0 p1 pq => ?_, ?_⟩
      · by_cases e : p = i
        · subst e; omega
        · exact h2 p (by omega) p1 pq
      · rcases h3 with h3 | ⟨p, p0, p1, pq, h3⟩
        · by_cases e : v i < s
          · rw [if_pos e] at h3 ⊢; exact Or.inr ⟨i, Int.le_refl _, c, q, h3⟩
          · rw [if_neg e] at h3 ⊢; exact Or.inl h3
        · exact Or.inr ⟨p, by omega, p1, pq, h3⟩
    · rw [if_neg q] at h1 h2 h3 ⊢
      refine ⟨h1, fun p p0 p1 pq => ?_, ?_⟩
      · by_cases e : p = i
        · subst e; exact absurd pq q
        · exact h2 p (by omega) p1 pq
      · exact h3.elim Or.inl (fun ⟨p, p0, p1, pq, h⟩ => Or.inr ⟨p, by omega, p1, pq, h⟩)
  · rw [zwh_0 c]
    exact ⟨Int.le_refl _, fun p p0 p1 => by omega, Or.inl rfl⟩
/-- the corn of those told -/
def zsq (Q : Int → Prop) [DecidablePred Q] (c : Int → Int) : Int := zsum (fun p => if Q p then c p else 0) 16
theorem zsum_u {Q : Int → Prop} [DecidablePred Q] {c : Int → Int} {p v : Int} (hp : 0 ≤ p) : ∀ n : Nat, zsum (fun q => if Q q then zu c p v q else 0) n = zsum (fun q => if Q q then c q else 0) n + (if p < n ∧ Q p then v - c p else 0) := by
  intro n
  induction n with
  | zero => rw [if_neg (by omega)]; rfl
  | succ n ih =>
    show zsum (fun q => if Q q then zu c p v q else 0) n + (if Q n then zu c p v n else 0) = zsum (fun q => if Q q then c q else 0) n + (if Q n then c n else 0) + _
    rw [ih]
    by_cases e : (n : Int) = p
    · rw [e, zu_e, if_neg (by omega)]
      by_cases q : Q p
      · rw [if_pos q, if_pos q, if_pos ⟨by omega, q⟩]; omega
      · rw [if_neg q, if_neg q, if_neg (fun r => q r.2)]
    · rw [zu_n e]
      by_cases q : p < n ∧ Q p
      · have q' : p < ((n + 1 : Nat) : Int) ∧ Q p := ⟨by omega, q.2⟩
        rw [if_pos q, if_pos q']; omega
      · have q' : ¬ (p < ((n + 1 : Nat) : Int) ∧ Q p) := fun r => q ⟨by omega, r.2⟩
        rw [if_neg q, if_neg q']; omega
theorem zsq_cm {Q : Int → Prop} [DecidablePred Q] {c : Int → Int} {p : Int} (h0 : 0 ≤ p) (h1 : p < 16) : zsq Q (cm c p) = zsq Q c - (if Q p then tk c p else 0) := by
  unfold zsq cm
  rw [zsum_u h0]
  by_cases q : Q p
  · rw [if_pos ⟨by omega, q⟩, if_pos q]; omega
  · rw [if_neg (fun r => q r.2), if_neg q]; omega
theorem zsum_pos {g : Int → Int} : ∀ n : Nat, (∀ k : Int, 0 ≤ k → k < n → 0 ≤ g k) → 0 ≤ zsum g n ∧ (0 < zsum g n ↔ ∃ k : Int, 0 ≤ k ∧ k < n ∧ 0 < g k) := by
  intro n
  induction n with
  | zero => intro _; exact ⟨Int.le_refl _, ⟨fun q => absurd q (by show ¬ (0 : Int) < 0; decide), fun ⟨k, a, b, c⟩ => by omega⟩⟩
  | succ n ih =>
    intro h
    obtain ⟨i1, i2⟩ := ih (fun k k0 k1 => h k k0 (by omega))
    have hn := h n (by omega) (by omega)
    show 0 ≤ zsum g n + g n ∧ (0 < zsum g n + g n ↔ _)
    refine ⟨by omega, ⟨fun q => ?_, fun ⟨k, k0, k1, k2⟩ => ?_⟩⟩
    · by_cases e : 0 < g n
      · exact ⟨n, by omega, by omega, e⟩
      · obtain ⟨k, k0, k1, k2⟩ := i2.mp (by omega)
        exact ⟨k, k0, by omega, k2⟩
    · by_cases e : k = n
      · subst e; omega
      · have := i2.mpr ⟨k, k0, by omega, k2⟩
        omega
theorem zsq_pos {Q : Int → Prop} [DecidablePred Q] {c : Int → Int} (hc : ∀ p, 0 ≤ p → p < 16 → 0 ≤ c p) : 0 ≤ zsq Q c ∧ (0 < zsq Q c ↔ ∃ p, 0 ≤ p ∧ p < 16 ∧ Q p ∧ 0 < c p) := by
  have e := zsum_pos (g := fun p => if Q p then c p else 0) 16 (fun k k0 k1 => by have := hc k k0 k1; split <;> omega)
  refine ⟨e.1, e.2.trans ⟨fun ⟨k, k0, k1, k2⟩ => ?_, fun ⟨k, k0, k1, k2, k3⟩ => ⟨k, k0, k1, by rw [if_pos k2]; exact k3⟩⟩⟩
  by_cases q : Q k
  · rw [if_pos q] at k2; exact ⟨k, k0, k1, q, k2⟩
  · rw [if_neg q] at k2; exact absurd k2 (by decide)
theorem tk_r (c : Int → Int) (p : Int) : 0 ≤ tk c p ∧ tk c p ≤ 1 := by unfold tk; omega
theorem cm_0 {c : Int → Int} {p : Int} (h : ¬ 0 < c p) : cm c p = c := by
  unfold cm tk
  rw [if_neg h]
  funext q
  unfold zu
  by_cases e : q = p
  · rw [if_pos e, e]; omega
  · rw [if_neg e]
theorem cm_nn {c : Int → Int} {p : Int} (hc : ∀ q, 0 ≤ q → q < 16 → 0 ≤ c q) : ∀ q, 0 ≤ q → q < 16 → 0 ≤ cm c p q := by
  intro q q0 q1
  have h := hc q q0 q1
  unfold cm zu tk
  by_cases e : q = p
  · subst e; rw [if_pos rfl]; split <;> omega
  · rw [if_neg e]; exact h
abbrev qA (f : ts_Fl) (a b p : Int) : Prop := f_can f a p ∧ ¬ f_can f b p
abbrev qO (f : ts_Fl) (a b p : Int) : Prop := f_can f a p ∧ f_can f b p
/-- plank by plank is as by sums -/
theorem pv_zgn {f : ts_Fl} {a b : Int} : ∀ t : Nat, ∀ k : Int, ∀ c : Int → Int, 0 ≤ k → (∀ p, 0 ≤ p → p < 16 → 0 ≤ c p) → pv f a b t k c = if k % 2 = 0 then zgn t (zsq (qA f a b) c) (zsq (qA f b a) c) (zsq (qO f a b) c) else -zgn t (zsq (qA f b a) c) (zsq (qA f a b) c) (zsq (qO f a b) c) := by
  intro t
  induction t with
  | zero => intro k c _ _; show (0 : Int) = if k % 2 = 0 then 0 else -0; split <;> rfl
  | succ t ih =>
    intro k c hk hc
    have sA := zsq_pos (Q := qA f a b) hc
    have sB := zsq_pos (Q := qA f b a) hc
    have sO := zsq_pos (Q := qO f a b) hc
    have rest := ih (k + 1) c (by omega) hc
    have cmv : ∀ p, 0 ≤ p → p < 16 → pv f a b t (k + 1) (cm c p) = if (k + 1) % 2 = 0 then zgn t (zsq (qA f a b) c - (if qA f a b p then tk c p else 0)) (zsq (qA f b a) c - (if qA f b a p then tk c p else 0)) (zsq (qO f a b) c - (if qO f a b p then tk c p else 0)) else -zgn t (zsq (qA f b a) c - (if qA f b a p then tk c p else 0)) (zsq (qA f a b) c - (if qA f a b p then tk c p else 0)) (zsq (qO f a b) c - (if qO f a b p then tk c p else 0)) := by
      intro p p0 p1
      rw [ih (k + 1) (cm c p) (by omega) (cm_nn hc), zsq_cm p0 p1, zsq_cm p0 p1, zsq_cm p0 p1]
    by_cases ev : k % 2 = 0
    · have od : ¬ (k + 1) % 2 = 0 := by omega
      rw [if_pos ev]
      rw [if_neg od] at rest
      have e : pv f a b (t + 1) k c = zwh 16 (fun p best => if f_can f a p then (if best < pv f a b t (k + 1) (cm c p) + tk c p then pv f a b t (k + 1) (cm c p) + tk c p else best) else best) 0 (pv f a b t (k + 1) c) := by
        show zwh 16 _ 0 _ = _
        simp only [if_pos ev]
      obtain ⟨m1, m2, m3⟩ := zmxq (n := 16) (Q := fun p => f_can f a p) (v := fun p => pv f a b t (k + 1) (cm c p) + tk c p) 0 (pv f a b t (k + 1) c)
      rw [← e] at m1 m2 m3
      have g := zgn_s t (zsq (qA f a b) c) (zsq (qA f b a) c) (zsq (qO f a b) c)
      have up : pv f a b (t + 1) k c ≤ zgn (t + 1) (zsq (qA f a b) c) (zsq (qA f b a) c) (zsq (qO f a b) c) := by
        rcases m3 with q | ⟨p, p0, p1, pq, q⟩
        · omega
        · rw [q]
          by_cases cp : 0 < c p
          · have tk1 : tk c p = 1 := if_pos cp
            rw [cmv p p0 p1, if_neg od, tk1]
            by_cases bq : f_can f b p
            · rw [if_neg (fun r => r.2 pq), if_neg (fun r => r.2 bq), if_pos ⟨pq, bq⟩, Int.sub_zero, Int.sub_zero]
              have := g.1.2.2 (sO.2.mpr ⟨p, p0, p1, ⟨pq, bq⟩, cp⟩)
              omega
            · rw [if_neg (fun r => bq r.1), if_pos ⟨pq, bq⟩, if_neg (fun r => bq r.2), Int.sub_zero, Int.sub_zero]
              have := g.1.2.1 (sA.2.mpr ⟨p, p0, p1, ⟨pq, bq⟩, cp⟩)
              omega
          · have tk0 : tk c p = 0 := if_neg cp
            rw [cm_0 cp, tk0]
            omega
      have dn : zgn (t + 1) (zsq (qA f a b) c) (zsq (qA f b a) c) (zsq (qO f a b) c) ≤ pv f a b (t + 1) k c := by
        rcases g.2 with q | ⟨q0, q⟩ | ⟨q0, q⟩
        · omega
        · obtain ⟨p, p0, p1, pq, cp⟩ := sA.2.mp q0
          have := m2 p p0 p1 pq.1
          have tk1 : tk c p = 1 := if_pos cp
          rw [cmv p p0 p1, if_neg od, tk1, if_neg (fun r => pq.2 r.1), if_pos pq, if_neg (fun r => pq.2 r.2), Int.sub_zero, Int.sub_zero] at this
          omega
        · obtain ⟨p, p0, p1, pq, cp⟩ := sO.2.mp q0
          have := m2 p p0 p1 pq.1
          have tk1 : tk c p = 1 := if_pos cp
          rw [cmv p p0 p1, if_neg od, tk1, if_neg (fun r => r.2 pq.1), if_neg (fun r => r.2 pq.2), if_pos pq, Int.sub_zero, Int.sub_zero] at this
          omega
      omega
    · have od : (k + 1) % 2 = 0 := by omega
      rw [if_neg ev]
      rw [if_pos od] at rest
      have e : pv f a b (t + 1) k c = zwh 16 (fun p best => if f_can f b p then (if pv f a b t (k + 1) (cm c p) + -tk c p < best then pv f a b t (k + 1) (cm c p) + -tk c p else best) else best) 0 (pv f a b t (k + 1) c) := by
        show zwh 16 _ 0 _ = _
        simp only [if_neg ev]
      obtain ⟨m1, m2, m3⟩ := zmnq (n := 16) (Q := fun p => f_can f b p) (v := fun p => pv f a b t (k + 1) (cm c p) + -tk c p) 0 (pv f a b t (k + 1) c)
      rw [← e] at m1 m2 m3
      have g := zgn_s t (zsq (qA f b a) c) (zsq (qA f a b) c) (zsq (qO f a b) c)
      have up : -zgn (t + 1) (zsq (qA f b a) c) (zsq (qA f a b) c) (zsq (qO f a b) c) ≤ pv f a b (t + 1) k c := by
        rcases m3 with q | ⟨p, p0, p1, pq, q⟩
        · omega
        · rw [q]
          by_cases cp : 0 < c p
          · have tk1 : tk c p = 1 := if_pos cp
            rw [cmv p p0 p1, if_pos od, tk1]
            by_cases aq : f_can f a p
            · rw [if_neg (fun r => r.2 pq), if_neg (fun r => r.2 aq), if_pos ⟨aq, pq⟩, Int.sub_zero, Int.sub_zero]
              have := g.1.2.2 (sO.2.mpr ⟨p, p0, p1, ⟨aq, pq⟩, cp⟩)
              omega
            · rw [if_neg (fun r => aq r.1), if_pos ⟨pq, aq⟩, if_neg (fun r => aq r.1), Int.sub_zero, Int.sub_zero]
              have := g.1.2.1 (sB.2.mpr ⟨p, p0, p1, ⟨pq, aq⟩, cp⟩)
              omega
          · have tk0 : tk c p = 0 := if_neg cp
            rw [cm_0 cp, tk0]
            omega
      have dn : pv f a b (t + 1) k c ≤ -zgn (t + 1) (zsq (qA f b a) c) (zsq (qA f a b) c) (zsq (qO f a b) c) := by
        rcases g.2 with q | ⟨q0, q⟩ | ⟨q0, q⟩
        · omega
        · obtain ⟨p, p0, p1, pq, cp⟩ := sB.2.mp q0
          have := m2 p p0 p1 pq.1
          have tk1 : tk c p = 1 := if_pos cp
          rw [cmv p p0 p1, if_pos od, tk1, if_neg (fun r => pq.2 r.1), if_pos pq, if_neg (fun r => pq.2 r.1), Int.sub_zero, Int.sub_zero] at this
          omega
        · obtain ⟨p, p0, p1, pq, cp⟩ := sO.2.mp q0
          have := m2 p p0 p1 pq.2
          have tk1 : tk c p = 1 := if_pos cp
          rw [cmv p p0 p1, if_pos od, tk1, if_neg (fun r => r.2 pq.2), if_neg (fun r => r.2 pq.1), if_pos pq, Int.sub_zero, Int.sub_zero] at this
          omega
      omega
theorem pv_r {f : ts_Fl} {a b : Int} (t : Nat) (k : Int) (c : Int → Int) (hk : 0 ≤ k) (hc : ∀ p, 0 ≤ p → p < 16 → 0 ≤ c p) : -(t : Int) ≤ pv f a b t k c ∧ pv f a b t k c ≤ t := by
  rw [pv_zgn t k c hk hc]
  have h1 := zgn_r t (zsq (qA f a b) c) (zsq (qA f b a) c) (zsq (qO f a b) c)
  have h2 := zgn_r t (zsq (qA f b a) c) (zsq (qA f a b) c) (zsq (qO f a b) c)
  split <;> omega
