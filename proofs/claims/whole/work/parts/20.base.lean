/-! words for both sides' states: the floor -/
/-- 1 for true -/
def ts_b (b : Bool) : Int32 := bif b then 1 else 0
theorem ts_b_t {P : Prop} [Decidable P] (h : P) : ts_b (decide P) = 1 := by rw [decide_eq_true h]; rfl
theorem ts_b_f {P : Prop} [Decidable P] (h : ¬ P) : ts_b (decide P) = 0 := by rw [decide_eq_false h]; rfl
theorem ts_b_0 {b : Bool} : ts_b b = 0 ↔ b = false := by cases b <;> decide
theorem ts_b_nar (b : Bool) : narrow .boolean (.int (ts_b b)) = .int (ts_b b) := by cases b <;> rfl
theorem ts_b_ne {P : Prop} [Decidable P] (h : ¬ ts_b (decide P) = 0) : P := by
  by_cases hp : P
  · exact hp
  · exact absurd (ts_b_f hp) h
theorem ts_b_eq {P : Prop} [Decidable P] (h : ts_b (decide P) = 0) : ¬ P := fun hp => by
  rw [ts_b_t hp] at h
  exact absurd h (by decide)
/-- men, told, road, tones, corn, stands, reaches, arms, lates, sayings, lengths -/
abbrev ts_Fl : Type := Nat × Nat × Nat × (Nat → Nat) × (Nat → Nat) × (Nat → Nat) × (Nat → Nat) × (Nat → Nat) × (Nat → Nat) × (Nat → Nat → Nat) × (Nat → Nat)
abbrev f_men (f : ts_Fl) : Nat := f.1
abbrev f_told (f : ts_Fl) : Nat := f.2.1
abbrev f_road (f : ts_Fl) : Nat := f.2.2.1
abbrev f_tone (f : ts_Fl) : Nat → Nat := f.2.2.2.1
abbrev f_corn (f : ts_Fl) : Nat → Nat := f.2.2.2.2.1
abbrev f_stand (f : ts_Fl) : Nat → Nat := f.2.2.2.2.2.1
abbrev f_reach (f : ts_Fl) : Nat → Nat := f.2.2.2.2.2.2.1
abbrev f_arm (f : ts_Fl) : Nat → Nat := f.2.2.2.2.2.2.2.1
abbrev f_late (f : ts_Fl) : Nat → Nat := f.2.2.2.2.2.2.2.2.1
abbrev f_say (f : ts_Fl) : Nat → Nat → Nat := f.2.2.2.2.2.2.2.2.2.1
abbrev f_len (f : ts_Fl) : Nat → Nat := f.2.2.2.2.2.2.2.2.2.2
/-- both hold the floor f -/
def ts_RA (I : Nat → Nat → Int32) (f : ts_Fl) : Prop :=
  (I 2 8 = nI (f_men f) ∧ I 72 6 = nI (f_men f) ∧ f_men f ≤ 4) ∧
  (I 2 9 = nI (f_told f) ∧ I 72 7 = nI (f_told f) ∧ f_told f ≤ 8) ∧
  (I 2 10 = nI (f_road f) ∧ I 73 48 = nI (f_road f) ∧ f_road f ≤ 20) ∧
  (∀ p, p < 16 → I 3 p = nI (f_tone f p) ∧ I 73 p = nI (f_tone f p) ∧ f_tone f p ≤ 7) ∧
  (∀ p, p < 16 → I 4 p = nI (f_corn f p) ∧ I 73 (16 + p) = nI (f_corn f p) ∧ f_corn f p ≤ 9) ∧
  (∀ i, i < 4 → I 5 i = nI (f_stand f i) ∧ I 73 (32 + i) = nI (f_stand f i) ∧ f_stand f i ≤ 15) ∧
  (∀ i, i < 4 → I 6 i = nI (f_reach f i) ∧ I 73 (36 + i) = nI (f_reach f i) ∧ f_reach f i ≤ 6) ∧
  (∀ i, i < 4 → I 7 i = nI (f_arm f i) ∧ I 73 (40 + i) = nI (f_arm f i) ∧ f_arm f i ≤ 12) ∧
  (∀ i, i < 4 → I 8 i = nI (f_late f i) ∧ I 73 (44 + i) = nI (f_late f i) ∧ f_late f i ≤ 9 ∧ (f_men f ≤ i → f_late f i = 0)) ∧
  (∀ s, s < 8 → ∀ k, k < 6 → I (10 + s) k = nI (f_say f s k) ∧ I 73 (49 + 6 * s + k) = nI (f_say f s k) ∧ f_say f s k ≤ 7) ∧
  (∀ s, s < 8 → I 18 s = nI (f_len f s) ∧ I 77 s = nI (f_len f s) ∧ f_len f s ≤ 6 ∧ (s < f_told f → 1 ≤ f_len f s))
section RA
variable {I : Nat → Nat → Int32} {f : ts_Fl}
theorem ts_RA.men (h : ts_RA I f) : I 2 8 = nI (f_men f) ∧ I 72 6 = nI (f_men f) ∧ f_men f ≤ 4 := h.1
theorem ts_RA.told (h : ts_RA I f) : I 2 9 = nI (f_told f) ∧ I 72 7 = nI (f_told f) ∧ f_told f ≤ 8 := h.2.1
theorem ts_RA.road (h : ts_RA I f) : I 2 10 = nI (f_road f) ∧ I 73 48 = nI (f_road f) ∧ f_road f ≤ 20 := h.2.2.1
theorem ts_RA.tone (h : ts_RA I f) {p : Nat} (hp : p < 16) : I 3 p = nI (f_tone f p) ∧ I 73 p = nI (f_tone f p) ∧ f_tone f p ≤ 7 := h.2.2.2.1 p hp
theorem ts_RA.corn (h : ts_RA I f) {p : Nat} (hp : p < 16) : I 4 p = nI (f_corn f p) ∧ I 73 (16 + p) = nI (f_corn f p) ∧ f_corn f p ≤ 9 := h.2.2.2.2.1 p hp
theorem ts_RA.stand (h : ts_RA I f) {p : Nat} (hp : p < 4) : I 5 p = nI (f_stand f p) ∧ I 73 (32 + p) = nI (f_stand f p) ∧ f_stand f p ≤ 15 := h.2.2.2.2.2.1 p hp
theorem ts_RA.reach (h : ts_RA I f) {p : Nat} (hp : p < 4) : I 6 p = nI (f_reach f p) ∧ I 73 (36 + p) = nI (f_reach f p) ∧ f_reach f p ≤ 6 := h.2.2.2.2.2.2.1 p hp
theorem ts_RA.arm (h : ts_RA I f) {p : Nat} (hp : p < 4) : I 7 p = nI (f_arm f p) ∧ I 73 (40 + p) = nI (f_arm f p) ∧ f_arm f p ≤ 12 := h.2.2.2.2.2.2.2.1 p hp
theorem ts_RA.late (h : ts_RA I f) {p : Nat} (hp : p < 4) : I 8 p = nI (f_late f p) ∧ I 73 (44 + p) = nI (f_late f p) ∧ f_late f p ≤ 9 ∧ (f_men f ≤ p → f_late f p = 0) := h.2.2.2.2.2.2.2.2.1 p hp
theorem ts_RA.say (h : ts_RA I f) {s k : Nat} (hs : s < 8) (hk : k < 6) : I (10 + s) k = nI (f_say f s k) ∧ I 73 (49 + 6 * s + k) = nI (f_say f s k) ∧ f_say f s k ≤ 7 := h.2.2.2.2.2.2.2.2.2.1 s hs k hk
theorem ts_RA.len (h : ts_RA I f) {s : Nat} (hs : s < 8) : I 18 s = nI (f_len f s) ∧ I 77 s = nI (f_len f s) ∧ f_len f s ≤ 6 ∧ (s < f_told f → 1 ≤ f_len f s) := h.2.2.2.2.2.2.2.2.2.2 s hs
end RA
/-- how far two planks are -/
def f_far (p q : Nat) : Nat := (if p % 4 < q % 4 then q % 4 - p % 4 else p % 4 - q % 4) + (if p / 4 < q / 4 then q / 4 - p / 4 else p / 4 - q / 4)
/-- man m can strike plank p -/
def f_can (f : ts_Fl) (m p : Nat) : Bool := decide (f_far (f_stand f m) p ≤ f_reach f m)
theorem f_far_comm (p q : Nat) : f_far p q = f_far q p := by
  unfold f_far
  split <;> split <;> split <;> split <;> omega
/-- an int32 that is told as in a range -/
theorem ts_rng {x : Int32} {n : Nat} (hn : n < 2 ^ 31) (h0 : ¬ x < 0) (h1 : ¬ nI n ≤ x) : ∃ j, j < n ∧ x = nI j := by
  rcases pk_ix x hn with h | h | h
  · exact absurd h h0
  · exact absurd h h1
  · exact h
