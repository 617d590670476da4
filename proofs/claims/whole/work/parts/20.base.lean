/-! THE FLOOR: men, told, road, tones, corn, stands, reaches, arms, lates, lengths, sayings -/
abbrev ts_Fl : Type := Int × Int × Int × (Int → Int) × (Int → Int) × (Int → Int) × (Int → Int) × (Int → Int) × (Int → Int) × (Int → Int) × (Int → Int → Int)
abbrev f_men (f : ts_Fl) : Int := f.1
abbrev f_told (f : ts_Fl) : Int := f.2.1
abbrev f_road (f : ts_Fl) : Int := f.2.2.1
abbrev f_tone (f : ts_Fl) : Int → Int := f.2.2.2.1
abbrev f_corn (f : ts_Fl) : Int → Int := f.2.2.2.2.1
abbrev f_stand (f : ts_Fl) : Int → Int := f.2.2.2.2.2.1
abbrev f_reach (f : ts_Fl) : Int → Int := f.2.2.2.2.2.2.1
abbrev f_arm (f : ts_Fl) : Int → Int := f.2.2.2.2.2.2.2.1
abbrev f_late (f : ts_Fl) : Int → Int := f.2.2.2.2.2.2.2.2.1
abbrev f_len (f : ts_Fl) : Int → Int := f.2.2.2.2.2.2.2.2.2.1
abbrev f_say (f : ts_Fl) : Int → Int → Int := f.2.2.2.2.2.2.2.2.2.2
abbrev fs_men (f : ts_Fl) (v : Int) : ts_Fl := (v, f.2.1, f.2.2.1, f.2.2.2.1, f.2.2.2.2.1, f.2.2.2.2.2.1, f.2.2.2.2.2.2.1, f.2.2.2.2.2.2.2.1, f.2.2.2.2.2.2.2.2.1, f.2.2.2.2.2.2.2.2.2.1, f.2.2.2.2.2.2.2.2.2.2)
abbrev fs_told (f : ts_Fl) (v : Int) : ts_Fl := (f.1, v, f.2.2.1, f.2.2.2.1, f.2.2.2.2.1, f.2.2.2.2.2.1, f.2.2.2.2.2.2.1, f.2.2.2.2.2.2.2.1, f.2.2.2.2.2.2.2.2.1, f.2.2.2.2.2.2.2.2.2.1, f.2.2.2.2.2.2.2.2.2.2)
abbrev fs_road (f : ts_Fl) (v : Int) : ts_Fl := (f.1, f.2.1, v, f.2.2.2.1, f.2.2.2.2.1, f.2.2.2.2.2.1, f.2.2.2.2.2.2.1, f.2.2.2.2.2.2.2.1, f.2.2.2.2.2.2.2.2.1, f.2.2.2.2.2.2.2.2.2.1, f.2.2.2.2.2.2.2.2.2.2)
abbrev fs_tone (f : ts_Fl) (v : Int → Int) : ts_Fl := (f.1, f.2.1, f.2.2.1, v, f.2.2.2.2.1, f.2.2.2.2.2.1, f.2.2.2.2.2.2.1, f.2.2.2.2.2.2.2.1, f.2.2.2.2.2.2.2.2.1, f.2.2.2.2.2.2.2.2.2.1, f.2.2.2.2.2.2.2.2.2.2)
abbrev fs_corn (f : ts_Fl) (v : Int → Int) : ts_Fl := (f.1, f.2.1, f.2.2.1, f.2.2.2.1, v, f.2.2.2.2.2.1, f.2.2.2.2.2.2.1, f.2.2.2.2.2.2.2.1, f.2.2.2.2.2.2.2.2.1, f.2.2.2.2.2.2.2.2.2.1, f.2.2.2.2.2.2.2.2.2.2)
abbrev fs_stand (f : ts_Fl) (v : Int → Int) : ts_Fl := (f.1, f.2.1, f.2.2.1, f.2.2.2.1, f.2.2.2.2.1, v, f.2.2.2.2.2.2.1, f.2.2.2.2.2.2.2.1, f.2.2.2.2.2.2.2.2.1, f.2.2.2.2.2.2.2.2.2.1, f.2.2.2.2.2.2.2.2.2.2)
abbrev fs_reach (f : ts_Fl) (v : Int → Int) : ts_Fl := (f.1, f.2.1, f.2.2.1, f.2.2.2.1, f.2.2.2.2.1, f.2.2.2.2.2.1, v, f.2.2.2.2.2.2.2.1, f.2.2.2.2.2.2.2.2.1, f.2.2.2.2.2.2.2.2.2.1, f.2.2.2.2.2.2.2.2.2.2)
abbrev fs_arm (f : ts_Fl) (v : Int → Int) : ts_Fl := (f.1, f.2.1, f.2.2.1, f.2.2.2.1, f.2.2.2.2.1, f.2.2.2.2.2.1, f.2.2.2.2.2.2.1, v, f.2.2.2.2.2.2.2.2.1, f.2.2.2.2.2.2.2.2.2.1, f.2.2.2.2.2.2.2.2.2.2)
abbrev fs_late (f : ts_Fl) (v : Int → Int) : ts_Fl := (f.1, f.2.1, f.2.2.1, f.2.2.2.1, f.2.2.2.2.1, f.2.2.2.2.2.1, f.2.2.2.2.2.2.1, f.2.2.2.2.2.2.2.1, v, f.2.2.2.2.2.2.2.2.2.1, f.2.2.2.2.2.2.2.2.2.2)
abbrev fs_len (f : ts_Fl) (v : Int → Int) : ts_Fl := (f.1, f.2.1, f.2.2.1, f.2.2.2.1, f.2.2.2.2.1, f.2.2.2.2.2.1, f.2.2.2.2.2.2.1, f.2.2.2.2.2.2.2.1, f.2.2.2.2.2.2.2.2.1, v, f.2.2.2.2.2.2.2.2.2.2)
abbrev fs_say (f : ts_Fl) (v : Int → Int → Int) : ts_Fl := (f.1, f.2.1, f.2.2.1, f.2.2.2.1, f.2.2.2.2.1, f.2.2.2.2.2.1, f.2.2.2.2.2.2.1, f.2.2.2.2.2.2.2.1, f.2.2.2.2.2.2.2.2.1, f.2.2.2.2.2.2.2.2.2.1, v)
def RX (I : Nat → Nat → Int32) (f : ts_Fl) : Prop :=
  rd (I 2 8) 0 4 (f_men f) ∧
  rd (I 2 9) 0 8 (f_told f) ∧
  rd (I 2 10) 0 20 (f_road f) ∧
  ar I 3 16 0 7 (f_tone f) ∧
  ar I 4 16 0 9 (f_corn f) ∧
  ar I 5 4 0 15 (f_stand f) ∧
  ar I 6 4 0 6 (f_reach f) ∧
  ar I 7 4 0 12 (f_arm f) ∧
  ar I 8 4 0 9 (f_late f) ∧
  ar I 18 8 0 6 (f_len f) ∧
  (∀ s : Int, 0 ≤ s → s < 8 → ar I (10 + s.toNat) 6 0 7 (f_say f s))
def RM (I : Nat → Nat → Int32) (f : ts_Fl) : Prop :=
  rd (I 72 6) 0 4 (f_men f) ∧
  rd (I 72 7) 0 8 (f_told f) ∧
  rd (I 73 48) 0 20 (f_road f) ∧
  ar I 73 16 0 7 (f_tone f) ∧
  arf I 73 16 16 0 9 (f_corn f) ∧
  arf I 73 32 4 0 15 (f_stand f) ∧
  arf I 73 36 4 0 6 (f_reach f) ∧
  arf I 73 40 4 0 12 (f_arm f) ∧
  arf I 73 44 4 0 9 (f_late f) ∧
  ar I 77 8 0 6 (f_len f) ∧
  (∀ s : Int, 0 ≤ s → s < 8 → arf I 73 (49 + 6 * s) 6 0 7 (f_say f s))
/-- late is 0 where nobody is, a told saying has a tone -/
def RO (f : ts_Fl) : Prop := (∀ p, 0 ≤ p → p < 4 → f_men f ≤ p → f_late f p = 0) ∧ (∀ s, 0 ≤ s → s < f_told f → 1 ≤ f_len f s)
section RXM
variable {I J : Nat → Nat → Int32} {f : ts_Fl}
theorem RX.men (h : RX I f) : rd (I 2 8) 0 4 (f_men f) := h.1
theorem RX.told (h : RX I f) : rd (I 2 9) 0 8 (f_told f) := h.2.1
theorem RX.road (h : RX I f) : rd (I 2 10) 0 20 (f_road f) := h.2.2.1
theorem RX.tone (h : RX I f) : ar I 3 16 0 7 (f_tone f) := h.2.2.2.1
theorem RX.corn (h : RX I f) : ar I 4 16 0 9 (f_corn f) := h.2.2.2.2.1
theorem RX.stand (h : RX I f) : ar I 5 4 0 15 (f_stand f) := h.2.2.2.2.2.1
theorem RX.reach (h : RX I f) : ar I 6 4 0 6 (f_reach f) := h.2.2.2.2.2.2.1
theorem RX.arm (h : RX I f) : ar I 7 4 0 12 (f_arm f) := h.2.2.2.2.2.2.2.1
theorem RX.late (h : RX I f) : ar I 8 4 0 9 (f_late f) := h.2.2.2.2.2.2.2.2.1
theorem RX.len (h : RX I f) : ar I 18 8 0 6 (f_len f) := h.2.2.2.2.2.2.2.2.2.1
theorem RX.say (h : RX I f) {s : Int} (h0 : 0 ≤ s) (h1 : s < 8) : ar I (10 + s.toNat) 6 0 7 (f_say f s) := h.2.2.2.2.2.2.2.2.2.2 s h0 h1
theorem RM.men (h : RM I f) : rd (I 72 6) 0 4 (f_men f) := h.1
theorem RM.told (h : RM I f) : rd (I 72 7) 0 8 (f_told f) := h.2.1
theorem RM.road (h : RM I f) : rd (I 73 48) 0 20 (f_road f) := h.2.2.1
theorem RM.tone (h : RM I f) : ar I 73 16 0 7 (f_tone f) := h.2.2.2.1
theorem RM.corn (h : RM I f) : arf I 73 16 16 0 9 (f_corn f) := h.2.2.2.2.1
theorem RM.stand (h : RM I f) : arf I 73 32 4 0 15 (f_stand f) := h.2.2.2.2.2.1
theorem RM.reach (h : RM I f) : arf I 73 36 4 0 6 (f_reach f) := h.2.2.2.2.2.2.1
theorem RM.arm (h : RM I f) : arf I 73 40 4 0 12 (f_arm f) := h.2.2.2.2.2.2.2.1
theorem RM.late (h : RM I f) : arf I 73 44 4 0 9 (f_late f) := h.2.2.2.2.2.2.2.2.1
theorem RM.len (h : RM I f) : ar I 77 8 0 6 (f_len f) := h.2.2.2.2.2.2.2.2.2.1
theorem RM.say (h : RM I f) {s : Int} (h0 : 0 ≤ s) (h1 : s < 8) : arf I 73 (49 + 6 * s) 6 0 7 (f_say f s) := h.2.2.2.2.2.2.2.2.2.2 s h0 h1
theorem RX.co (h : RX I f) (e : ∀ a, 2 ≤ a → a ≤ 18 → J a = I a) : RX J f := by
  refine ⟨?_, ?_, ?_, ?_, ?_, ?_, ?_, ?_, ?_, ?_, ?_⟩
  · rw [e 2 (by decide) (by decide)]; exact h.men
  · rw [e 2 (by decide) (by decide)]; exact h.told
  · rw [e 2 (by decide) (by decide)]; exact h.road
  · exact ar_co h.tone (e 3 (by decide) (by decide))
  · exact ar_co h.corn (e 4 (by decide) (by decide))
  · exact ar_co h.stand (e 5 (by decide) (by decide))
  · exact ar_co h.reach (e 6 (by decide) (by decide))
  · exact ar_co h.arm (e 7 (by decide) (by decide))
  · exact ar_co h.late (e 8 (by decide) (by decide))
  · exact ar_co h.len (e 18 (by decide) (by decide))
  · intro s h0 h1
    exact ar_co (h.say h0 h1) (e (10 + s.toNat) (by omega) (by omega))
theorem RM.co (h : RM I f) (e : ∀ a, 72 ≤ a → a ≤ 77 → J a = I a) : RM J f := by
  have e2 := e 72 (by decide) (by decide)
  have e3 := e 73 (by decide) (by decide)
  refine ⟨?_, ?_, ?_, ?_, ?_, ?_, ?_, ?_, ?_, ?_, ?_⟩
  · rw [e2]; exact h.men
  · rw [e2]; exact h.told
  · rw [e3]; exact h.road
  · exact ar_co h.tone e3
  · exact arf_co h.corn e3
  · exact arf_co h.stand e3
  · exact arf_co h.reach e3
  · exact arf_co h.arm e3
  · exact arf_co h.late e3
  · exact ar_co h.len (e 77 (by decide) (by decide))
  · intro s h0 h1
    exact arf_co (h.say h0 h1) e3
/-- the reference's writes to its own places of cell 72 that are not told of the floor -/
theorem RM.co72 (h : RM I f) (e3 : J 73 = I 73) (e77 : J 77 = I 77) (e6 : J 72 6 = I 72 6) (e7 : J 72 7 = I 72 7) : RM J f := by
  refine ⟨?_, ?_, ?_, ?_, ?_, ?_, ?_, ?_, ?_, ?_, ?_⟩
  · rw [e6]; exact h.men
  · rw [e7]; exact h.told
  · rw [e3]; exact h.road
  · exact ar_co h.tone e3
  · exact arf_co h.corn e3
  · exact arf_co h.stand e3
  · exact arf_co h.reach e3
  · exact arf_co h.arm e3
  · exact arf_co h.late e3
  · exact ar_co h.len e77
  · intro s h0 h1
    exact arf_co (h.say h0 h1) e3
end RXM
/-- how far two planks are -/
def f_far (p q : Int) : Int := (if 0 ≤ p % 4 - q % 4 then p % 4 - q % 4 else -(p % 4 - q % 4)) + (if 0 ≤ p / 4 - q / 4 then p / 4 - q / 4 else -(p / 4 - q / 4))
theorem f_far_comm (p q : Int) : f_far p q = f_far q p := by unfold f_far; omega
/-- man m can strike plank p -/
abbrev f_can (f : ts_Fl) (m p : Int) : Prop := f_far (f_stand f m) p ≤ f_reach f m
/-- the bits of those of 0 .. n-1 that g tells -/
def zbits (g : Int → Prop) [DecidablePred g] : Nat → Int
  | 0 => 0
  | n + 1 => if g n then zor (zbits g n) (zshl 1 n) else zbits g n
theorem zbits_s {g : Int → Prop} [DecidablePred g] {j : Int} (h : 0 ≤ j) : zbits g (j + 1).toNat = if g j then zor (zbits g j.toNat) (zshl 1 j) else zbits g j.toNat := by
  obtain ⟨n, rfl⟩ : ∃ n : Nat, j = n := ⟨j.toNat, by omega⟩
  rfl
theorem zbits_r (g : Int → Prop) [DecidablePred g] (n : Nat) : -2147483648 ≤ zbits g n ∧ zbits g n ≤ 2147483647 := by
  induction n with
  | zero => exact (by decide : -2147483648 ≤ (0 : Int) ∧ (0 : Int) ≤ 2147483647)
  | succ n ih =>
    show -2147483648 ≤ (if g n then zor (zbits g n) (zshl 1 n) else zbits g n) ∧ (if g n then zor (zbits g n) (zshl 1 n) else zbits g n) ≤ 2147483647
    split
    · exact zor_r _ _
    · exact ih
theorem zor_0 {a : Int} (h : -2147483648 ≤ a ∧ a ≤ 2147483647) : zor a 0 = a := by
  unfold zor
  rw [show zI 0 = 0 from rfl, Int32.or_zero, zI_T h]
/-- the sum of g over 0 .. n-1 -/
def zsum (g : Int → Int) : Nat → Int
  | 0 => 0
  | n + 1 => zsum g n + g n
theorem zsum_s {g : Int → Int} {j : Int} (h : 0 ≤ j) : zsum g (j + 1).toNat = zsum g j.toNat + g j := by
  obtain ⟨n, rfl⟩ : ∃ n : Nat, j = n := ⟨j.toNat, by omega⟩
  rfl
theorem zsum_b {g : Int → Int} {lo hi : Int} {N : Int} (h : ∀ p, 0 ≤ p → p < N → lo ≤ g p ∧ g p ≤ hi) : ∀ n : Nat, (n : Int) ≤ N → lo * n ≤ zsum g n ∧ zsum g n ≤ hi * n := by
  intro n
  induction n with
  | zero => intro _; exact ⟨by simp [zsum], by simp [zsum]⟩
  | succ n ih =>
    intro hn
    have h1 := ih (by omega)
    have h2 := h n (by omega) (by omega)
    have e1 : lo * ((n + 1 : Nat) : Int) = lo * n + lo := by rw [show ((n + 1 : Nat) : Int) = (n : Int) + 1 from rfl, Int.mul_add, Int.mul_one]
    have e2 : hi * ((n + 1 : Nat) : Int) = hi * n + hi := by rw [show ((n + 1 : Nat) : Int) = (n : Int) + 1 from rfl, Int.mul_add, Int.mul_one]
    show _ ≤ zsum g n + g n ∧ zsum g n + g n ≤ _
    rw [e1, e2]
    omega
