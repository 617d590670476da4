/-! one step is monotone; folding -/
def ts_mono (C : ts_C) : Prop := ∀ (y : Nat) (as : List Value) (h : ts_H) (K K' : Option Value → ts_H → Prop), (∀ r h', K r h' → K' r h') → C y as h K → C y as h K'
theorem ts_call_mono {C : ts_C} (hC : ts_mono C) {m : Nat} {E : ts_S} {R R' : ts_R} (hR : ∀ pc lv st h, R pc lv st h → R' pc lv st h) {nx : Nat} {lv : List Value} {y : Nat} {as rest : List Value} {h : ts_H} (H : ts_call C m E R nx lv y as rest h) : ts_call C m E R' nx lv y as rest h :=
  ⟨H.1, H.2.1, hC _ _ _ _ _ (fun _ _ q => hR _ _ _ _ q) H.2.2⟩
set_option maxHeartbeats 4000000 in
theorem ts_Fi_mono {X : ts_X} {C : ts_C} (hC : ts_mono C) {m : Nat} {E : ts_S} {Q Q' : Option Value → ts_H → Prop} {R R' : ts_R} (hQ : ∀ r h, Q r h → Q' r h) (hR : ∀ pc lv st h, R pc lv st h → R' pc lv st h) (i : Instr) {nx tg pc : Nat} {lv st : List Value} {h : ts_H} : ts_Fi X C m E Q R i nx tg pc lv st h → ts_Fi X C m E Q' R' i nx tg pc lv st h := by
  cases i <;> simp only [ts_Fi] <;> (try split) <;> (try split) <;> (try split) <;> first
    | exact fun H => H
    | exact fun H => hR _ _ _ _ H
    | exact fun H => ⟨H.1, hR _ _ _ _ H.2⟩
    | exact fun H => ⟨H.1, hQ _ _ H.2⟩
    | exact fun H => ⟨H.1, H.2.1, hQ _ _ H.2.2⟩
    | exact fun H => ⟨H.1, H.2.1, hR _ _ _ _ H.2.2⟩
    | exact fun H => ⟨H.1, ts_call_mono hC hR H.2⟩
    | exact fun H => ⟨H.1, H.2.1, ts_call_mono hC hR H.2.2⟩
    | exact fun H => ⟨fun c => hR _ _ _ _ (H.1 c), fun c => hR _ _ _ _ (H.2 c)⟩
    | (rintro ⟨t, h1, h2⟩; exact ⟨t, h1, hR _ _ _ _ h2⟩)
    | (rintro ⟨t, h1, h3, h2⟩; exact ⟨t, h1, h3, hR _ _ _ _ h2⟩)
    | (rintro ⟨t, f, h1, h3, h2⟩; exact ⟨t, f, h1, h3, hR _ _ _ _ h2⟩)
    | (rintro ⟨t, h1, h3, h4, h2⟩; exact ⟨t, h1, h3, h4, hR _ _ _ _ h2⟩)
    | (rintro ⟨t, h1, h3, h4, h5, h6, h2⟩; exact ⟨t, h1, h3, h4, h5, h6, hR _ _ _ _ h2⟩)
    | (rintro ⟨k, n, h1, h3, h4, h5, h6, h2⟩; exact ⟨k, n, h1, h3, h4, h5, h6, hR _ _ _ _ h2⟩)
    | (rintro ⟨k, n, r, h1, h3, h4, h5, h6, h2⟩; exact ⟨k, n, r, h1, h3, h4, h5, h6, hR _ _ _ _ h2⟩)
    | (rintro ⟨r, g1, g2⟩; obtain ⟨z, y1, y2, y3⟩ := g2; exact ⟨r, z, y1, y2, hR _ _ _ _ y3⟩)
    | (rintro ⟨k, n, r, h1, h3, h4, h5, h6, h7, h2⟩; exact ⟨k, n, r, h1, h3, h4, h5, h6, h7, hR _ _ _ _ h2⟩)
    | (rintro ⟨k1, k2, n, h1, h3, h4, h5, h6, h2⟩; exact ⟨k1, k2, n, h1, h3, h4, h5, h6, hR _ _ _ _ h2⟩)
    | (rintro ⟨k1, k2, k3, n, z, h1, h3, h4, h5, h6, h7, h8, h9, h2⟩; exact ⟨k1, k2, k3, n, z, h1, h3, h4, h5, h6, h7, h8, h9, hR _ _ _ _ h2⟩)
    | (rintro ⟨k, na, nb, h1, h3, h4, h5, h6, h7, h8, h9, h2⟩; exact ⟨k, na, nb, h1, h3, h4, h5, h6, h7, h8, h9, h2.elim (fun q => Or.inl ⟨q.1, hR _ _ _ _ q.2⟩) (fun q => Or.inr ⟨q.1, hR _ _ _ _ q.2⟩)⟩)
    | (split <;> first
        | exact fun H => H
        | exact fun H => hR _ _ _ _ H
        | exact fun H => ⟨H.1, hR _ _ _ _ H.2⟩
        | exact fun H => ⟨H.1, ts_call_mono hC hR H.2⟩
        | exact fun H => ⟨H.1, H.2.1, ts_call_mono hC hR H.2.2⟩
        | (rintro ⟨k, na, nb, h1, h3, h4, h5, h6, h7, h8, h9, h2⟩; exact ⟨k, na, nb, h1, h3, h4, h5, h6, h7, h8, h9, h2.elim (fun q => Or.inl ⟨q.1, hR _ _ _ _ q.2⟩) (fun q => Or.inr ⟨q.1, hR _ _ _ _ q.2⟩)⟩))
    | (rintro ⟨h1, h3⟩; refine ⟨h1, ?_⟩; revert h3; split <;> first
        | exact fun H => H
        | exact fun H => hR _ _ _ _ H
        | (rintro ⟨r, g1, g2, g3⟩; exact ⟨r, g1, g2, hR _ _ _ _ g3⟩))
    | (rintro ⟨h1, h2, h3⟩; refine ⟨h1, h2, ?_⟩; revert h3; split <;> first
        | exact fun H => H
        | exact fun H => hR _ _ _ _ H
        | exact fun H => ⟨H.1, hR _ _ _ _ H.2⟩)
    | exact fun H => ⟨H.1, H.2.1, H.2.2.1, H.2.2.2.1, H.2.2.2.2.1, hR _ _ _ _ H.2.2.2.2.2⟩
    | exact fun H => ⟨H.1, H.2.1, H.2.2.1, hR _ _ _ _ H.2.2.2⟩
    | exact fun H => ⟨H.1, H.2.1, H.2.2.1, H.2.2.2.1, hR _ _ _ _ H.2.2.2.2⟩
    | (rintro ⟨h1, h2, h4, h5, h3⟩; refine ⟨h1, h2, h4, h5, ?_⟩; revert h3; split <;> first
        | exact fun H => H
        | exact fun H => hR _ _ _ _ H)
    | (split <;> first
        | exact fun H => H
        | exact fun H => hR _ _ _ _ H
        | (split <;> first
            | exact fun H => H
            | (rintro ⟨h1, h3⟩; refine ⟨h1, ?_⟩; revert h3; split <;> first
                | exact fun H => H
                | exact fun H => hR _ _ _ _ H
                | (rintro ⟨r, g1, g2, g3⟩; exact ⟨r, g1, g2, hR _ _ _ _ g3⟩))))
theorem ts_F_mono {X : ts_X} {C : ts_C} (hC : ts_mono C) {m : Nat} {E : ts_S} {Q Q' : Option Value → ts_H → Prop} {R R' : ts_R} (hQ : ∀ r h, Q r h → Q' r h) (hR : ∀ pc lv st h, R pc lv st h → R' pc lv st h) {pc : Nat} {lv st : List Value} {h : ts_H} : ts_F X C m E Q R pc lv st h → ts_F X C m E Q' R' pc lv st h := by
  unfold ts_F
  split
  · exact fun H => H
  · exact ts_Fi_mono hC hQ hR _
theorem ts_fold {X : ts_X} {C : ts_C} (hC : ts_mono C) {m : Nat} {E : ts_S} {Q : Option Value → ts_H → Prop} {pc : Nat} {lv st : List Value} {h : ts_H} (H : ts_F X C m E Q (ts_Ev X C m E Q) pc lv st h) : ts_Ev X C m E Q pc lv st h :=
  fun R hR => hR _ _ _ _ (ts_F_mono hC (fun _ _ q => q) (fun _ _ _ _ q => q R hR) H)
theorem ts_Ev_mono {X : ts_X} {C : ts_C} (hC : ts_mono C) {m : Nat} {E : ts_S} {Q Q' : Option Value → ts_H → Prop} (hQ : ∀ r h, Q r h → Q' r h) {pc : Nat} {lv st : List Value} {h : ts_H} (H : ts_Ev X C m E Q pc lv st h) : ts_Ev X C m E Q' pc lv st h :=
  fun R hR => H R (fun _ _ _ _ q => hR _ _ _ _ (ts_F_mono hC hQ (fun _ _ _ _ q => q) q))
theorem ts_Cal_mono (X : ts_X) : ∀ d, ts_mono (ts_Cal X d)
  | 0 => fun _ _ _ _ _ _ H => H
  | d + 1 => fun _ _ _ _ _ hK H => ⟨H.1, ts_Ev_mono (ts_Cal_mono X d) hK H.2⟩
/-- fewer known locals -/
theorem ts_Ev_up {X : ts_X} {d : Nat} {m : Nat} {vs : List Value} {h : ts_H} {K : Option Value → ts_H → Prop} (hl : (ts_lay vs).length ≤ ts_ml m) (H : ts_Ev X (ts_Cal X d) m h.2.2.2 K 0 (ts_ent (ts_ml m) vs) [] h) : ts_Cal X (d + 1) m vs h K := ⟨hl, H⟩
