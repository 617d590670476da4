/-! each step of the simple machine is one of the machine -/
/-- what a frame of method m has: the machine, its code, the words, what stands still, its room -/
def ts_Fx (p : Program) (Rm : Room) (s : State) (mi : MethodId) (args : Array Value) (meth : Method) (c : Code) (b0 : Nat) (X : ts_X) (ad0 : Nat → Nat) (m d : Nat) : Prop :=
  p.tables.exec = Jvm.exec ∧ c.code = ts_bt m ∧ c.maxLocals = ts_ml m ∧ s.vm.findClass (ts_own m) = some mi.cls ∧ (∀ w ∈ ts_gw, w.before args s = true) ∧ b0 ≤ s.heap.size ∧ ts_Z b0 X ad0 s s.heap ∧ ((ts_y m).name = "<init>" → meth.name = "<init>") ∧ d + 1 ≤ Rm.frames ∧ 64 * (d + 1) ≤ Rm.locals ∧ (ts_mk m).1 ≤ Rm.cells ∧ (ts_mk m).2 ≤ Rm.slots
def ts_Ws (p : Program) (l : Launch) (e : Env) (Rm : Room) (s : State) (mi : MethodId) (args : Array Value) (below : List Frame) (meth : Method) (c : Code) (Qf : State → Prop) (D : va_G) (b0 m : Nat) (E : ts_S) (cA0 : Nat → ClassId) (ad0 : Nat → Nat) : ts_R := fun pc lv st h => ∀ (cA : Nat → ClassId) (ad : Nat → Nat) (H : Heap) (locs : List Loc) (ls : Array Slot), va_K D ts_cl (ts_tys cA h.2.2.2) s → va_P D ts_cl (ts_W cA ad h) H → va_D (ts_A b0) (ts_W cA ad h) → va_S (ts_A b0) s.heap H locs → ts_lok ls (ts_ml m) ad lv →
  (ts_ag E.length ad0 ad ∧ (h.2.2.2.length = E.length → ad = ad0 ∧ cA = cA0) ∧ E.length ≤ h.2.2.2.length ∧ ts_sz E ≤ ts_sz h.2.2.2 ∧ h.2.2.2.length ≤ E.length + (ts_mk m).1 ∧ ts_sz h.2.2.2 ≤ ts_sz E + (ts_mk m).2) →
  W p l e Rm s mi args below meth c H locs (h.2.2.2.length - E.length) (ts_sz h.2.2.2 - ts_sz E) Qf (F0 mi pc ls (st.map (ts_tr ad)))
theorem ts_len1 {m pc nx tg : Nat} {i : Instr} (h : ts_ins m pc = some (i, nx, tg)) (hn : ∀ a b x y, i ≠ .tableswitch a b x y) (hl : ∀ a b, i ≠ .lookupswitch a b) : nx = pc + ts_len i := by
  have h1 := ts_ins_ok h
  unfold ts_chk at h1
  simp only [Bool.and_eq_true, decide_eq_true_eq] at h1
  exact h1.1.2
section SOUND
variable {p : Program} {l : Launch} {e : Env} {Rm : Room} {s : State} {mi : MethodId} {args : Array Value} {below : List Frame} {meth : Method} {c : Code} {Qf : State → Prop} {D : va_G} {b0 m d : Nat} {E : ts_S} {cA0 : Nat → ClassId} {ad0 : Nat → Nat} {X : ts_X} {C : ts_C} {K : Option Value → ts_H → Prop} {pc nx tg : Nat} {lv st : List Value} {h : ts_H}
theorem sd_iconst {n : Int} (Fx : ts_Fx p Rm s mi args meth c b0 X ad0 m d) (hi : ts_ins m pc = some (.iconst n, nx, tg)) (H0 : ts_Fi X C m E K (ts_Ws p l e Rm s mi args below meth c Qf D b0 m E cA0 ad0) (.iconst n) nx tg pc lv st h) : ts_Ws p l e Rm s mi args below meth c Qf D b0 m E cA0 ad0 pc lv st h := by
  obtain ⟨hx, hb, hml, hown, hts, hb0, hZ, hnm, hfr, hlo, hce, hsl⟩ := Fx
  have hnx : nx = pc + ts_len _ := ts_len1 hi (fun _ _ _ _ q => by cases q) (fun _ _ q => by cases q)
  simp only [ts_len] at hnx
  subst hnx
  simp only [ts_Fi] at H0
  intro cA ad H locs ls hK hP hD hS hl hg
  refine lv_iconst hx hb (ts_dec hi rfl) rfl ?_
  exact H0 cA ad H locs ls hK hP hD hS hl hg
theorem sd_bipush {n : Int} (Fx : ts_Fx p Rm s mi args meth c b0 X ad0 m d) (hi : ts_ins m pc = some (.bipush n, nx, tg)) (H0 : ts_Fi X C m E K (ts_Ws p l e Rm s mi args below meth c Qf D b0 m E cA0 ad0) (.bipush n) nx tg pc lv st h) : ts_Ws p l e Rm s mi args below meth c Qf D b0 m E cA0 ad0 pc lv st h := by
  obtain ⟨hx, hb, hml, hown, hts, hb0, hZ, hnm, hfr, hlo, hce, hsl⟩ := Fx
  have hnx : nx = pc + ts_len _ := ts_len1 hi (fun _ _ _ _ q => by cases q) (fun _ _ q => by cases q)
  simp only [ts_len] at hnx
  subst hnx
  simp only [ts_Fi] at H0
  intro cA ad H locs ls hK hP hD hS hl hg
  refine lv_bipush hx hb (ts_dec hi rfl) rfl ?_
  exact H0 cA ad H locs ls hK hP hD hS hl hg
theorem sd_sipush {n : Int} (Fx : ts_Fx p Rm s mi args meth c b0 X ad0 m d) (hi : ts_ins m pc = some (.sipush n, nx, tg)) (H0 : ts_Fi X C m E K (ts_Ws p l e Rm s mi args below meth c Qf D b0 m E cA0 ad0) (.sipush n) nx tg pc lv st h) : ts_Ws p l e Rm s mi args below meth c Qf D b0 m E cA0 ad0 pc lv st h := by
  obtain ⟨hx, hb, hml, hown, hts, hb0, hZ, hnm, hfr, hlo, hce, hsl⟩ := Fx
  have hnx : nx = pc + ts_len _ := ts_len1 hi (fun _ _ _ _ q => by cases q) (fun _ _ q => by cases q)
  simp only [ts_len] at hnx
  subst hnx
  simp only [ts_Fi] at H0
  intro cA ad H locs ls hK hP hD hS hl hg
  refine lv_sipush hx hb (ts_dec hi rfl) rfl ?_
  exact H0 cA ad H locs ls hK hP hD hS hl hg
theorem sd_lconst {n : Fin 2} (Fx : ts_Fx p Rm s mi args meth c b0 X ad0 m d) (hi : ts_ins m pc = some (.lconst n, nx, tg)) (H0 : ts_Fi X C m E K (ts_Ws p l e Rm s mi args below meth c Qf D b0 m E cA0 ad0) (.lconst n) nx tg pc lv st h) : ts_Ws p l e Rm s mi args below meth c Qf D b0 m E cA0 ad0 pc lv st h := by
  obtain ⟨hx, hb, hml, hown, hts, hb0, hZ, hnm, hfr, hlo, hce, hsl⟩ := Fx
  have hnx : nx = pc + ts_len _ := ts_len1 hi (fun _ _ _ _ q => by cases q) (fun _ _ q => by cases q)
  simp only [ts_len] at hnx
  subst hnx
  simp only [ts_Fi] at H0
  intro cA ad H locs ls hK hP hD hS hl hg
  refine lv_lconst hx hb (ts_dec hi rfl) rfl ?_
  exact H0 cA ad H locs ls hK hP hD hS hl hg
theorem sd_ldc_w {n : Nat} (Fx : ts_Fx p Rm s mi args meth c b0 X ad0 m d) (hi : ts_ins m pc = some (.ldc_w n, nx, tg)) (H0 : ts_Fi X C m E K (ts_Ws p l e Rm s mi args below meth c Qf D b0 m E cA0 ad0) (.ldc_w n) nx tg pc lv st h) : ts_Ws p l e Rm s mi args below meth c Qf D b0 m E cA0 ad0 pc lv st h := by
  obtain ⟨hx, hb, hml, hown, hts, hb0, hZ, hnm, hfr, hlo, hce, hsl⟩ := Fx
  have hnx : nx = pc + ts_len _ := ts_len1 hi (fun _ _ _ _ q => by cases q) (fun _ _ q => by cases q)
  simp only [ts_len] at hnx
  subst hnx
  simp only [ts_Fi] at H0
  split at H0
  · rename_i v hc
    intro cA ad H locs ls hK hP hD hS hl hg
    obtain ⟨q, hq⟩ := ts_lc_ok hc
    refine lv_ldcw hx hb hown (hts _ (ts_has_gw (p := q) hq)) (ts_dec hi rfl) ?_
    exact H0 cA ad H locs ls hK hP hD hS hl hg
  · exact H0.elim
theorem sd_ldc2_w {n : Nat} (Fx : ts_Fx p Rm s mi args meth c b0 X ad0 m d) (hi : ts_ins m pc = some (.ldc2_w n, nx, tg)) (H0 : ts_Fi X C m E K (ts_Ws p l e Rm s mi args below meth c Qf D b0 m E cA0 ad0) (.ldc2_w n) nx tg pc lv st h) : ts_Ws p l e Rm s mi args below meth c Qf D b0 m E cA0 ad0 pc lv st h := by
  obtain ⟨hx, hb, hml, hown, hts, hb0, hZ, hnm, hfr, hlo, hce, hsl⟩ := Fx
  have hnx : nx = pc + ts_len _ := ts_len1 hi (fun _ _ _ _ q => by cases q) (fun _ _ q => by cases q)
  simp only [ts_len] at hnx
  subst hnx
  simp only [ts_Fi] at H0
  split at H0
  · rename_i v hc
    intro cA ad H locs ls hK hP hD hS hl hg
    obtain ⟨q, hq⟩ := ts_lc_ok hc
    refine lv_ldc2 hx hb hown (hts _ (ts_has_gw (p := q) hq)) (ts_dec hi rfl) ?_
    exact H0 cA ad H locs ls hK hP hD hS hl hg
  · exact H0.elim
theorem sd_iload {k : Nat} (Fx : ts_Fx p Rm s mi args meth c b0 X ad0 m d) (hi : ts_ins m pc = some (.iload k, nx, tg)) (H0 : ts_Fi X C m E K (ts_Ws p l e Rm s mi args below meth c Qf D b0 m E cA0 ad0) (.iload k) nx tg pc lv st h) : ts_Ws p l e Rm s mi args below meth c Qf D b0 m E cA0 ad0 pc lv st h := by
  obtain ⟨hx, hb, hml, hown, hts, hb0, hZ, hnm, hfr, hlo, hce, hsl⟩ := Fx
  have hnx : nx = pc + ts_len _ := ts_len1 hi (fun _ _ _ _ q => by cases q) (fun _ _ q => by cases q)
  simp only [ts_len] at hnx
  subst hnx
  simp only [ts_Fi] at H0
  split at H0
  · rename_i v hv
    intro cA ad H locs ls hK hP hD hS hl hg
    refine lv_iload hx hb (ts_dec hi rfl) (hl.2.2.2 _ _ hv (by intro q; cases q)) ?_
    exact H0 cA ad H locs ls hK hP hD hS hl hg
  · exact H0.elim
theorem sd_iload_n {k : Fin 4} (Fx : ts_Fx p Rm s mi args meth c b0 X ad0 m d) (hi : ts_ins m pc = some (.iload_n k, nx, tg)) (H0 : ts_Fi X C m E K (ts_Ws p l e Rm s mi args below meth c Qf D b0 m E cA0 ad0) (.iload_n k) nx tg pc lv st h) : ts_Ws p l e Rm s mi args below meth c Qf D b0 m E cA0 ad0 pc lv st h := by
  obtain ⟨hx, hb, hml, hown, hts, hb0, hZ, hnm, hfr, hlo, hce, hsl⟩ := Fx
  have hnx : nx = pc + ts_len _ := ts_len1 hi (fun _ _ _ _ q => by cases q) (fun _ _ q => by cases q)
  simp only [ts_len] at hnx
  subst hnx
  simp only [ts_Fi] at H0
  split at H0
  · rename_i v hv
    intro cA ad H locs ls hK hP hD hS hl hg
    refine lv_iload_n hx hb (ts_dec hi rfl) rfl (hl.2.2.2 _ _ hv (by intro q; cases q)) ?_
    exact H0 cA ad H locs ls hK hP hD hS hl hg
  · exact H0.elim
theorem sd_lload {k : Nat} (Fx : ts_Fx p Rm s mi args meth c b0 X ad0 m d) (hi : ts_ins m pc = some (.lload k, nx, tg)) (H0 : ts_Fi X C m E K (ts_Ws p l e Rm s mi args below meth c Qf D b0 m E cA0 ad0) (.lload k) nx tg pc lv st h) : ts_Ws p l e Rm s mi args below meth c Qf D b0 m E cA0 ad0 pc lv st h := by
  obtain ⟨hx, hb, hml, hown, hts, hb0, hZ, hnm, hfr, hlo, hce, hsl⟩ := Fx
  have hnx : nx = pc + ts_len _ := ts_len1 hi (fun _ _ _ _ q => by cases q) (fun _ _ q => by cases q)
  simp only [ts_len] at hnx
  subst hnx
  simp only [ts_Fi] at H0
  split at H0
  · rename_i v hv
    intro cA ad H locs ls hK hP hD hS hl hg
    refine lv_lload hx hb (ts_dec hi rfl) (hl.2.2.2 _ _ hv (by intro q; cases q)) ?_
    exact H0 cA ad H locs ls hK hP hD hS hl hg
  · exact H0.elim
theorem sd_lload_n {k : Fin 4} (Fx : ts_Fx p Rm s mi args meth c b0 X ad0 m d) (hi : ts_ins m pc = some (.lload_n k, nx, tg)) (H0 : ts_Fi X C m E K (ts_Ws p l e Rm s mi args below meth c Qf D b0 m E cA0 ad0) (.lload_n k) nx tg pc lv st h) : ts_Ws p l e Rm s mi args below meth c Qf D b0 m E cA0 ad0 pc lv st h := by
  obtain ⟨hx, hb, hml, hown, hts, hb0, hZ, hnm, hfr, hlo, hce, hsl⟩ := Fx
  have hnx : nx = pc + ts_len _ := ts_len1 hi (fun _ _ _ _ q => by cases q) (fun _ _ q => by cases q)
  simp only [ts_len] at hnx
  subst hnx
  simp only [ts_Fi] at H0
  split at H0
  · rename_i v hv
    intro cA ad H locs ls hK hP hD hS hl hg
    refine lv_lload_n hx hb (ts_dec hi rfl) rfl (hl.2.2.2 _ _ hv (by intro q; cases q)) ?_
    exact H0 cA ad H locs ls hK hP hD hS hl hg
  · exact H0.elim
theorem sd_aload {k : Nat} (Fx : ts_Fx p Rm s mi args meth c b0 X ad0 m d) (hi : ts_ins m pc = some (.aload k, nx, tg)) (H0 : ts_Fi X C m E K (ts_Ws p l e Rm s mi args below meth c Qf D b0 m E cA0 ad0) (.aload k) nx tg pc lv st h) : ts_Ws p l e Rm s mi args below meth c Qf D b0 m E cA0 ad0 pc lv st h := by
  obtain ⟨hx, hb, hml, hown, hts, hb0, hZ, hnm, hfr, hlo, hce, hsl⟩ := Fx
  have hnx : nx = pc + ts_len _ := ts_len1 hi (fun _ _ _ _ q => by cases q) (fun _ _ q => by cases q)
  simp only [ts_len] at hnx
  subst hnx
  simp only [ts_Fi] at H0
  split at H0
  · rename_i v hv
    intro cA ad H locs ls hK hP hD hS hl hg
    refine lv_aload hx hb (ts_dec hi rfl) (hl.2.2.2 _ _ hv (by intro q; cases q)) ?_
    exact H0 cA ad H locs ls hK hP hD hS hl hg
  · exact H0.elim
theorem sd_aload_n {k : Fin 4} (Fx : ts_Fx p Rm s mi args meth c b0 X ad0 m d) (hi : ts_ins m pc = some (.aload_n k, nx, tg)) (H0 : ts_Fi X C m E K (ts_Ws p l e Rm s mi args below meth c Qf D b0 m E cA0 ad0) (.aload_n k) nx tg pc lv st h) : ts_Ws p l e Rm s mi args below meth c Qf D b0 m E cA0 ad0 pc lv st h := by
  obtain ⟨hx, hb, hml, hown, hts, hb0, hZ, hnm, hfr, hlo, hce, hsl⟩ := Fx
  have hnx : nx = pc + ts_len _ := ts_len1 hi (fun _ _ _ _ q => by cases q) (fun _ _ q => by cases q)
  simp only [ts_len] at hnx
  subst hnx
  simp only [ts_Fi] at H0
  split at H0
  · rename_i v hv
    intro cA ad H locs ls hK hP hD hS hl hg
    refine lv_aload_n hx hb (ts_dec hi rfl) rfl (hl.2.2.2 _ _ hv (by intro q; cases q)) ?_
    exact H0 cA ad H locs ls hK hP hD hS hl hg
  · exact H0.elim
theorem sd_istore {k : Nat} (Fx : ts_Fx p Rm s mi args meth c b0 X ad0 m d) (hi : ts_ins m pc = some (.istore k, nx, tg)) (H0 : ts_Fi X C m E K (ts_Ws p l e Rm s mi args below meth c Qf D b0 m E cA0 ad0) (.istore k) nx tg pc lv st h) : ts_Ws p l e Rm s mi args below meth c Qf D b0 m E cA0 ad0 pc lv st h := by
  obtain ⟨hx, hb, hml, hown, hts, hb0, hZ, hnm, hfr, hlo, hce, hsl⟩ := Fx
  have hnx : nx = pc + ts_len _ := ts_len1 hi (fun _ _ _ _ q => by cases q) (fun _ _ q => by cases q)
  simp only [ts_len] at hnx
  subst hnx
  simp only [ts_Fi] at H0
  split at H0
  · rename_i v st1
    intro cA ad H locs ls hK hP hD hS hl hg
    refine lv_istore hx hb (ts_dec hi rfl) hl.has (by rw [← hl.2.2.1]; exact H0.1) rfl (fun ls' hl' => ?_)
    exact H0.2 cA ad H locs ls' hK hP hD hS (ts_lok.put1 (v := .int v) hl.2.2.1 hl') hg
  · exact H0.elim
theorem sd_istore_n {k : Fin 4} (Fx : ts_Fx p Rm s mi args meth c b0 X ad0 m d) (hi : ts_ins m pc = some (.istore_n k, nx, tg)) (H0 : ts_Fi X C m E K (ts_Ws p l e Rm s mi args below meth c Qf D b0 m E cA0 ad0) (.istore_n k) nx tg pc lv st h) : ts_Ws p l e Rm s mi args below meth c Qf D b0 m E cA0 ad0 pc lv st h := by
  obtain ⟨hx, hb, hml, hown, hts, hb0, hZ, hnm, hfr, hlo, hce, hsl⟩ := Fx
  have hnx : nx = pc + ts_len _ := ts_len1 hi (fun _ _ _ _ q => by cases q) (fun _ _ q => by cases q)
  simp only [ts_len] at hnx
  subst hnx
  simp only [ts_Fi] at H0
  split at H0
  · rename_i v st1
    intro cA ad H locs ls hK hP hD hS hl hg
    refine lv_istore_n hx hb (ts_dec hi rfl) rfl hl.has (by rw [← hl.2.2.1]; exact H0.1) rfl (fun ls' hl' => ?_)
    exact H0.2 cA ad H locs ls' hK hP hD hS (ts_lok.put1 (v := .int v) hl.2.2.1 hl') hg
  · exact H0.elim
theorem sd_astore {k : Nat} (Fx : ts_Fx p Rm s mi args meth c b0 X ad0 m d) (hi : ts_ins m pc = some (.astore k, nx, tg)) (H0 : ts_Fi X C m E K (ts_Ws p l e Rm s mi args below meth c Qf D b0 m E cA0 ad0) (.astore k) nx tg pc lv st h) : ts_Ws p l e Rm s mi args below meth c Qf D b0 m E cA0 ad0 pc lv st h := by
  obtain ⟨hx, hb, hml, hown, hts, hb0, hZ, hnm, hfr, hlo, hce, hsl⟩ := Fx
  have hnx : nx = pc + ts_len _ := ts_len1 hi (fun _ _ _ _ q => by cases q) (fun _ _ q => by cases q)
  simp only [ts_len] at hnx
  subst hnx
  simp only [ts_Fi] at H0
  split at H0
  · rename_i v st1
    intro cA ad H locs ls hK hP hD hS hl hg
    refine lv_astore hx hb (ts_dec hi rfl) hl.has (by rw [← hl.2.2.1]; exact H0.1) rfl (fun ls' hl' => ?_)
    exact H0.2 cA ad H locs ls' hK hP hD hS (ts_lok.put1 (v := .ref v) hl.2.2.1 hl') hg
  · exact H0.elim
theorem sd_astore_n {k : Fin 4} (Fx : ts_Fx p Rm s mi args meth c b0 X ad0 m d) (hi : ts_ins m pc = some (.astore_n k, nx, tg)) (H0 : ts_Fi X C m E K (ts_Ws p l e Rm s mi args below meth c Qf D b0 m E cA0 ad0) (.astore_n k) nx tg pc lv st h) : ts_Ws p l e Rm s mi args below meth c Qf D b0 m E cA0 ad0 pc lv st h := by
  obtain ⟨hx, hb, hml, hown, hts, hb0, hZ, hnm, hfr, hlo, hce, hsl⟩ := Fx
  have hnx : nx = pc + ts_len _ := ts_len1 hi (fun _ _ _ _ q => by cases q) (fun _ _ q => by cases q)
  simp only [ts_len] at hnx
  subst hnx
  simp only [ts_Fi] at H0
  split at H0
  · rename_i v st1
    intro cA ad H locs ls hK hP hD hS hl hg
    refine lv_astore_n hx hb (ts_dec hi rfl) rfl hl.has (by rw [← hl.2.2.1]; exact H0.1) rfl (fun ls' hl' => ?_)
    exact H0.2 cA ad H locs ls' hK hP hD hS (ts_lok.put1 (v := .ref v) hl.2.2.1 hl') hg
  · exact H0.elim
theorem sd_lstore {k : Nat} (Fx : ts_Fx p Rm s mi args meth c b0 X ad0 m d) (hi : ts_ins m pc = some (.lstore k, nx, tg)) (H0 : ts_Fi X C m E K (ts_Ws p l e Rm s mi args below meth c Qf D b0 m E cA0 ad0) (.lstore k) nx tg pc lv st h) : ts_Ws p l e Rm s mi args below meth c Qf D b0 m E cA0 ad0 pc lv st h := by
  obtain ⟨hx, hb, hml, hown, hts, hb0, hZ, hnm, hfr, hlo, hce, hsl⟩ := Fx
  have hnx : nx = pc + ts_len _ := ts_len1 hi (fun _ _ _ _ q => by cases q) (fun _ _ q => by cases q)
  simp only [ts_len] at hnx
  subst hnx
  simp only [ts_Fi] at H0
  split at H0
  · rename_i v st1
    intro cA ad H locs ls hK hP hD hS hl hg
    refine lv_lstore hx hb (ts_dec hi rfl) hl.has (by rw [← hl.2.2.1]; exact H0.1) rfl (fun ls' hl' => ?_)
    exact H0.2 cA ad H locs ls' hK hP hD hS (ts_lok.put2 (v := .long v) hl.2.2.1 hl') hg
  · exact H0.elim
theorem sd_lstore_n {k : Fin 4} (Fx : ts_Fx p Rm s mi args meth c b0 X ad0 m d) (hi : ts_ins m pc = some (.lstore_n k, nx, tg)) (H0 : ts_Fi X C m E K (ts_Ws p l e Rm s mi args below meth c Qf D b0 m E cA0 ad0) (.lstore_n k) nx tg pc lv st h) : ts_Ws p l e Rm s mi args below meth c Qf D b0 m E cA0 ad0 pc lv st h := by
  obtain ⟨hx, hb, hml, hown, hts, hb0, hZ, hnm, hfr, hlo, hce, hsl⟩ := Fx
  have hnx : nx = pc + ts_len _ := ts_len1 hi (fun _ _ _ _ q => by cases q) (fun _ _ q => by cases q)
  simp only [ts_len] at hnx
  subst hnx
  simp only [ts_Fi] at H0
  split at H0
  · rename_i v st1
    intro cA ad H locs ls hK hP hD hS hl hg
    refine lv_lstore_n hx hb (ts_dec hi rfl) rfl hl.has (by rw [← hl.2.2.1]; exact H0.1) rfl (fun ls' hl' => ?_)
    exact H0.2 cA ad H locs ls' hK hP hD hS (ts_lok.put2 (v := .long v) hl.2.2.1 hl') hg
  · exact H0.elim
theorem sd_iinc {k : Nat} {n : Int} (Fx : ts_Fx p Rm s mi args meth c b0 X ad0 m d) (hi : ts_ins m pc = some (.iinc k n, nx, tg)) (H0 : ts_Fi X C m E K (ts_Ws p l e Rm s mi args below meth c Qf D b0 m E cA0 ad0) (.iinc k n) nx tg pc lv st h) : ts_Ws p l e Rm s mi args below meth c Qf D b0 m E cA0 ad0 pc lv st h := by
  obtain ⟨hx, hb, hml, hown, hts, hb0, hZ, hnm, hfr, hlo, hce, hsl⟩ := Fx
  have hnx : nx = pc + ts_len _ := ts_len1 hi (fun _ _ _ _ q => by cases q) (fun _ _ q => by cases q)
  simp only [ts_len] at hnx
  subst hnx
  simp only [ts_Fi] at H0
  split at H0
  · rename_i v hv
    intro cA ad H locs ls hK hP hD hS hl hg
    obtain ⟨q, hq⟩ := List.getElem?_of_mem (ts_lvl_mem (ad := ad) (q := (k, .int v)).mpr ⟨.int v, hv, (by intro q; cases q), rfl⟩)
    refine lv_iinc hx hb (ts_dec hi rfl) hl.has hq rfl (by rw [← hl.2.2.1]; exact (List.getElem?_eq_some_iff.mp hv).1) rfl (fun ls' hl' => ?_)
    exact H0 cA ad H locs ls' hK hP hD hS (ts_lok.put1 (v := .int (v + Int32.ofInt n)) hl.2.2.1 hl') hg
  · exact H0.elim
theorem sd_iadd (Fx : ts_Fx p Rm s mi args meth c b0 X ad0 m d) (hi : ts_ins m pc = some (.iadd, nx, tg)) (H0 : ts_Fi X C m E K (ts_Ws p l e Rm s mi args below meth c Qf D b0 m E cA0 ad0) (.iadd) nx tg pc lv st h) : ts_Ws p l e Rm s mi args below meth c Qf D b0 m E cA0 ad0 pc lv st h := by
  obtain ⟨hx, hb, hml, hown, hts, hb0, hZ, hnm, hfr, hlo, hce, hsl⟩ := Fx
  have hnx : nx = pc + ts_len _ := ts_len1 hi (fun _ _ _ _ q => by cases q) (fun _ _ q => by cases q)
  simp only [ts_len] at hnx
  subst hnx
  simp only [ts_Fi] at H0
  split at H0
  · rename_i b a st1
    intro cA ad H locs ls hK hP hD hS hl hg
    refine lv_iadd hx hb (ts_dec hi rfl) ?_
    exact H0 cA ad H locs ls hK hP hD hS hl hg
  · exact H0.elim
theorem sd_isub (Fx : ts_Fx p Rm s mi args meth c b0 X ad0 m d) (hi : ts_ins m pc = some (.isub, nx, tg)) (H0 : ts_Fi X C m E K (ts_Ws p l e Rm s mi args below meth c Qf D b0 m E cA0 ad0) (.isub) nx tg pc lv st h) : ts_Ws p l e Rm s mi args below meth c Qf D b0 m E cA0 ad0 pc lv st h := by
  obtain ⟨hx, hb, hml, hown, hts, hb0, hZ, hnm, hfr, hlo, hce, hsl⟩ := Fx
  have hnx : nx = pc + ts_len _ := ts_len1 hi (fun _ _ _ _ q => by cases q) (fun _ _ q => by cases q)
  simp only [ts_len] at hnx
  subst hnx
  simp only [ts_Fi] at H0
  split at H0
  · rename_i b a st1
    intro cA ad H locs ls hK hP hD hS hl hg
    refine lv_isub hx hb (ts_dec hi rfl) ?_
    exact H0 cA ad H locs ls hK hP hD hS hl hg
  · exact H0.elim
theorem sd_imul (Fx : ts_Fx p Rm s mi args meth c b0 X ad0 m d) (hi : ts_ins m pc = some (.imul, nx, tg)) (H0 : ts_Fi X C m E K (ts_Ws p l e Rm s mi args below meth c Qf D b0 m E cA0 ad0) (.imul) nx tg pc lv st h) : ts_Ws p l e Rm s mi args below meth c Qf D b0 m E cA0 ad0 pc lv st h := by
  obtain ⟨hx, hb, hml, hown, hts, hb0, hZ, hnm, hfr, hlo, hce, hsl⟩ := Fx
  have hnx : nx = pc + ts_len _ := ts_len1 hi (fun _ _ _ _ q => by cases q) (fun _ _ q => by cases q)
  simp only [ts_len] at hnx
  subst hnx
  simp only [ts_Fi] at H0
  split at H0
  · rename_i b a st1
    intro cA ad H locs ls hK hP hD hS hl hg
    refine lv_imul hx hb (ts_dec hi rfl) ?_
    exact H0 cA ad H locs ls hK hP hD hS hl hg
  · exact H0.elim
theorem sd_iand (Fx : ts_Fx p Rm s mi args meth c b0 X ad0 m d) (hi : ts_ins m pc = some (.iand, nx, tg)) (H0 : ts_Fi X C m E K (ts_Ws p l e Rm s mi args below meth c Qf D b0 m E cA0 ad0) (.iand) nx tg pc lv st h) : ts_Ws p l e Rm s mi args below meth c Qf D b0 m E cA0 ad0 pc lv st h := by
  obtain ⟨hx, hb, hml, hown, hts, hb0, hZ, hnm, hfr, hlo, hce, hsl⟩ := Fx
  have hnx : nx = pc + ts_len _ := ts_len1 hi (fun _ _ _ _ q => by cases q) (fun _ _ q => by cases q)
  simp only [ts_len] at hnx
  subst hnx
  simp only [ts_Fi] at H0
  split at H0
  · rename_i b a st1
    intro cA ad H locs ls hK hP hD hS hl hg
    refine lv_iand hx hb (ts_dec hi rfl) ?_
    exact H0 cA ad H locs ls hK hP hD hS hl hg
  · exact H0.elim
theorem sd_ior (Fx : ts_Fx p Rm s mi args meth c b0 X ad0 m d) (hi : ts_ins m pc = some (.ior, nx, tg)) (H0 : ts_Fi X C m E K (ts_Ws p l e Rm s mi args below meth c Qf D b0 m E cA0 ad0) (.ior) nx tg pc lv st h) : ts_Ws p l e Rm s mi args below meth c Qf D b0 m E cA0 ad0 pc lv st h := by
  obtain ⟨hx, hb, hml, hown, hts, hb0, hZ, hnm, hfr, hlo, hce, hsl⟩ := Fx
  have hnx : nx = pc + ts_len _ := ts_len1 hi (fun _ _ _ _ q => by cases q) (fun _ _ q => by cases q)
  simp only [ts_len] at hnx
  subst hnx
  simp only [ts_Fi] at H0
  split at H0
  · rename_i b a st1
    intro cA ad H locs ls hK hP hD hS hl hg
    refine lv_ior hx hb (ts_dec hi rfl) ?_
    exact H0 cA ad H locs ls hK hP hD hS hl hg
  · exact H0.elim
theorem sd_ixor (Fx : ts_Fx p Rm s mi args meth c b0 X ad0 m d) (hi : ts_ins m pc = some (.ixor, nx, tg)) (H0 : ts_Fi X C m E K (ts_Ws p l e Rm s mi args below meth c Qf D b0 m E cA0 ad0) (.ixor) nx tg pc lv st h) : ts_Ws p l e Rm s mi args below meth c Qf D b0 m E cA0 ad0 pc lv st h := by
  obtain ⟨hx, hb, hml, hown, hts, hb0, hZ, hnm, hfr, hlo, hce, hsl⟩ := Fx
  have hnx : nx = pc + ts_len _ := ts_len1 hi (fun _ _ _ _ q => by cases q) (fun _ _ q => by cases q)
  simp only [ts_len] at hnx
  subst hnx
  simp only [ts_Fi] at H0
  split at H0
  · rename_i b a st1
    intro cA ad H locs ls hK hP hD hS hl hg
    refine lv_ixor hx hb (ts_dec hi rfl) ?_
    exact H0 cA ad H locs ls hK hP hD hS hl hg
  · exact H0.elim
theorem sd_ishl (Fx : ts_Fx p Rm s mi args meth c b0 X ad0 m d) (hi : ts_ins m pc = some (.ishl, nx, tg)) (H0 : ts_Fi X C m E K (ts_Ws p l e Rm s mi args below meth c Qf D b0 m E cA0 ad0) (.ishl) nx tg pc lv st h) : ts_Ws p l e Rm s mi args below meth c Qf D b0 m E cA0 ad0 pc lv st h := by
  obtain ⟨hx, hb, hml, hown, hts, hb0, hZ, hnm, hfr, hlo, hce, hsl⟩ := Fx
  have hnx : nx = pc + ts_len _ := ts_len1 hi (fun _ _ _ _ q => by cases q) (fun _ _ q => by cases q)
  simp only [ts_len] at hnx
  subst hnx
  simp only [ts_Fi] at H0
  split at H0
  · rename_i b a st1
    intro cA ad H locs ls hK hP hD hS hl hg
    refine lv_ishl hx hb (ts_dec hi rfl) ?_
    exact H0 cA ad H locs ls hK hP hD hS hl hg
  · exact H0.elim
theorem sd_ishr (Fx : ts_Fx p Rm s mi args meth c b0 X ad0 m d) (hi : ts_ins m pc = some (.ishr, nx, tg)) (H0 : ts_Fi X C m E K (ts_Ws p l e Rm s mi args below meth c Qf D b0 m E cA0 ad0) (.ishr) nx tg pc lv st h) : ts_Ws p l e Rm s mi args below meth c Qf D b0 m E cA0 ad0 pc lv st h := by
  obtain ⟨hx, hb, hml, hown, hts, hb0, hZ, hnm, hfr, hlo, hce, hsl⟩ := Fx
  have hnx : nx = pc + ts_len _ := ts_len1 hi (fun _ _ _ _ q => by cases q) (fun _ _ q => by cases q)
  simp only [ts_len] at hnx
  subst hnx
  simp only [ts_Fi] at H0
  split at H0
  · rename_i b a st1
    intro cA ad H locs ls hK hP hD hS hl hg
    refine lv_ishr hx hb (ts_dec hi rfl) ?_
    exact H0 cA ad H locs ls hK hP hD hS hl hg
  · exact H0.elim
theorem sd_ladd (Fx : ts_Fx p Rm s mi args meth c b0 X ad0 m d) (hi : ts_ins m pc = some (.ladd, nx, tg)) (H0 : ts_Fi X C m E K (ts_Ws p l e Rm s mi args below meth c Qf D b0 m E cA0 ad0) (.ladd) nx tg pc lv st h) : ts_Ws p l e Rm s mi args below meth c Qf D b0 m E cA0 ad0 pc lv st h := by
  obtain ⟨hx, hb, hml, hown, hts, hb0, hZ, hnm, hfr, hlo, hce, hsl⟩ := Fx
  have hnx : nx = pc + ts_len _ := ts_len1 hi (fun _ _ _ _ q => by cases q) (fun _ _ q => by cases q)
  simp only [ts_len] at hnx
  subst hnx
  simp only [ts_Fi] at H0
  split at H0
  · rename_i b a st1
    intro cA ad H locs ls hK hP hD hS hl hg
    refine lv_ladd hx hb (ts_dec hi rfl) ?_
    exact H0 cA ad H locs ls hK hP hD hS hl hg
  · exact H0.elim
theorem sd_lmul (Fx : ts_Fx p Rm s mi args meth c b0 X ad0 m d) (hi : ts_ins m pc = some (.lmul, nx, tg)) (H0 : ts_Fi X C m E K (ts_Ws p l e Rm s mi args below meth c Qf D b0 m E cA0 ad0) (.lmul) nx tg pc lv st h) : ts_Ws p l e Rm s mi args below meth c Qf D b0 m E cA0 ad0 pc lv st h := by
  obtain ⟨hx, hb, hml, hown, hts, hb0, hZ, hnm, hfr, hlo, hce, hsl⟩ := Fx
  have hnx : nx = pc + ts_len _ := ts_len1 hi (fun _ _ _ _ q => by cases q) (fun _ _ q => by cases q)
  simp only [ts_len] at hnx
  subst hnx
  simp only [ts_Fi] at H0
  split at H0
  · rename_i b a st1
    intro cA ad H locs ls hK hP hD hS hl hg
    refine lv_lmul hx hb (ts_dec hi rfl) ?_
    exact H0 cA ad H locs ls hK hP hD hS hl hg
  · exact H0.elim
theorem sd_land (Fx : ts_Fx p Rm s mi args meth c b0 X ad0 m d) (hi : ts_ins m pc = some (.land, nx, tg)) (H0 : ts_Fi X C m E K (ts_Ws p l e Rm s mi args below meth c Qf D b0 m E cA0 ad0) (.land) nx tg pc lv st h) : ts_Ws p l e Rm s mi args below meth c Qf D b0 m E cA0 ad0 pc lv st h := by
  obtain ⟨hx, hb, hml, hown, hts, hb0, hZ, hnm, hfr, hlo, hce, hsl⟩ := Fx
  have hnx : nx = pc + ts_len _ := ts_len1 hi (fun _ _ _ _ q => by cases q) (fun _ _ q => by cases q)
  simp only [ts_len] at hnx
  subst hnx
  simp only [ts_Fi] at H0
  split at H0
  · rename_i b a st1
    intro cA ad H locs ls hK hP hD hS hl hg
    refine lv_land hx hb (ts_dec hi rfl) ?_
    exact H0 cA ad H locs ls hK hP hD hS hl hg
  · exact H0.elim
theorem sd_lor (Fx : ts_Fx p Rm s mi args meth c b0 X ad0 m d) (hi : ts_ins m pc = some (.lor, nx, tg)) (H0 : ts_Fi X C m E K (ts_Ws p l e Rm s mi args below meth c Qf D b0 m E cA0 ad0) (.lor) nx tg pc lv st h) : ts_Ws p l e Rm s mi args below meth c Qf D b0 m E cA0 ad0 pc lv st h := by
  obtain ⟨hx, hb, hml, hown, hts, hb0, hZ, hnm, hfr, hlo, hce, hsl⟩ := Fx
  have hnx : nx = pc + ts_len _ := ts_len1 hi (fun _ _ _ _ q => by cases q) (fun _ _ q => by cases q)
  simp only [ts_len] at hnx
  subst hnx
  simp only [ts_Fi] at H0
  split at H0
  · rename_i b a st1
    intro cA ad H locs ls hK hP hD hS hl hg
    refine lv_lor hx hb (ts_dec hi rfl) ?_
    exact H0 cA ad H locs ls hK hP hD hS hl hg
  · exact H0.elim
theorem sd_idiv (Fx : ts_Fx p Rm s mi args meth c b0 X ad0 m d) (hi : ts_ins m pc = some (.idiv, nx, tg)) (H0 : ts_Fi X C m E K (ts_Ws p l e Rm s mi args below meth c Qf D b0 m E cA0 ad0) (.idiv) nx tg pc lv st h) : ts_Ws p l e Rm s mi args below meth c Qf D b0 m E cA0 ad0 pc lv st h := by
  obtain ⟨hx, hb, hml, hown, hts, hb0, hZ, hnm, hfr, hlo, hce, hsl⟩ := Fx
  have hnx : nx = pc + ts_len _ := ts_len1 hi (fun _ _ _ _ q => by cases q) (fun _ _ q => by cases q)
  simp only [ts_len] at hnx
  subst hnx
  simp only [ts_Fi] at H0
  split at H0
  · rename_i b a st1
    intro cA ad H locs ls hK hP hD hS hl hg
    refine lv_idiv hx hb (ts_dec hi rfl) H0.1 ?_
    exact H0.2 cA ad H locs ls hK hP hD hS hl hg
  · exact H0.elim
theorem sd_irem (Fx : ts_Fx p Rm s mi args meth c b0 X ad0 m d) (hi : ts_ins m pc = some (.irem, nx, tg)) (H0 : ts_Fi X C m E K (ts_Ws p l e Rm s mi args below meth c Qf D b0 m E cA0 ad0) (.irem) nx tg pc lv st h) : ts_Ws p l e Rm s mi args below meth c Qf D b0 m E cA0 ad0 pc lv st h := by
  obtain ⟨hx, hb, hml, hown, hts, hb0, hZ, hnm, hfr, hlo, hce, hsl⟩ := Fx
  have hnx : nx = pc + ts_len _ := ts_len1 hi (fun _ _ _ _ q => by cases q) (fun _ _ q => by cases q)
  simp only [ts_len] at hnx
  subst hnx
  simp only [ts_Fi] at H0
  split at H0
  · rename_i b a st1
    intro cA ad H locs ls hK hP hD hS hl hg
    refine lv_irem hx hb (ts_dec hi rfl) H0.1 ?_
    exact H0.2 cA ad H locs ls hK hP hD hS hl hg
  · exact H0.elim
theorem sd_ldiv (Fx : ts_Fx p Rm s mi args meth c b0 X ad0 m d) (hi : ts_ins m pc = some (.ldiv, nx, tg)) (H0 : ts_Fi X C m E K (ts_Ws p l e Rm s mi args below meth c Qf D b0 m E cA0 ad0) (.ldiv) nx tg pc lv st h) : ts_Ws p l e Rm s mi args below meth c Qf D b0 m E cA0 ad0 pc lv st h := by
  obtain ⟨hx, hb, hml, hown, hts, hb0, hZ, hnm, hfr, hlo, hce, hsl⟩ := Fx
  have hnx : nx = pc + ts_len _ := ts_len1 hi (fun _ _ _ _ q => by cases q) (fun _ _ q => by cases q)
  simp only [ts_len] at hnx
  subst hnx
  simp only [ts_Fi] at H0
  split at H0
  · rename_i b a st1
    intro cA ad H locs ls hK hP hD hS hl hg
    refine lv_ldiv hx hb (ts_dec hi rfl) H0.1 ?_
    exact H0.2 cA ad H locs ls hK hP hD hS hl hg
  · exact H0.elim
theorem sd_lrem (Fx : ts_Fx p Rm s mi args meth c b0 X ad0 m d) (hi : ts_ins m pc = some (.lrem, nx, tg)) (H0 : ts_Fi X C m E K (ts_Ws p l e Rm s mi args below meth c Qf D b0 m E cA0 ad0) (.lrem) nx tg pc lv st h) : ts_Ws p l e Rm s mi args below meth c Qf D b0 m E cA0 ad0 pc lv st h := by
  obtain ⟨hx, hb, hml, hown, hts, hb0, hZ, hnm, hfr, hlo, hce, hsl⟩ := Fx
  have hnx : nx = pc + ts_len _ := ts_len1 hi (fun _ _ _ _ q => by cases q) (fun _ _ q => by cases q)
  simp only [ts_len] at hnx
  subst hnx
  simp only [ts_Fi] at H0
  split at H0
  · rename_i b a st1
    intro cA ad H locs ls hK hP hD hS hl hg
    refine lv_lrem hx hb (ts_dec hi rfl) H0.1 ?_
    exact H0.2 cA ad H locs ls hK hP hD hS hl hg
  · exact H0.elim
theorem sd_iushr (Fx : ts_Fx p Rm s mi args meth c b0 X ad0 m d) (hi : ts_ins m pc = some (.iushr, nx, tg)) (H0 : ts_Fi X C m E K (ts_Ws p l e Rm s mi args below meth c Qf D b0 m E cA0 ad0) (.iushr) nx tg pc lv st h) : ts_Ws p l e Rm s mi args below meth c Qf D b0 m E cA0 ad0 pc lv st h := by
  obtain ⟨hx, hb, hml, hown, hts, hb0, hZ, hnm, hfr, hlo, hce, hsl⟩ := Fx
  have hnx : nx = pc + ts_len _ := ts_len1 hi (fun _ _ _ _ q => by cases q) (fun _ _ q => by cases q)
  simp only [ts_len] at hnx
  subst hnx
  simp only [ts_Fi] at H0
  split at H0
  · rename_i b a st1
    intro cA ad H locs ls hK hP hD hS hl hg
    refine lv_iushr hx hb (ts_dec hi rfl) rfl ?_
    exact H0 cA ad H locs ls hK hP hD hS hl hg
  · exact H0.elim
theorem sd_lshl (Fx : ts_Fx p Rm s mi args meth c b0 X ad0 m d) (hi : ts_ins m pc = some (.lshl, nx, tg)) (H0 : ts_Fi X C m E K (ts_Ws p l e Rm s mi args below meth c Qf D b0 m E cA0 ad0) (.lshl) nx tg pc lv st h) : ts_Ws p l e Rm s mi args below meth c Qf D b0 m E cA0 ad0 pc lv st h := by
  obtain ⟨hx, hb, hml, hown, hts, hb0, hZ, hnm, hfr, hlo, hce, hsl⟩ := Fx
  have hnx : nx = pc + ts_len _ := ts_len1 hi (fun _ _ _ _ q => by cases q) (fun _ _ q => by cases q)
  simp only [ts_len] at hnx
  subst hnx
  simp only [ts_Fi] at H0
  split at H0
  · rename_i b a st1
    intro cA ad H locs ls hK hP hD hS hl hg
    refine lv_lshl hx hb (ts_dec hi rfl) rfl ?_
    exact H0 cA ad H locs ls hK hP hD hS hl hg
  · exact H0.elim
theorem sd_lcmp (Fx : ts_Fx p Rm s mi args meth c b0 X ad0 m d) (hi : ts_ins m pc = some (.lcmp, nx, tg)) (H0 : ts_Fi X C m E K (ts_Ws p l e Rm s mi args below meth c Qf D b0 m E cA0 ad0) (.lcmp) nx tg pc lv st h) : ts_Ws p l e Rm s mi args below meth c Qf D b0 m E cA0 ad0 pc lv st h := by
  obtain ⟨hx, hb, hml, hown, hts, hb0, hZ, hnm, hfr, hlo, hce, hsl⟩ := Fx
  have hnx : nx = pc + ts_len _ := ts_len1 hi (fun _ _ _ _ q => by cases q) (fun _ _ q => by cases q)
  simp only [ts_len] at hnx
  subst hnx
  simp only [ts_Fi] at H0
  split at H0
  · rename_i b a st1
    intro cA ad H locs ls hK hP hD hS hl hg
    refine W.lcmp hx hb (ts_dec hi rfl) ?_
    exact H0 cA ad H locs ls hK hP hD hS hl hg
  · exact H0.elim
theorem sd_ineg (Fx : ts_Fx p Rm s mi args meth c b0 X ad0 m d) (hi : ts_ins m pc = some (.ineg, nx, tg)) (H0 : ts_Fi X C m E K (ts_Ws p l e Rm s mi args below meth c Qf D b0 m E cA0 ad0) (.ineg) nx tg pc lv st h) : ts_Ws p l e Rm s mi args below meth c Qf D b0 m E cA0 ad0 pc lv st h := by
  obtain ⟨hx, hb, hml, hown, hts, hb0, hZ, hnm, hfr, hlo, hce, hsl⟩ := Fx
  have hnx : nx = pc + ts_len _ := ts_len1 hi (fun _ _ _ _ q => by cases q) (fun _ _ q => by cases q)
  simp only [ts_len] at hnx
  subst hnx
  simp only [ts_Fi] at H0
  split at H0
  · rename_i a st1
    intro cA ad H locs ls hK hP hD hS hl hg
    refine lv_ineg hx hb (ts_dec hi rfl) ?_
    exact H0 cA ad H locs ls hK hP hD hS hl hg
  · exact H0.elim
theorem sd_i2l (Fx : ts_Fx p Rm s mi args meth c b0 X ad0 m d) (hi : ts_ins m pc = some (.i2l, nx, tg)) (H0 : ts_Fi X C m E K (ts_Ws p l e Rm s mi args below meth c Qf D b0 m E cA0 ad0) (.i2l) nx tg pc lv st h) : ts_Ws p l e Rm s mi args below meth c Qf D b0 m E cA0 ad0 pc lv st h := by
  obtain ⟨hx, hb, hml, hown, hts, hb0, hZ, hnm, hfr, hlo, hce, hsl⟩ := Fx
  have hnx : nx = pc + ts_len _ := ts_len1 hi (fun _ _ _ _ q => by cases q) (fun _ _ q => by cases q)
  simp only [ts_len] at hnx
  subst hnx
  simp only [ts_Fi] at H0
  split at H0
  · rename_i a st1
    intro cA ad H locs ls hK hP hD hS hl hg
    refine lv_i2l hx hb (ts_dec hi rfl) rfl ?_
    exact H0 cA ad H locs ls hK hP hD hS hl hg
  · exact H0.elim
theorem sd_l2i (Fx : ts_Fx p Rm s mi args meth c b0 X ad0 m d) (hi : ts_ins m pc = some (.l2i, nx, tg)) (H0 : ts_Fi X C m E K (ts_Ws p l e Rm s mi args below meth c Qf D b0 m E cA0 ad0) (.l2i) nx tg pc lv st h) : ts_Ws p l e Rm s mi args below meth c Qf D b0 m E cA0 ad0 pc lv st h := by
  obtain ⟨hx, hb, hml, hown, hts, hb0, hZ, hnm, hfr, hlo, hce, hsl⟩ := Fx
  have hnx : nx = pc + ts_len _ := ts_len1 hi (fun _ _ _ _ q => by cases q) (fun _ _ q => by cases q)
  simp only [ts_len] at hnx
  subst hnx
  simp only [ts_Fi] at H0
  split at H0
  · rename_i a st1
    intro cA ad H locs ls hK hP hD hS hl hg
    refine lv_l2i hx hb (ts_dec hi rfl) rfl ?_
    exact H0 cA ad H locs ls hK hP hD hS hl hg
  · exact H0.elim
theorem sd_i2b (Fx : ts_Fx p Rm s mi args meth c b0 X ad0 m d) (hi : ts_ins m pc = some (.i2b, nx, tg)) (H0 : ts_Fi X C m E K (ts_Ws p l e Rm s mi args below meth c Qf D b0 m E cA0 ad0) (.i2b) nx tg pc lv st h) : ts_Ws p l e Rm s mi args below meth c Qf D b0 m E cA0 ad0 pc lv st h := by
  obtain ⟨hx, hb, hml, hown, hts, hb0, hZ, hnm, hfr, hlo, hce, hsl⟩ := Fx
  have hnx : nx = pc + ts_len _ := ts_len1 hi (fun _ _ _ _ q => by cases q) (fun _ _ q => by cases q)
  simp only [ts_len] at hnx
  subst hnx
  simp only [ts_Fi] at H0
  split at H0
  · rename_i a st1
    intro cA ad H locs ls hK hP hD hS hl hg
    refine lv_i2b hx hb (ts_dec hi rfl) rfl ?_
    exact H0 cA ad H locs ls hK hP hD hS hl hg
  · exact H0.elim
theorem sd_i2s (Fx : ts_Fx p Rm s mi args meth c b0 X ad0 m d) (hi : ts_ins m pc = some (.i2s, nx, tg)) (H0 : ts_Fi X C m E K (ts_Ws p l e Rm s mi args below meth c Qf D b0 m E cA0 ad0) (.i2s) nx tg pc lv st h) : ts_Ws p l e Rm s mi args below meth c Qf D b0 m E cA0 ad0 pc lv st h := by
  obtain ⟨hx, hb, hml, hown, hts, hb0, hZ, hnm, hfr, hlo, hce, hsl⟩ := Fx
  have hnx : nx = pc + ts_len _ := ts_len1 hi (fun _ _ _ _ q => by cases q) (fun _ _ q => by cases q)
  simp only [ts_len] at hnx
  subst hnx
  simp only [ts_Fi] at H0
  split at H0
  · rename_i a st1
    intro cA ad H locs ls hK hP hD hS hl hg
    refine lv_i2s hx hb (ts_dec hi rfl) rfl ?_
    exact H0 cA ad H locs ls hK hP hD hS hl hg
  · exact H0.elim
theorem sd_i2c (Fx : ts_Fx p Rm s mi args meth c b0 X ad0 m d) (hi : ts_ins m pc = some (.i2c, nx, tg)) (H0 : ts_Fi X C m E K (ts_Ws p l e Rm s mi args below meth c Qf D b0 m E cA0 ad0) (.i2c) nx tg pc lv st h) : ts_Ws p l e Rm s mi args below meth c Qf D b0 m E cA0 ad0 pc lv st h := by
  obtain ⟨hx, hb, hml, hown, hts, hb0, hZ, hnm, hfr, hlo, hce, hsl⟩ := Fx
  have hnx : nx = pc + ts_len _ := ts_len1 hi (fun _ _ _ _ q => by cases q) (fun _ _ q => by cases q)
  simp only [ts_len] at hnx
  subst hnx
  simp only [ts_Fi] at H0
  split at H0
  · rename_i a st1
    intro cA ad H locs ls hK hP hD hS hl hg
    refine lv_i2c hx hb (ts_dec hi rfl) rfl ?_
    exact H0 cA ad H locs ls hK hP hD hS hl hg
  · exact H0.elim
theorem sd_dup (Fx : ts_Fx p Rm s mi args meth c b0 X ad0 m d) (hi : ts_ins m pc = some (.dup, nx, tg)) (H0 : ts_Fi X C m E K (ts_Ws p l e Rm s mi args below meth c Qf D b0 m E cA0 ad0) (.dup) nx tg pc lv st h) : ts_Ws p l e Rm s mi args below meth c Qf D b0 m E cA0 ad0 pc lv st h := by
  obtain ⟨hx, hb, hml, hown, hts, hb0, hZ, hnm, hfr, hlo, hce, hsl⟩ := Fx
  have hnx : nx = pc + ts_len _ := ts_len1 hi (fun _ _ _ _ q => by cases q) (fun _ _ q => by cases q)
  simp only [ts_len] at hnx
  subst hnx
  simp only [ts_Fi] at H0
  split at H0
  · rename_i a st1
    intro cA ad H locs ls hK hP hD hS hl hg
    refine lv_dup hx hb (ts_dec hi rfl) ((ts_tr_cat ad _).trans H0.1) ?_
    exact H0.2 cA ad H locs ls hK hP hD hS hl hg
  · exact H0.elim
theorem sd_pop (Fx : ts_Fx p Rm s mi args meth c b0 X ad0 m d) (hi : ts_ins m pc = some (.pop, nx, tg)) (H0 : ts_Fi X C m E K (ts_Ws p l e Rm s mi args below meth c Qf D b0 m E cA0 ad0) (.pop) nx tg pc lv st h) : ts_Ws p l e Rm s mi args below meth c Qf D b0 m E cA0 ad0 pc lv st h := by
  obtain ⟨hx, hb, hml, hown, hts, hb0, hZ, hnm, hfr, hlo, hce, hsl⟩ := Fx
  have hnx : nx = pc + ts_len _ := ts_len1 hi (fun _ _ _ _ q => by cases q) (fun _ _ q => by cases q)
  simp only [ts_len] at hnx
  subst hnx
  simp only [ts_Fi] at H0
  split at H0
  · rename_i a st1
    intro cA ad H locs ls hK hP hD hS hl hg
    refine lv_pop hx hb (ts_dec hi rfl) ((ts_tr_cat ad _).trans H0.1) ?_
    exact H0.2 cA ad H locs ls hK hP hD hS hl hg
  · exact H0.elim
theorem sd_dup2 (Fx : ts_Fx p Rm s mi args meth c b0 X ad0 m d) (hi : ts_ins m pc = some (.dup2, nx, tg)) (H0 : ts_Fi X C m E K (ts_Ws p l e Rm s mi args below meth c Qf D b0 m E cA0 ad0) (.dup2) nx tg pc lv st h) : ts_Ws p l e Rm s mi args below meth c Qf D b0 m E cA0 ad0 pc lv st h := by
  obtain ⟨hx, hb, hml, hown, hts, hb0, hZ, hnm, hfr, hlo, hce, hsl⟩ := Fx
  have hnx : nx = pc + ts_len _ := ts_len1 hi (fun _ _ _ _ q => by cases q) (fun _ _ q => by cases q)
  simp only [ts_len] at hnx
  subst hnx
  simp only [ts_Fi] at H0
  split at H0
  · rename_i a st1
    intro cA ad H locs ls hK hP hD hS hl hg
    refine lv_dup2_2 hx hb (ts_dec hi rfl) rfl ?_
    exact H0 cA ad H locs ls hK hP hD hS hl hg
  · rename_i a b st1 hne
    intro cA ad H locs ls hK hP hD hS hl hg
    refine lv_dup2_11 hx hb (ts_dec hi rfl) ((ts_tr_cat ad _).trans H0.1) ((ts_tr_cat ad _).trans H0.2.1) ?_
    exact H0.2.2 cA ad H locs ls hK hP hD hS hl hg
  · exact H0.elim
theorem ts_tgt {o : Int} {i : Instr} (h : ts_ins m pc = some (i, nx, tg)) (hi : i = .goto o ∨ (∃ x, i = .ifCond x o) ∨ ∃ x, i = .if_icmp x o) : (pc : Int) + o = (tg : Int) := by
  have h1 := ts_ins_ok h
  unfold ts_chk at h1
  simp only [Bool.and_eq_true, decide_eq_true_eq] at h1
  have h2 := h1.2
  rcases hi with rfl | ⟨x, rfl⟩ | ⟨x, rfl⟩ <;> exact of_decide_eq_true h2
theorem sd_goto {o : Int} (Fx : ts_Fx p Rm s mi args meth c b0 X ad0 m d) (hi : ts_ins m pc = some (.goto o, nx, tg)) (H0 : ts_Fi X C m E K (ts_Ws p l e Rm s mi args below meth c Qf D b0 m E cA0 ad0) (.goto o) nx tg pc lv st h) : ts_Ws p l e Rm s mi args below meth c Qf D b0 m E cA0 ad0 pc lv st h := by
  obtain ⟨hx, hb, hml, hown, hts, hb0, hZ, hnm, hfr, hlo, hce, hsl⟩ := Fx
  have hnx : nx = pc + ts_len _ := ts_len1 hi (fun _ _ _ _ q => by cases q) (fun _ _ q => by cases q)
  simp only [ts_len] at hnx
  subst hnx
  simp only [ts_Fi] at H0
  intro cA ad H locs ls hK hP hD hS hl hg
  refine lv_goto hx hb (ts_dec hi rfl) (ts_tgt hi (Or.inl rfl)) ?_
  exact H0 cA ad H locs ls hK hP hD hS hl hg
theorem sd_ifCond {k : Jvm.ClassFile.Cond} {o : Int} (Fx : ts_Fx p Rm s mi args meth c b0 X ad0 m d) (hi : ts_ins m pc = some (.ifCond k o, nx, tg)) (H0 : ts_Fi X C m E K (ts_Ws p l e Rm s mi args below meth c Qf D b0 m E cA0 ad0) (.ifCond k o) nx tg pc lv st h) : ts_Ws p l e Rm s mi args below meth c Qf D b0 m E cA0 ad0 pc lv st h := by
  obtain ⟨hx, hb, hml, hown, hts, hb0, hZ, hnm, hfr, hlo, hce, hsl⟩ := Fx
  have hnx : nx = pc + ts_len _ := ts_len1 hi (fun _ _ _ _ q => by cases q) (fun _ _ q => by cases q)
  simp only [ts_len] at hnx
  subst hnx
  simp only [ts_Fi] at H0
  split at H0
  · rename_i a st1
    intro cA ad H locs ls hK hP hD hS hl hg
    have ht := ts_tgt hi (Or.inr (Or.inl ⟨_, rfl⟩))
    cases k
    case eq => refine lv_if_eq hx hb (ts_dec hi rfl) ht (fun q => H0.1 q cA ad H locs ls hK hP hD hS hl hg) (fun q => H0.2 q cA ad H locs ls hK hP hD hS hl hg)
    case ge => refine lv_if_ge hx hb (ts_dec hi rfl) ht (fun q => H0.1 q cA ad H locs ls hK hP hD hS hl hg) (fun q => H0.2 q cA ad H locs ls hK hP hD hS hl hg)
    case gt => refine lv_if_gt hx hb (ts_dec hi rfl) ht (fun q => H0.1 q cA ad H locs ls hK hP hD hS hl hg) (fun q => H0.2 q cA ad H locs ls hK hP hD hS hl hg)
    case le => refine lv_if_le hx hb (ts_dec hi rfl) ht (fun q => H0.1 q cA ad H locs ls hK hP hD hS hl hg) (fun q => H0.2 q cA ad H locs ls hK hP hD hS hl hg)
    case lt => refine lv_if_lt hx hb (ts_dec hi rfl) ht (fun q => H0.1 q cA ad H locs ls hK hP hD hS hl hg) (fun q => H0.2 q cA ad H locs ls hK hP hD hS hl hg)
    case ne => refine lv_if_ne hx hb (ts_dec hi rfl) ht (fun q => H0.1 q cA ad H locs ls hK hP hD hS hl hg) (fun q => H0.2 (not_not_intro q) cA ad H locs ls hK hP hD hS hl hg)
  · exact H0.elim
theorem sd_if_icmp {k : Jvm.ClassFile.Cond} {o : Int} (Fx : ts_Fx p Rm s mi args meth c b0 X ad0 m d) (hi : ts_ins m pc = some (.if_icmp k o, nx, tg)) (H0 : ts_Fi X C m E K (ts_Ws p l e Rm s mi args below meth c Qf D b0 m E cA0 ad0) (.if_icmp k o) nx tg pc lv st h) : ts_Ws p l e Rm s mi args below meth c Qf D b0 m E cA0 ad0 pc lv st h := by
  obtain ⟨hx, hb, hml, hown, hts, hb0, hZ, hnm, hfr, hlo, hce, hsl⟩ := Fx
  have hnx : nx = pc + ts_len _ := ts_len1 hi (fun _ _ _ _ q => by cases q) (fun _ _ q => by cases q)
  simp only [ts_len] at hnx
  subst hnx
  simp only [ts_Fi] at H0
  split at H0
  · rename_i b a st1
    intro cA ad H locs ls hK hP hD hS hl hg
    have ht := ts_tgt hi (Or.inr (Or.inr ⟨_, rfl⟩))
    cases k
    case eq => refine lv_icmp_eq hx hb (ts_dec hi rfl) ht (fun q => H0.1 q cA ad H locs ls hK hP hD hS hl hg) (fun q => H0.2 q cA ad H locs ls hK hP hD hS hl hg)
    case ge => refine lv_icmp_ge hx hb (ts_dec hi rfl) ht (fun q => H0.1 q cA ad H locs ls hK hP hD hS hl hg) (fun q => H0.2 q cA ad H locs ls hK hP hD hS hl hg)
    case gt => refine lv_icmp_gt hx hb (ts_dec hi rfl) ht (fun q => H0.1 q cA ad H locs ls hK hP hD hS hl hg) (fun q => H0.2 q cA ad H locs ls hK hP hD hS hl hg)
    case le => refine lv_icmp_le hx hb (ts_dec hi rfl) ht (fun q => H0.1 q cA ad H locs ls hK hP hD hS hl hg) (fun q => H0.2 q cA ad H locs ls hK hP hD hS hl hg)
    case lt => refine lv_icmp_lt hx hb (ts_dec hi rfl) ht (fun q => H0.1 q cA ad H locs ls hK hP hD hS hl hg) (fun q => H0.2 q cA ad H locs ls hK hP hD hS hl hg)
    case ne => refine lv_icmp_ne hx hb (ts_dec hi rfl) ht (fun q => H0.1 q cA ad H locs ls hK hP hD hS hl hg) (fun q => H0.2 (not_not_intro q) cA ad H locs ls hK hP hD hS hl hg)
  · exact H0.elim
theorem sd_ldc {n : Nat} (Fx : ts_Fx p Rm s mi args meth c b0 X ad0 m d) (hi : ts_ins m pc = some (.ldc n, nx, tg)) (H0 : ts_Fi X C m E K (ts_Ws p l e Rm s mi args below meth c Qf D b0 m E cA0 ad0) (.ldc n) nx tg pc lv st h) : ts_Ws p l e Rm s mi args below meth c Qf D b0 m E cA0 ad0 pc lv st h := by
  obtain ⟨hx, hb, hml, hown, hts, hb0, hZ, hnm, hfr, hlo, hce, hsl⟩ := Fx
  have hnx : nx = pc + ts_len _ := ts_len1 hi (fun _ _ _ _ q => by cases q) (fun _ _ q => by cases q)
  simp only [ts_len] at hnx
  subst hnx
  simp only [ts_Fi] at H0
  split at H0
  · rename_i v hc
    intro cA ad H locs ls hK hP hD hS hl hg
    obtain ⟨q, hq⟩ := ts_lc_ok hc
    refine lv_ldc hx hb hown (hts _ (ts_has_gw (p := q) hq)) (ts_dec hi rfl) ?_
    exact H0 cA ad H locs ls hK hP hD hS hl hg
  · rename_i v hc
    intro cA ad H locs ls hK hP hD hS hl hg
    obtain ⟨q, hq⟩ := ts_lc_ok hc
    simp only [ts_lcok, Bool.and_eq_true, decide_eq_true_eq] at hq
    obtain ⟨⟨rfl, e1⟩, rfl⟩ := hq
    have hR := hZ.2.2.2.2.2.1.1
    refine va_ldcS hx hb hown (by unfold ts_own; rw [e1]; rw [← hg.1 1004 (Or.inr (by decide))] at hR; exact hR) (ts_dec hi rfl) ?_
    exact H0 cA ad H locs ls hK hP hD hS hl hg
  · exact H0.elim
theorem sd_tableswitch {dd lo hh : Int} {os : Array Int} (Fx : ts_Fx p Rm s mi args meth c b0 X ad0 m d) (hi : ts_ins m pc = some (.tableswitch dd lo hh os, nx, tg)) (H0 : ts_Fi X C m E K (ts_Ws p l e Rm s mi args below meth c Qf D b0 m E cA0 ad0) (.tableswitch dd lo hh os) nx tg pc lv st h) : ts_Ws p l e Rm s mi args below meth c Qf D b0 m E cA0 ad0 pc lv st h := by
  obtain ⟨hx, hb, hml, hown, hts, hb0, hZ, hnm, hfr, hlo, hce, hsl⟩ := Fx
  simp only [ts_Fi] at H0
  split at H0
  · rename_i a st1
    intro cA ad H locs ls hK hP hD hS hl hg
    obtain ⟨t, ht, k⟩ := H0
    obtain ⟨len, hlen, hdec⟩ := ts_nx hi
    have hck := ts_ins_ok hi
    unfold ts_chk at hck
    simp only [Bool.and_eq_true, decide_eq_true_eq] at hck
    obtain ⟨-, ⟨hd0, hos⟩, -⟩ := hck
    unfold ts_sw at ht
    simp only at ht
    by_cases hout : a.toInt < lo ∨ hh < a.toInt
    · rw [if_pos hout] at ht
      cases ht
      refine lv_tableOut hx hb hdec hout (Int.toNat_of_nonneg hd0).symm ?_
      exact k cA ad H locs ls hK hP hD hS hl hg
    · rw [if_neg hout] at ht
      split at ht
      · rename_i o ho
        cases ht
        have h0 : 0 ≤ (pc : Int) + o := of_decide_eq_true (Array.all_eq_true_iff_forall_mem.mp hos o (Array.mem_of_getElem? ho))
        refine lv_tableIn hx hb hdec (fun q => hout (Or.inl q)) (fun q => hout (Or.inr q)) ho (Int.toNat_of_nonneg h0).symm ?_
        exact k cA ad H locs ls hK hP hD hS hl hg
      · cases ht
  · exact H0.elim
theorem ts_off_mem (dd x : Int) : ∀ l : List (Int × Int), Op.lookupswitch.offset l dd x = dd ∨ ∃ q ∈ l, Op.lookupswitch.offset l dd x = q.2
  | [] => Or.inl rfl
  | (a, o) :: r => by
    rw [Op.lookupswitch.offset_cons]
    by_cases hq : a = x
    · rw [if_pos hq]; exact Or.inr ⟨(a, o), List.mem_cons_self, rfl⟩
    · rw [if_neg hq]
      rcases ts_off_mem dd x r with e | ⟨q, h1, h2⟩
      · exact Or.inl e
      · exact Or.inr ⟨q, List.mem_cons_of_mem _ h1, h2⟩
theorem sd_lookupswitch {dd : Int} {ps : Array (Int × Int)} (Fx : ts_Fx p Rm s mi args meth c b0 X ad0 m d) (hi : ts_ins m pc = some (.lookupswitch dd ps, nx, tg)) (H0 : ts_Fi X C m E K (ts_Ws p l e Rm s mi args below meth c Qf D b0 m E cA0 ad0) (.lookupswitch dd ps) nx tg pc lv st h) : ts_Ws p l e Rm s mi args below meth c Qf D b0 m E cA0 ad0 pc lv st h := by
  obtain ⟨hx, hb, hml, hown, hts, hb0, hZ, hnm, hfr, hlo, hce, hsl⟩ := Fx
  simp only [ts_Fi] at H0
  split at H0
  · rename_i a st1
    intro cA ad H locs ls hK hP hD hS hl hg
    obtain ⟨t, ht, k⟩ := H0
    obtain ⟨len, hlen, hdec⟩ := ts_nx hi
    have hck := ts_ins_ok hi
    unfold ts_chk at hck
    simp only [Bool.and_eq_true, decide_eq_true_eq] at hck
    obtain ⟨-, ⟨hd0, hos⟩, hp⟩ := hck
    unfold ts_sw at ht
    simp only at ht
    cases ht
    have h0 : 0 ≤ (pc : Int) + Op.lookupswitch.offset ps.toList dd a.toInt := by
      rcases ts_off_mem dd a.toInt ps.toList with e | ⟨q, hq, e⟩
      · rw [e]; exact hd0
      · rw [e]; exact of_decide_eq_true (Array.all_eq_true_iff_forall_mem.mp hos q (Array.mem_def.mpr hq))
    refine lv_lookup hx hb hdec hp rfl (Int.toNat_of_nonneg h0).symm ?_
    exact k cA ad H locs ls hK hP hD hS hl hg
  · exact H0.elim
theorem ts_sg_ok {c i : Nat} {v : Value} (h : ts_sg c i = some v) : (c, i, v) = (11, 114, .ref 1001) ∨ (c, i, v) = (17, 38, .int 1) ∨ (c, i, v) = (2, 43, .ref 1003) ∨ (c, i, v) = (2, 28, .ref 1002) := by
  have hm := ts_lookup_mem h
  unfold ts_sgL at hm
  simp only [List.mem_cons, List.not_mem_nil, or_false, Prod.mk.injEq] at hm
  rcases hm with ⟨⟨rfl, rfl⟩, rfl⟩ | ⟨⟨rfl, rfl⟩, rfl⟩ | ⟨⟨rfl, rfl⟩, rfl⟩ | ⟨⟨rfl, rfl⟩, rfl⟩
  · exact Or.inl rfl
  · exact Or.inr (Or.inl rfl)
  · exact Or.inr (Or.inr (Or.inl rfl))
  · exact Or.inr (Or.inr (Or.inr rfl))
theorem ts_hsg1 : (.fieldLink "ThreshedSound" 114 "ThreshedSound" "GREATEST" "[I" : Jvm.Cond) ∈ ts_gw := ts_has_gw (p := (2, 210)) (by decide +kernel)
theorem ts_hsg2 : (.fieldLink "java/lang/String" 38 "java/lang/String" "COMPACT_STRINGS" "Z" : Jvm.Cond) ∈ ts_gw := ts_has_gw (p := (3, 56)) (by decide +kernel)
theorem ts_hsg3 : (.fieldLink "ThreshedSound$Flails" 43 "ThreshedSound$Flails" "BODY_OF" "[I" : Jvm.Cond) ∈ ts_gw := ts_has_gw (p := (5, 13)) (by decide +kernel)
theorem ts_hsg4 : (.fieldLink "ThreshedSound$Flails" 28 "ThreshedSound$Flails" "ABOVE" "[I" : Jvm.Cond) ∈ ts_gw := ts_has_gw (p := (5, 15)) (by decide +kernel)
theorem ts_hsf1 : (.fieldLink "java/lang/String" 15 "java/lang/String" "coder" "B" : Jvm.Cond) ∈ ts_gw := ts_has_gw (p := (7, 131)) (by decide +kernel)
theorem ts_hsf2 : (.fieldLink "java/lang/String" 9 "java/lang/String" "value" "[B" : Jvm.Cond) ∈ ts_gw := ts_has_gw (p := (7, 132)) (by decide +kernel)
theorem sd_getstatic {n : Nat} (Fx : ts_Fx p Rm s mi args meth c b0 X ad0 m d) (hi : ts_ins m pc = some (.getstatic n, nx, tg)) (H0 : ts_Fi X C m E K (ts_Ws p l e Rm s mi args below meth c Qf D b0 m E cA0 ad0) (.getstatic n) nx tg pc lv st h) : ts_Ws p l e Rm s mi args below meth c Qf D b0 m E cA0 ad0 pc lv st h := by
  obtain ⟨hx, hb, hml, hown, hts, hb0, hZ, hnm, hfr, hlo, hce, hsl⟩ := Fx
  have hnx : nx = pc + ts_len _ := ts_len1 hi (fun _ _ _ _ q => by cases q) (fun _ _ q => by cases q)
  simp only [ts_len] at hnx
  subst hnx
  simp only [ts_Fi] at H0
  split at H0
  · rename_i v hc
    intro cA ad H locs ls hK hP hD hS hl hg
    obtain ⟨-, ⟨z1, -⟩, ⟨z2, -⟩, ⟨z3, -⟩, z4, -⟩ := hZ
    have hag := hg.1
    have a1 := hag 1001 (Or.inr (by decide))
    have a2 := hag 1002 (Or.inr (by decide))
    have a3 := hag 1003 (Or.inr (by decide))
    rw [← a1] at z1
    rw [← a2] at z2
    rw [← a3] at z3
    rcases ts_sg_ok hc with e | e | e | e <;> obtain ⟨e1, rfl, rfl⟩ := Prod.mk.inj e |>.imp id Prod.mk.inj
    · unfold ts_own at hown
      rw [e1] at hown
      refine va_gets hx hb z1 hS hown (hts _ ts_hsg1) (fun _ q => q) (ts_dec hi rfl) ?_
      exact H0 cA ad H locs ls hK hP hD hS hl hg
    · unfold ts_own at hown
      rw [e1] at hown
      refine va_gets hx hb z4 hS hown (hts _ ts_hsg2) (fun _ q => q) (ts_dec hi rfl) ?_
      exact H0 cA ad H locs ls hK hP hD hS hl hg
    · unfold ts_own at hown
      rw [e1] at hown
      refine va_gets hx hb z3 hS hown (hts _ ts_hsg3) (fun _ q => q) (ts_dec hi rfl) ?_
      exact H0 cA ad H locs ls hK hP hD hS hl hg
    · unfold ts_own at hown
      rw [e1] at hown
      refine va_gets hx hb z2 hS hown (hts _ ts_hsg4) (fun _ q => q) (ts_dec hi rfl) ?_
      exact H0 cA ad H locs ls hK hP hD hS hl hg
  · exact H0.elim
theorem sd_getfield {n : Nat} (Fx : ts_Fx p Rm s mi args meth c b0 X ad0 m d) (hi : ts_ins m pc = some (.getfield n, nx, tg)) (H0 : ts_Fi X C m E K (ts_Ws p l e Rm s mi args below meth c Qf D b0 m E cA0 ad0) (.getfield n) nx tg pc lv st h) : ts_Ws p l e Rm s mi args below meth c Qf D b0 m E cA0 ad0 pc lv st h := by
  obtain ⟨hx, hb, hml, hown, hts, hb0, hZ, hnm, hfr, hlo, hce, hsl⟩ := Fx
  have hnx : nx = pc + ts_len _ := ts_len1 hi (fun _ _ _ _ q => by cases q) (fun _ _ q => by cases q)
  simp only [ts_len] at hnx
  subst hnx
  simp only [ts_Fi] at H0
  split at H0
  · rename_i a st1
    split at H0
    · rename_i h4
      have ha : a = 1004 := Nat.eq_of_beq_eq_true h4
      subst ha
      split at H0
      · rename_i v hc
        intro cA ad H locs ls hK hP hD hS hl hg
        obtain ⟨-, -, -, -, -, ⟨-, zS⟩, -⟩ := hZ
        have a4 := hg.1 1004 (Or.inr (by decide))
        have a5 := hg.1 1005 (Or.inr (by decide))
        rw [← a4, ← a5] at zS
        have hm := ts_lookup_mem hc
        unfold ts_sfL at hm
        simp only [List.mem_cons, List.not_mem_nil, or_false, Prod.mk.injEq] at hm
        rcases hm with ⟨⟨e1, rfl⟩, rfl⟩ | ⟨⟨e1, rfl⟩, rfl⟩
        · unfold ts_own at hown
          rw [e1] at hown
          refine vk_getf hx hb (zS.1 0 (by decide)).2.1 hS hown (hts _ ts_hsf1) (fun _ q => q) (ts_dec hi rfl) ?_
          exact H0 cA ad H locs ls hK hP hD hS hl hg
        · unfold ts_own at hown
          rw [e1] at hown
          refine vk_getf hx hb (zS.1 0 (by decide)).2.2.1 hS hown (hts _ ts_hsf2) (fun _ q => q) (ts_dec hi rfl) ?_
          exact H0 cA ad H locs ls hK hP hD hS hl hg
      · exact H0.elim
    · split at H0
      · rename_i ci j hf
        obtain ⟨hs, H0⟩ := H0
        intro cA ad H locs ls hK hP hD hS hl hg
        obtain ⟨ha1, i, n, rfl, hsi⟩ := ts_isI_some hs
        obtain ⟨hw, hj, hci⟩ := ts_ft_ok hf
        have he : (ts_W cA ad h)[i]? = some (ad (i + 1), .inr (ci, (List.range (ts_nf ci)).map (ts_fv ad h (i + 1) ci))) := by rw [ts_W_get hsi, ts_cto]
        have hv : ((List.range (ts_nf ci)).map (ts_fv ad h (i + 1) ci))[j]? = some (ts_fv ad h (i + 1) ci j) := by rw [List.getElem?_map, List.getElem?_range hj]; rfl
        refine va_get hx hb hts (ts_cl_ws hci) hown hK hP i he (ts_cl_get hci) j hj (hts _ hw) (fun _ q => q) hv (ts_dec hi rfl) ?_
        split at H0
        · rename_i hk
          rw [show ts_fv ad h (i + 1) ci j = .int (h.1 (i + 1) j) by unfold ts_fv; rw [hk]; rfl]
          exact H0 cA ad H locs ls hK hP hD hS hl hg
        · rename_i hk
          rw [show ts_fv ad h (i + 1) ci j = .int (h.1 (i + 1) j) by unfold ts_fv; rw [hk]; rfl]
          exact H0 cA ad H locs ls hK hP hD hS hl hg
        · rename_i hk
          obtain ⟨r, g1, g2, H0⟩ := H0
          rw [show ts_fv ad h (i + 1) ci j = .ref (ad r) by unfold ts_fv; rw [if_pos hk]; simp only [ts_po, g1, if_neg g2]; rfl]
          exact H0 cA ad H locs ls hK hP hD hS hl hg
        · exact H0.elim
      · exact H0.elim
  · exact H0.elim
theorem sd_putfield {n : Nat} (Fx : ts_Fx p Rm s mi args meth c b0 X ad0 m d) (hi : ts_ins m pc = some (.putfield n, nx, tg)) (H0 : ts_Fi X C m E K (ts_Ws p l e Rm s mi args below meth c Qf D b0 m E cA0 ad0) (.putfield n) nx tg pc lv st h) : ts_Ws p l e Rm s mi args below meth c Qf D b0 m E cA0 ad0 pc lv st h := by
  obtain ⟨hx, hb, hml, hown, hts, hb0, hZ, hnm, hfr, hlo, hce, hsl⟩ := Fx
  have hnx : nx = pc + ts_len _ := ts_len1 hi (fun _ _ _ _ q => by cases q) (fun _ _ q => by cases q)
  simp only [ts_len] at hnx
  subst hnx
  simp only [ts_Fi] at H0
  split at H0
  · rename_i v a st1
    split at H0
    · rename_i ci j hf
      obtain ⟨hs, hff, H0⟩ := H0
      intro cA ad H locs ls hK hP hD hS hl hg
      obtain ⟨ha1, i, n, rfl, hsi⟩ := ts_isI_some hs
      obtain ⟨hw, hj, hci⟩ := ts_ft_ok hf
      have he : (ts_W cA ad h)[i]? = some (ad (i + 1), .inr (ci, (List.range (ts_nf ci)).map (ts_fv ad h (i + 1) ci))) := by rw [ts_W_get hsi, ts_cto]
      have hfin : (ts_Tf ci j).2.2.2 = false := (ts_fd_fin hci hj).1.symm.trans hff
      split at H0
      · rename_i hk
        refine va_put hx hb hts (ts_cl_ws hci) (ts_tyf ci) (ts_ty_ok hci) (ts_nm_ok hci) hown hK hP hD hS i he (ts_cl_get hci) j hj (hts _ hw) (fun _ q => q) (v := .int v) hfin (ts_fd_int hci hj hk) rfl rfl (by simpa using hj) (ts_dec hi rfl) (fun H1 locs1 hP1 hD1 hS1 => ?_)
        rw [ts_W_putI hsi (by rw [hk]; decide)] at hP1 hD1
        exact H0 cA ad H1 locs1 ls hK hP1 hD1 hS1 hl hg
      · rename_i hk
        obtain ⟨hv, H0⟩ := H0
        refine va_put hx hb hts (ts_cl_ws hci) (ts_tyf ci) (ts_ty_ok hci) (ts_nm_ok hci) hown hK hP hD hS i he (ts_cl_get hci) j hj (hts _ hw) (fun _ q => q) (v := .int v) hfin (ts_fd_bool hci hj hk) (by rcases hv with rfl | rfl <;> rfl) (by rcases hv with rfl | rfl <;> rfl) (by simpa using hj) (ts_dec hi rfl) (fun H1 locs1 hP1 hD1 hS1 => ?_)
        rw [ts_W_putI hsi (by rw [hk]; decide)] at hP1 hD1
        exact H0 cA ad H1 locs1 ls hK hP1 hD1 hS1 hl hg
      · exact H0.elim
    · exact H0.elim
  · rename_i v a st1
    split at H0
    · rename_i ci j hf
      obtain ⟨⟨hs, hpg⟩, hv0, hv1, hff, H0⟩ := H0
      intro cA ad H locs ls hK hP hD hS hl hg
      obtain ⟨ha1, i, n, rfl, hsi⟩ := ts_isI_some hs
      obtain ⟨hw, hj, hci⟩ := ts_ft_ok hf
      have he : (ts_W cA ad h)[i]? = some (ad (i + 1), .inr (ci, (List.range (ts_nf ci)).map (ts_fv ad h (i + 1) ci))) := by rw [ts_W_get hsi, ts_cto]
      split at H0
      · rename_i hk
        obtain ⟨ty, t1, t2, t3, -⟩ := ts_fd_ref hci hj hk (ad v)
        rcases hff with hff | ⟨hin1, hin2, hin3⟩
        · refine va_put hx hb hts (ts_cl_ws hci) (ts_tyf ci) (ts_ty_ok hci) (ts_nm_ok hci) hown hK hP hD hS i he (ts_cl_get hci) j hj (hts _ hw) (fun _ q => q) (v := .ref (ad v)) ((ts_fd_fin hci hj).1.symm.trans hff) t1 t2 t3 (by simpa using hj) (ts_dec hi rfl) (fun H1 locs1 hP1 hD1 hS1 => ?_)
          rw [ts_W_putA hsi hk hpg hv0] at hP1 hD1
          exact H0 cA ad H1 locs1 ls hK hP1 hD1 hS1 hl hg
        · refine va_putF hx hb hts (ts_cl_ws hci) (ts_tyf ci) (ts_ty_ok hci) (ts_nm_ok hci) hown hK hP hD hS i he (ts_cl_get hci) j hj (hts _ hw) (fun _ q => q) (v := .ref (ad v)) ((ts_fd_fin hci hj).2.1.symm.trans hin3) (hnm hin1) (by rw [(ts_fd_fin hci hj).2.2]; unfold ts_own; rw [hin2]) t1 t2 t3 (by simpa using hj) (ts_dec hi rfl) (fun H1 locs1 hP1 hD1 hS1 => ?_)
          rw [ts_W_putA hsi hk hpg hv0] at hP1 hD1
          exact H0 cA ad H1 locs1 ls hK hP1 hD1 hS1 hl hg
      · exact H0.elim
    · exact H0.elim
  · exact H0.elim
theorem ts_ai_cases {I : Nat → Nat → Int32} {S : ts_S} {a n : Nat} {f : Nat → Int32} (h : ts_ai X I S a = some (n, f)) : (∃ i, a = i + 1 ∧ S[i]? = some (0, n) ∧ f = I a) ∨ (a = 1000 ∧ X = (n, f)) ∨ ((a = 1001 ∨ a = 1002 ∨ a = 1003) ∧ n = (ts_ca a).length ∧ f = fun j => (ts_ca a).getD j 0) := by
  unfold ts_ai at h
  cases hb : Nat.blt a 1000 with
  | true =>
    rw [hb] at h
    simp only [cond_true] at h
    split at h
    · rename_i n' hs
      cases h
      obtain ⟨i, e1, e2⟩ := ts_sh_some hs
      exact Or.inl ⟨i, e1, e2, rfl⟩
    · cases h
  | false =>
    rw [hb] at h
    simp only [cond_false] at h
    have h1 : ¬ a < 1000 := fun q => by
      have h9 : Nat.blt a 1000 = true := Nat.ble_eq_true_of_le q
      rw [hb] at h9
      cases h9
    cases hc : Nat.beq a 1000 with
    | true =>
      rw [hc] at h
      exact Or.inr (Or.inl ⟨Nat.eq_of_beq_eq_true hc, Option.some.inj h⟩)
    | false =>
      rw [hc] at h
      simp only [cond_false] at h
      have h2 : ¬ a = 1000 := fun q => by subst q; cases hc
      cases hd : Nat.ble a 1003 with
      | true =>
        rw [hd] at h
        have h3 : a ≤ 1003 := Nat.le_of_ble_eq_true hd
        cases h
        exact Or.inr (Or.inr ⟨by omega, rfl, rfl⟩)
      | false => rw [hd] at h; cases h
theorem sd_iaload (Fx : ts_Fx p Rm s mi args meth c b0 X ad0 m d) (hi : ts_ins m pc = some (.iaload, nx, tg)) (H0 : ts_Fi X C m E K (ts_Ws p l e Rm s mi args below meth c Qf D b0 m E cA0 ad0) (.iaload) nx tg pc lv st h) : ts_Ws p l e Rm s mi args below meth c Qf D b0 m E cA0 ad0 pc lv st h := by
  obtain ⟨hx, hb, hml, hown, hts, hb0, hZ, hnm, hfr, hlo, hce, hsl⟩ := Fx
  have hnx : nx = pc + ts_len _ := ts_len1 hi (fun _ _ _ _ q => by cases q) (fun _ _ q => by cases q)
  simp only [ts_len] at hnx
  subst hnx
  simp only [ts_Fi] at H0
  split at H0
  · rename_i x a st1
    obtain ⟨n, f, hai, hin, H0⟩ := H0
    intro cA ad H locs ls hK hP hD hS hl hg
    rcases ts_ai_cases hai with ⟨i, rfl, hsi, rfl⟩ | ⟨rfl, rfl⟩ | ⟨h3, rfl, rfl⟩
    · refine va_iald hx hb hK hP i (i + 2) (by rw [ts_W_get hsi, ts_ct0]) (ts_tys_get hsi (by decide)) hin (ts_dec hi rfl) ?_
      exact H0 cA ad H locs ls hK hP hD hS hl hg
    · have a0 := hg.1 1000 (Or.inr (by decide))
      have zX := hZ.1
      rw [← a0] at zX
      refine va_sld hx hb zX.1 (by exact (Array.getElem?_eq_some_iff.mp zX.1.choose_spec.1).1) (Nat.not_le.mpr zX.2) hS hin (ts_dec hi rfl) ?_
      exact H0 cA ad H locs ls hK hP hD hS hl hg
    · have a1 := hg.1 1001 (Or.inr (by decide))
      have a2 := hg.1 1002 (Or.inr (by decide))
      have a3 := hg.1 1003 (Or.inr (by decide))
      obtain ⟨-, ⟨-, z1⟩, ⟨-, z2⟩, ⟨-, z3⟩, -⟩ := hZ
      rw [← a1] at z1
      rw [← a2] at z2
      rw [← a3] at z3
      rcases h3 with rfl | rfl | rfl
      · refine va_ti hx hb z1 hS hin rfl (ts_dec hi rfl) ?_
        exact H0 cA ad H locs ls hK hP hD hS hl hg
      · refine va_ti hx hb z2 hS hin rfl (ts_dec hi rfl) ?_
        exact H0 cA ad H locs ls hK hP hD hS hl hg
      · refine va_ti hx hb z3 hS hin rfl (ts_dec hi rfl) ?_
        exact H0 cA ad H locs ls hK hP hD hS hl hg
  · exact H0.elim
theorem sd_laload (Fx : ts_Fx p Rm s mi args meth c b0 X ad0 m d) (hi : ts_ins m pc = some (.laload, nx, tg)) (H0 : ts_Fi X C m E K (ts_Ws p l e Rm s mi args below meth c Qf D b0 m E cA0 ad0) (.laload) nx tg pc lv st h) : ts_Ws p l e Rm s mi args below meth c Qf D b0 m E cA0 ad0 pc lv st h := by
  obtain ⟨hx, hb, hml, hown, hts, hb0, hZ, hnm, hfr, hlo, hce, hsl⟩ := Fx
  have hnx : nx = pc + ts_len _ := ts_len1 hi (fun _ _ _ _ q => by cases q) (fun _ _ q => by cases q)
  simp only [ts_len] at hnx
  subst hnx
  simp only [ts_Fi] at H0
  split at H0
  · rename_i x a st1
    obtain ⟨n, hs, hin, H0⟩ := H0
    intro cA ad H locs ls hK hP hD hS hl hg
    obtain ⟨ha, i, rfl, hsi⟩ := ts_sA_some hs
    refine va_lald hx hb hK hP i (i + 2) (by rw [ts_W_get hsi, ts_ct1]) (ts_tys_get hsi (by decide)) hin (ts_dec hi rfl) ?_
    exact H0 cA ad H locs ls hK hP hD hS hl hg
  · exact H0.elim
theorem sd_aaload (Fx : ts_Fx p Rm s mi args meth c b0 X ad0 m d) (hi : ts_ins m pc = some (.aaload, nx, tg)) (H0 : ts_Fi X C m E K (ts_Ws p l e Rm s mi args below meth c Qf D b0 m E cA0 ad0) (.aaload) nx tg pc lv st h) : ts_Ws p l e Rm s mi args below meth c Qf D b0 m E cA0 ad0 pc lv st h := by
  obtain ⟨hx, hb, hml, hown, hts, hb0, hZ, hnm, hfr, hlo, hce, hsl⟩ := Fx
  have hnx : nx = pc + ts_len _ := ts_len1 hi (fun _ _ _ _ q => by cases q) (fun _ _ q => by cases q)
  simp only [ts_len] at hnx
  subst hnx
  simp only [ts_Fi] at H0
  split at H0
  · rename_i x a st1
    obtain ⟨k, n, r, hs, hk, hin, hr, hr0, H0⟩ := H0
    intro cA ad H locs ls hK hP hD hS hl hg
    obtain ⟨ha, i, rfl, hsi⟩ := ts_sA_some hs
    have he : (ts_W cA ad h)[i]? = some (ad (i + 1), .inl (cA k, n, .inr (.inr (.inr (.inr (ts_po ad h.2.2.1 (i + 1))))))) := by rw [ts_W_get hsi, ts_ctq hk]
    have hpo : va_rf (ts_po ad h.2.2.1 (i + 1) x.toNatClampNeg) = .ref (ad r) := by simp only [ts_po, hr, if_neg hr0]; rfl
    have hlt : x.toNatClampNeg < n := Nat.not_le.mp fun q => hin (Or.inr q)
    have hty : (ts_tys cA h.2.2.2)[i + 2]? = some (cA k, ts_at k) := ts_tys_get hsi (by omega)
    refine W.aald (v := va_rf (ts_po ad h.2.2.1 (i + 1) x.toNatClampNeg)) (ty := ts_at k) hx hb (hP i _ he) ((hK.2 (i + 2) _ hty).1 n (fun j => va_rf (ts_po ad h.2.2.1 (i + 1) j))) (by rcases hk with rfl | rfl <;> rfl) (fun q => by cases q) (by show ¬ (x < 0 ∨ (arrV _ _ _).slots.size ≤ _); rw [arrV_size]; exact hin) (by show (arrV _ _ _).slots[_]? = _; rw [arrV_read _ _ hlt]) rfl rfl (ts_dec hi rfl) ?_
    rw [hpo]
    exact H0 cA ad H locs ls hK hP hD hS hl hg
  · exact H0.elim
theorem sd_baload (Fx : ts_Fx p Rm s mi args meth c b0 X ad0 m d) (hi : ts_ins m pc = some (.baload, nx, tg)) (H0 : ts_Fi X C m E K (ts_Ws p l e Rm s mi args below meth c Qf D b0 m E cA0 ad0) (.baload) nx tg pc lv st h) : ts_Ws p l e Rm s mi args below meth c Qf D b0 m E cA0 ad0 pc lv st h := by
  obtain ⟨hx, hb, hml, hown, hts, hb0, hZ, hnm, hfr, hlo, hce, hsl⟩ := Fx
  have hnx : nx = pc + ts_len _ := ts_len1 hi (fun _ _ _ _ q => by cases q) (fun _ _ q => by cases q)
  simp only [ts_len] at hnx
  subst hnx
  simp only [ts_Fi] at H0
  split at H0
  · rename_i x a st1
    obtain ⟨rfl, hin, H0⟩ := H0
    intro cA ad H locs ls hK hP hD hS hl hg
    obtain ⟨-, -, -, -, -, ⟨-, zS⟩, -⟩ := hZ
    have a5 := hg.1 1005 (Or.inr (by decide))
    have zT := (zS.1 0 (by decide)).2.2.2
    rw [← a5] at zT
    refine va_tb hx hb zT hS hin rfl (ts_dec hi rfl) ?_
    exact H0 cA ad H locs ls hK hP hD hS hl hg
  · exact H0.elim
theorem sd_iastore (Fx : ts_Fx p Rm s mi args meth c b0 X ad0 m d) (hi : ts_ins m pc = some (.iastore, nx, tg)) (H0 : ts_Fi X C m E K (ts_Ws p l e Rm s mi args below meth c Qf D b0 m E cA0 ad0) (.iastore) nx tg pc lv st h) : ts_Ws p l e Rm s mi args below meth c Qf D b0 m E cA0 ad0 pc lv st h := by
  obtain ⟨hx, hb, hml, hown, hts, hb0, hZ, hnm, hfr, hlo, hce, hsl⟩ := Fx
  have hnx : nx = pc + ts_len _ := ts_len1 hi (fun _ _ _ _ q => by cases q) (fun _ _ q => by cases q)
  simp only [ts_len] at hnx
  subst hnx
  simp only [ts_Fi] at H0
  split at H0
  · rename_i v x a st1
    obtain ⟨n, hs, hin, H0⟩ := H0
    intro cA ad H locs ls hK hP hD hS hl hg
    obtain ⟨ha, i, rfl, hsi⟩ := ts_sA_some hs
    refine va_iast hx hb hK hP hD hS i (i + 2) (by rw [ts_W_get hsi, ts_ct0]) (ts_tys_get hsi (by decide)) hin (ts_dec hi rfl) (fun H1 locs1 hP1 hD1 hS1 => ?_)
    rw [ts_W_setI hsi] at hP1 hD1
    exact H0 cA ad H1 locs1 ls hK hP1 hD1 hS1 hl hg
  · exact H0.elim
theorem sd_lastore (Fx : ts_Fx p Rm s mi args meth c b0 X ad0 m d) (hi : ts_ins m pc = some (.lastore, nx, tg)) (H0 : ts_Fi X C m E K (ts_Ws p l e Rm s mi args below meth c Qf D b0 m E cA0 ad0) (.lastore) nx tg pc lv st h) : ts_Ws p l e Rm s mi args below meth c Qf D b0 m E cA0 ad0 pc lv st h := by
  obtain ⟨hx, hb, hml, hown, hts, hb0, hZ, hnm, hfr, hlo, hce, hsl⟩ := Fx
  have hnx : nx = pc + ts_len _ := ts_len1 hi (fun _ _ _ _ q => by cases q) (fun _ _ q => by cases q)
  simp only [ts_len] at hnx
  subst hnx
  simp only [ts_Fi] at H0
  split at H0
  · rename_i v x a st1
    obtain ⟨n, hs, hin, H0⟩ := H0
    intro cA ad H locs ls hK hP hD hS hl hg
    obtain ⟨ha, i, rfl, hsi⟩ := ts_sA_some hs
    refine va_last hx hb hK hP hD hS i (i + 2) (by rw [ts_W_get hsi, ts_ct1]) (ts_tys_get hsi (by decide)) hin (ts_dec hi rfl) (fun H1 locs1 hP1 hD1 hS1 => ?_)
    rw [ts_W_setL hsi] at hP1 hD1
    exact H0 cA ad H1 locs1 ls hK hP1 hD1 hS1 hl hg
  · exact H0.elim
theorem sd_aastore (Fx : ts_Fx p Rm s mi args meth c b0 X ad0 m d) (hi : ts_ins m pc = some (.aastore, nx, tg)) (H0 : ts_Fi X C m E K (ts_Ws p l e Rm s mi args below meth c Qf D b0 m E cA0 ad0) (.aastore) nx tg pc lv st h) : ts_Ws p l e Rm s mi args below meth c Qf D b0 m E cA0 ad0 pc lv st h := by
  obtain ⟨hx, hb, hml, hown, hts, hb0, hZ, hnm, hfr, hlo, hce, hsl⟩ := Fx
  have hnx : nx = pc + ts_len _ := ts_len1 hi (fun _ _ _ _ q => by cases q) (fun _ _ q => by cases q)
  simp only [ts_len] at hnx
  subst hnx
  simp only [ts_Fi] at H0
  split at H0
  · rename_i v x a st1
    obtain ⟨n, ⟨hs, hpg⟩, hv, hin, H0⟩ := H0
    intro cA ad H locs ls hK hP hD hS hl hg
    obtain ⟨ha, i, rfl, hsi⟩ := ts_sA_some hs
    obtain ⟨hv1, j, n2, rfl, hsj⟩ := ts_isI_some hv
    refine va_astq hx hb hK hP hD hS i (i + 2) j 7 (r := (ts_cn.getD 7 "", ts_Tf 7, ts_nf 7)) (by rw [ts_W_get hsi, ts_ctq (Or.inl rfl)]) (ts_tys_get hsi (by decide)) (by rw [ts_W_get hsj, ts_cto]) (ts_cl_get (by decide)) hin (ts_dec hi rfl) (fun H1 locs1 hP1 hD1 hS1 => ?_)
    rw [ts_W_setA hsi hpg (by omega)] at hP1 hD1
    exact H0 cA ad H1 locs1 ls hK hP1 hD1 hS1 hl hg
  · exact H0.elim
theorem ts_al_cases {S : ts_S} {a n : Nat} (h : ts_al X S a = some n) : (∃ i k, a = i + 1 ∧ S[i]? = some (k, n) ∧ k < 4) ∨ (a = 1000 ∧ n = X.1) ∨ (a = 1005 ∧ n = 6) := by
  unfold ts_al at h
  cases hb : Nat.blt a 1000 with
  | true =>
    rw [hb] at h
    simp only [cond_true] at h
    split at h
    · rename_i k n' hs
      cases hk : Nat.blt k 4 with
      | true =>
        rw [hk] at h
        cases h
        obtain ⟨i, e1, e2⟩ := ts_sh_some hs
        exact Or.inl ⟨i, k, e1, e2, by simpa using hk⟩
      | false => rw [hk] at h; cases h
    · cases h
  | false =>
    rw [hb] at h
    simp only [cond_false] at h
    cases hc : Nat.beq a 1000 with
    | true =>
      rw [hc] at h
      exact Or.inr (Or.inl ⟨Nat.eq_of_beq_eq_true hc, (Option.some.inj h).symm⟩)
    | false =>
      rw [hc] at h
      simp only [cond_false] at h
      cases hd : Nat.beq a 1005 with
      | true =>
        rw [hd] at h
        exact Or.inr (Or.inr ⟨Nat.eq_of_beq_eq_true hd, (Option.some.inj h).symm⟩)
      | false => rw [hd] at h; cases h
theorem sd_arraylength (Fx : ts_Fx p Rm s mi args meth c b0 X ad0 m d) (hi : ts_ins m pc = some (.arraylength, nx, tg)) (H0 : ts_Fi X C m E K (ts_Ws p l e Rm s mi args below meth c Qf D b0 m E cA0 ad0) (.arraylength) nx tg pc lv st h) : ts_Ws p l e Rm s mi args below meth c Qf D b0 m E cA0 ad0 pc lv st h := by
  obtain ⟨hx, hb, hml, hown, hts, hb0, hZ, hnm, hfr, hlo, hce, hsl⟩ := Fx
  have hnx : nx = pc + ts_len _ := ts_len1 hi (fun _ _ _ _ q => by cases q) (fun _ _ q => by cases q)
  simp only [ts_len] at hnx
  subst hnx
  simp only [ts_Fi] at H0
  split at H0
  · rename_i a st1
    obtain ⟨n, hal, H0⟩ := H0
    intro cA ad H locs ls hK hP hD hS hl hg
    rcases ts_al_cases hal with ⟨i, k, rfl, hsi, hk⟩ | ⟨rfl, rfl⟩ | ⟨rfl, rfl⟩
    · have hty := ts_tys_get (cA := cA) hsi hk
      have hw := ts_W_get (cA := cA) (ad := ad) hsi
      rcases (show k = 0 ∨ k = 1 ∨ k = 2 ∨ k = 3 by omega) with rfl | rfl | rfl | rfl
      · rw [ts_ct0] at hw
        refine va_alen hx hb hK hP i (i + 2) hw hty rfl (ts_dec hi rfl) ?_
        exact H0 cA ad H locs ls hK hP hD hS hl hg
      · rw [ts_ct1] at hw
        refine va_alen hx hb hK hP i (i + 2) hw hty rfl (ts_dec hi rfl) ?_
        exact H0 cA ad H locs ls hK hP hD hS hl hg
      · rw [ts_ctq (Or.inl rfl)] at hw
        refine va_alen hx hb hK hP i (i + 2) hw hty rfl (ts_dec hi rfl) ?_
        exact H0 cA ad H locs ls hK hP hD hS hl hg
      · rw [ts_ctq (Or.inr rfl)] at hw
        refine va_alen hx hb hK hP i (i + 2) hw hty rfl (ts_dec hi rfl) ?_
        exact H0 cA ad H locs ls hK hP hD hS hl hg
    · have a0 := hg.1 1000 (Or.inr (by decide))
      have zX := hZ.1
      rw [← a0] at zX
      refine va_slen hx hb zX.1 (by exact (Array.getElem?_eq_some_iff.mp zX.1.choose_spec.1).1) (Nat.not_le.mpr zX.2) hS (ts_dec hi rfl) ?_
      exact H0 cA ad H locs ls hK hP hD hS hl hg
    · obtain ⟨-, -, -, -, -, ⟨-, zS⟩, -⟩ := hZ
      have a5 := hg.1 1005 (Or.inr (by decide))
      have zT := (zS.1 0 (by decide)).2.2.2
      rw [← a5] at zT
      refine va_tlen hx hb zT hS rfl (ts_dec hi rfl) ?_
      exact H0 cA ad H locs ls hK hP hD hS hl hg
  · exact H0.elim
/-- the ways a method ends -/
def ts_isR (i : Instr) (r : Option Value) : Prop := (i = .ireturn ∧ ∃ v, r = some (.int v)) ∨ (i = .lreturn ∧ ∃ v, r = some (.long v)) ∨ (i = .areturn ∧ ∃ v, r = some (.ref v)) ∨ (i = .return_ ∧ r = none)
def ts_Hr (p : Program) (l : Launch) (e : Env) (Rm : Room) (s : State) (mi : MethodId) (args : Array Value) (below : List Frame) (meth : Method) (c : Code) (Qf : State → Prop) (D : va_G) (b0 m : Nat) (E : ts_S) (cA0 : Nat → ClassId) (ad0 : Nat → Nat) (K : Option Value → ts_H → Prop) : Prop := ∀ (i : Instr) (r : Option Value) (pc : Nat) (h : ts_H) (cA : Nat → ClassId) (ad : Nat → Nat) (H : Heap) (locs : List Loc) (ls : Array Slot), decode (ts_bt m) pc = .ok (i, 1) → ts_isR i r → ts_ret m E r h → K r h → va_K D ts_cl (ts_tys cA h.2.2.2) s → va_P D ts_cl (ts_W cA ad h) H → va_D (ts_A b0) (ts_W cA ad h) → va_S (ts_A b0) s.heap H locs →
  (ts_ag E.length ad0 ad ∧ (h.2.2.2.length = E.length → ad = ad0 ∧ cA = cA0) ∧ E.length ≤ h.2.2.2.length ∧ ts_sz E ≤ ts_sz h.2.2.2 ∧ h.2.2.2.length ≤ E.length + (ts_mk m).1 ∧ ts_sz h.2.2.2 ≤ ts_sz E + (ts_mk m).2) →
  W p l e Rm s mi args below meth c H locs (h.2.2.2.length - E.length) (ts_sz h.2.2.2 - ts_sz E) Qf (F0 mi pc ls (r.toList.map (ts_tr ad)))
theorem sd_ireturn (Hr : ts_Hr p l e Rm s mi args below meth c Qf D b0 m E cA0 ad0 K) (Fx : ts_Fx p Rm s mi args meth c b0 X ad0 m d) (hi : ts_ins m pc = some (.ireturn, nx, tg)) (H0 : ts_Fi X C m E K (ts_Ws p l e Rm s mi args below meth c Qf D b0 m E cA0 ad0) (.ireturn) nx tg pc lv st h) : ts_Ws p l e Rm s mi args below meth c Qf D b0 m E cA0 ad0 pc lv st h := by
  obtain ⟨hx, hb, hml, hown, hts, hb0, hZ, hnm, hfr, hlo, hce, hsl⟩ := Fx
  have hnx : nx = pc + ts_len _ := ts_len1 hi (fun _ _ _ _ q => by cases q) (fun _ _ q => by cases q)
  simp only [ts_len] at hnx
  subst hnx
  simp only [ts_Fi] at H0
  split at H0
  · rename_i v
    intro cA ad H locs ls hK hP hD hS hl hg
    exact Hr _ (some (.int v)) pc h cA ad H locs ls (ts_dec hi rfl) (Or.inl ⟨rfl, _, rfl⟩) H0.1 H0.2 hK hP hD hS hg
  · exact H0.elim
theorem sd_lreturn (Hr : ts_Hr p l e Rm s mi args below meth c Qf D b0 m E cA0 ad0 K) (Fx : ts_Fx p Rm s mi args meth c b0 X ad0 m d) (hi : ts_ins m pc = some (.lreturn, nx, tg)) (H0 : ts_Fi X C m E K (ts_Ws p l e Rm s mi args below meth c Qf D b0 m E cA0 ad0) (.lreturn) nx tg pc lv st h) : ts_Ws p l e Rm s mi args below meth c Qf D b0 m E cA0 ad0 pc lv st h := by
  obtain ⟨hx, hb, hml, hown, hts, hb0, hZ, hnm, hfr, hlo, hce, hsl⟩ := Fx
  have hnx : nx = pc + ts_len _ := ts_len1 hi (fun _ _ _ _ q => by cases q) (fun _ _ q => by cases q)
  simp only [ts_len] at hnx
  subst hnx
  simp only [ts_Fi] at H0
  split at H0
  · rename_i v
    intro cA ad H locs ls hK hP hD hS hl hg
    exact Hr _ (some (.long v)) pc h cA ad H locs ls (ts_dec hi rfl) (Or.inr (Or.inl ⟨rfl, _, rfl⟩)) H0.1 H0.2 hK hP hD hS hg
  · exact H0.elim
theorem sd_areturn (Hr : ts_Hr p l e Rm s mi args below meth c Qf D b0 m E cA0 ad0 K) (Fx : ts_Fx p Rm s mi args meth c b0 X ad0 m d) (hi : ts_ins m pc = some (.areturn, nx, tg)) (H0 : ts_Fi X C m E K (ts_Ws p l e Rm s mi args below meth c Qf D b0 m E cA0 ad0) (.areturn) nx tg pc lv st h) : ts_Ws p l e Rm s mi args below meth c Qf D b0 m E cA0 ad0 pc lv st h := by
  obtain ⟨hx, hb, hml, hown, hts, hb0, hZ, hnm, hfr, hlo, hce, hsl⟩ := Fx
  have hnx : nx = pc + ts_len _ := ts_len1 hi (fun _ _ _ _ q => by cases q) (fun _ _ q => by cases q)
  simp only [ts_len] at hnx
  subst hnx
  simp only [ts_Fi] at H0
  split at H0
  · rename_i v
    intro cA ad H locs ls hK hP hD hS hl hg
    exact Hr _ (some (.ref v)) pc h cA ad H locs ls (ts_dec hi rfl) (Or.inr (Or.inr (Or.inl ⟨rfl, _, rfl⟩))) H0.2.1 H0.2.2 hK hP hD hS hg
  · exact H0.elim
theorem sd_return_ (Hr : ts_Hr p l e Rm s mi args below meth c Qf D b0 m E cA0 ad0 K) (Fx : ts_Fx p Rm s mi args meth c b0 X ad0 m d) (hi : ts_ins m pc = some (.return_, nx, tg)) (H0 : ts_Fi X C m E K (ts_Ws p l e Rm s mi args below meth c Qf D b0 m E cA0 ad0) (.return_) nx tg pc lv st h) : ts_Ws p l e Rm s mi args below meth c Qf D b0 m E cA0 ad0 pc lv st h := by
  obtain ⟨hx, hb, hml, hown, hts, hb0, hZ, hnm, hfr, hlo, hce, hsl⟩ := Fx
  have hnx : nx = pc + ts_len _ := ts_len1 hi (fun _ _ _ _ q => by cases q) (fun _ _ q => by cases q)
  simp only [ts_len] at hnx
  subst hnx
  simp only [ts_Fi] at H0
  split at H0
  · intro cA ad H locs ls hK hP hD hS hl hg
    exact Hr _ none pc h cA ad H locs ls (ts_dec hi rfl) (Or.inr (Or.inr (Or.inr ⟨rfl, rfl⟩))) H0.1 H0.2 hK hP hD hS hg
  · exact H0.elim
end SOUND
