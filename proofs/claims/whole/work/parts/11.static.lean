/-! what stands still: the script, the class's constants, the one text, links of nest mates -/
def ts_A (b0 : Nat) : Nat → Prop := fun q => b0 ≤ q
theorem ts_AOA_moved {ty : FieldType} {u U : State} {A A' : Array Value} (hvm : u.vm.Alike U.vm) (h : (Jvm.Cond.arrayOver (.array ty)).before A u = true) : (Jvm.Cond.arrayOver (.array ty)).before A' U = true := by
  unfold Cond.before Cond.holds at h
  simp only [Cond.value, beq_iff_eq] at h
  rw [Option.bind_eq_some_iff] at h
  obtain ⟨comp, h1, h2⟩ := h
  rw [Option.bind_eq_some_iff] at h2
  obtain ⟨cI, h2, h3⟩ := h2
  rw [Option.map_eq_some_iff] at h3
  obtain ⟨k, hk, hb⟩ := h3
  obtain ⟨k', hk', he⟩ := hvm.2.2 _ _ hk
  have e1 := va_idx_bare U.vm comp
  have e2 := va_idx_bare u.vm comp
  have e3 : u.vm.bare = U.vm.bare := by first | exact hvm.bare_eq | exact hvm.bare_eq.symm
  rw [e3] at e2
  have hkind : k'.kind = k.kind := by rw [he]
  unfold Cond.before Cond.holds
  simp only [Cond.value, beq_iff_eq]
  rw [Option.bind_eq_some_iff]
  refine ⟨comp, by rw [hvm.findClass]; exact h1, ?_⟩
  rw [Option.bind_eq_some_iff]
  refine ⟨cI, e1.symm.trans (e2.trans h2), ?_⟩
  rw [Option.map_eq_some_iff]
  refine ⟨k', hk', ?_⟩
  rw [hkind, hvm.findClass]
  exact hb
def ts_Z (b0 : Nat) (X : ts_X) (ad : Nat → Nat) (U : State) (H : Heap) : Prop :=
  (va_X (ad 1000) X.1 X.2 U H ∧ ad 1000 < b0) ∧
  (va_Z "ThreshedSound" "GREATEST" "[I" (.ref (ad 1001)) (ts_A b0) U H ∧ va_T .int (ad 1001) 8 (fun j => .int ((ts_ca 1001).getD j 0)) (ts_A b0) U H) ∧
  (va_Z "ThreshedSound$Flails" "ABOVE" "[I" (.ref (ad 1002)) (ts_A b0) U H ∧ va_T .int (ad 1002) 8 (fun j => .int ((ts_ca 1002).getD j 0)) (ts_A b0) U H) ∧
  (va_Z "ThreshedSound$Flails" "BODY_OF" "[I" (.ref (ad 1003)) (ts_A b0) U H ∧ va_T .int (ad 1003) 32 (fun j => .int ((ts_ca 1003).getD j 0)) (ts_A b0) U H) ∧
  va_Z "java/lang/String" "COMPACT_STRINGS" "Z" (.int 1) (ts_A b0) U H ∧
  (vk_R "ThreshedSound$LawReader" 68 "tcrmab" (ad 1004) U ∧ vk_S 1 [6] [ts_tx] (fun _ => ad 1004) (fun _ => ad 1005) (ts_A b0) U H) ∧
  (∀ w ∈ ts_nest, va_Nw w U) ∧ va_AO "ThreshedSound$Shelf" U ∧ (Jvm.Cond.arrayOver (.array .int)).before #[] U = true
theorem ts_nest_form : ∀ w ∈ ts_nest, ∃ a i x h, w = Jvm.Cond.methodLinkNest a i x h := by
  unfold ts_nest
  intro w hw
  simp only [List.mem_cons, List.not_mem_nil, or_false] at hw
  rcases hw with rfl | rfl | rfl | rfl | rfl | rfl | rfl | rfl | rfl <;> exact ⟨_, _, _, _, rfl⟩
theorem ts_Z.warm {b0 : Nat} {X : ts_X} {ad : Nat → Nat} {s U : State} {H : Heap} (hW : s.WarmedH U.vm) (h : ts_Z b0 X ad s H) : ts_Z b0 X ad U H := by
  obtain ⟨⟨h1, h1'⟩, ⟨h2, h2'⟩, ⟨h3, h3'⟩, ⟨h4, h4'⟩, h5, ⟨h6, h7⟩, h8, h9, h10⟩ := h
  have hv := hW.alike
  refine ⟨⟨h1.moved hv, h1'⟩, ⟨h2.moved hv, h2'.moved hv⟩, ⟨h3.moved hv, h3'.moved hv⟩, ⟨h4.moved hv, h4'.moved hv⟩, h5.moved hv, ⟨h6.warm hW, h7.moved hv⟩, fun w hw => ?_, h9.moved hv, ts_AOA_moved hv h10⟩
  obtain ⟨a, i, x, y, rfl⟩ := ts_nest_form w hw
  exact va_Nw.warmM hW (h8 _ hw)
theorem ts_Z.same {b0 : Nat} {X : ts_X} {ad : Nat → Nat} {s U : State} {H : Heap} (hv : U.vm = s.vm) (h : ts_Z b0 X ad s H) : ts_Z b0 X ad U H := by
  obtain ⟨⟨h1, h1'⟩, ⟨h2, h2'⟩, ⟨h3, h3'⟩, ⟨h4, h4'⟩, h5, ⟨h6, h7⟩, h8, h9, h10⟩ := h
  have ha : s.vm.Alike U.vm := by rw [hv]; exact Vm.Alike.refl s.vm
  refine ⟨⟨h1.moved ha, h1'⟩, ⟨h2.moved ha, h2'.moved ha⟩, ⟨h3.moved ha, h3'.moved ha⟩, ⟨h4.moved ha, h4'.moved ha⟩, h5.moved ha, ⟨h6.same hv, h7.moved ha⟩, fun w hw => ?_, h9.moved ha, ts_AOA_moved ha h10⟩
  obtain ⟨a, i, x, y, rfl⟩ := ts_nest_form w hw
  exact va_Nw.same rfl hv.symm (h8 _ hw)
theorem ts_Z.kept {b0 : Nat} {X : ts_X} {ad : Nat → Nat} {U : State} {H H1 : Heap} (h : ts_Z b0 X ad U H) (hq : ∀ a : Nat, a < H.size → ¬ ts_A b0 a → H1[a]? = H[a]?) : ts_Z b0 X ad U H1 := by
  obtain ⟨⟨h1, h1'⟩, ⟨h2, h2'⟩, ⟨h3, h3'⟩, ⟨h4, h4'⟩, h5, ⟨h6, h7⟩, h8⟩ := h
  refine ⟨⟨h1.kept ?_, h1'⟩, ⟨h2.kept hq, h2'.kept hq⟩, ⟨h3.kept hq, h3'.kept hq⟩, ⟨h4.kept hq, h4'.kept hq⟩, h5.kept hq, ⟨h6, h7.kept hq⟩, h8⟩
  obtain ⟨scr, hc, -⟩ := h1
  exact hq _ (Array.getElem?_eq_some_iff.mp hc).1 (Nat.not_le.mpr h1')
theorem ts_Z.ad {b0 : Nat} {X : ts_X} {ad ad' : Nat → Nat} {U : State} {H : Heap} (h : ts_Z b0 X ad U H) (ha : ∀ k, 1000 ≤ k → ad' k = ad k) : ts_Z b0 X ad' U H := by
  unfold ts_Z
  rw [ha 1000 (by decide), ha 1001 (by decide), ha 1002 (by decide), ha 1003 (by decide), ha 1004 (by decide), ha 1005 (by decide)]
  exact h
/-- a method's start -/
def ts_Wd (D : va_G) (b0 : Nat) (X : ts_X) (cA : Nat → ClassId) (ad : Nat → Nat) (h : ts_H) (U : State) : Prop := b0 ≤ U.heap.size ∧ va_K D ts_cl (ts_tys cA h.2.2.2) U ∧ va_P D ts_cl (ts_W cA ad h) U.heap ∧ va_D (ts_A b0) (ts_W cA ad h) ∧ ts_Z b0 X ad U U.heap
/-- a method's end -/
def ts_Wn (D : va_G) (b0 : Nat) (cA : Nat → ClassId) (ad : Nat → Nat) (h : ts_H) (t : State) : Prop := va_K D ts_cl (ts_tys cA h.2.2.2) t ∧ va_P D ts_cl (ts_W cA ad h) t.heap ∧ va_D (ts_A b0) (ts_W cA ad h)
def ts_ag (n : Nat) (ad ad' : Nat → Nat) : Prop := ∀ k, k ≤ n ∨ 1000 ≤ k → ad' k = ad k
def ts_Qc (D : va_G) (b0 : Nat) (cA : Nat → ClassId) (ad : Nat → Nat) (h : ts_H) (m : Nat) (K : Option Value → ts_H → Prop) : Array Value → State → Outcome → State → Prop := fun _ st oc t =>
  (∃ (r : Option Value) (h' : ts_H) (cA' : Nat → ClassId) (ad' : Nat → Nat), oc = .returned (r.map (ts_tr ad')) ∧ K r h' ∧ ts_ag h.2.2.2.length ad ad' ∧ ((ts_mk m).1 = 0 → ad' = ad ∧ cA' = cA) ∧ h'.2.2.2.length = h.2.2.2.length + (ts_mk m).1 ∧ ts_sz h'.2.2.2 = ts_sz h.2.2.2 + (ts_mk m).2 ∧ ts_Wn D b0 cA' ad' h' t) ∧ va_F (ts_A b0) st t
def ts_ws (m : Nat) : List Jvm.Cond := .code (ts_y m) (ts_bt m) (ts_ml m) (ts_rt1 m) :: ts_gw
def ts_rm (m d : Nat) : Room := { frames := d, cells := (ts_mk m).1, slots := (ts_mk m).2, locals := 64 * d }
theorem ts_blind {D : va_G} {b0 : Nat} {X : ts_X} {cA : Nat → ClassId} {ad : Nat → Nat} {h : ts_H} {vs : List Value} : FrameBlind (va_Pc vs (ts_Wd D b0 X cA ad h)) := by
  intro a U g mk q
  obtain ⟨q1, q2, q3, q4, q5, q6⟩ := q
  exact ⟨q1, q2, va_K.moved (u := U) (U := U.calling g mk a) (Vm.Alike.refl U.vm) q3, q4, q5, (show ts_Z b0 X ad (U.calling g mk a) U.heap from ts_Z.same (s := U) rfl q6)⟩
/-- the calls of depth d keep their word on the machine -/
def ts_Snd (l : Launch) (D : va_G) (b0 : Nat) (X : ts_X) (C : ts_C) (d : Nat) : Prop := ∀ (m : Nat) (vs : List Value) (h : ts_H) (K : Option Value → ts_H → Prop) (cA : Nat → ClassId) (ad : Nat → Nat), m < 250 → ¬ m = 238 → C m vs h K → Met l (ts_y m) (ts_ws m) (ts_rm m d) (va_Pc (vs.map (ts_tr ad)) (ts_Wd D b0 X cA ad h)) (ts_Qc D b0 cA ad h m K) (ts_mk m).1 (ts_mk m).2 (ts_A b0)
