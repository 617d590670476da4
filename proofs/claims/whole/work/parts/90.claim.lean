/-! THE CLAIM OUT OF ONE WALK OF THE LAW'S BODY. Your part is whole_start (and what it stands on); all else here is the same for every law, but numbers. -/
def R_law : String := "ThreshedSoundLaw"
def lw_P (b : Addr) (xs : List Int32) (args : Array Value) (s : State) : Prop := args = #[.ref b] ∧ s.IntsAt b xs ∧ xs.length ≤ 3072 ∧ (Jvm.Cond.and given_1 narrow_1).before args s = true
def lw_Q (_ : Array Value) (s : State) (o : Outcome) (t : State) : Prop := o = .returned (some (.int 1)) ∧ Framed s o t [] 600000 7302250
def lw_Z (below : List Frame) (a : Array Value) (s : State) : State → Prop := fun t => ∃ o, t.status = .running ∧ Ended t below o ∧ lw_Q a s o t
/-- the law's own end, with 1 on the stack, nothing written that was there before, its room as the claim has it -/
theorem lw_ret {p : Program} {l : Launch} {e : Env} {s : State} {m : MethodId} {below : List Frame} {meth : Method} {c : Code} {b : Nat} (hx : p.tables.exec = Jvm.exec) (hb : c.code = code) (hr : meth.sig.returnType = ret) (hlocks : meth.locks = false) {pc : Nat} {H : Heap} {ls : Array Slot} (hdg : decode code pc = .ok (.ireturn, 1)) : W p l e room_1 s m #[Value.ref b] below meth c H [] 600000 7302250 (lw_Z below #[Value.ref b] s) (F0 m pc ls [.int 1]) := by
  intro T hT X
  obtain ⟨fs, hret, hrun, hended, hW, hframe⟩ := X.leave (v := some (.int 1)) (hlocks := hlocks) (fun h => by rw [hr] at h; cases h)
  have hmeth' : T.vm.method? m = some meth := X.method'
  refine ⟨T.setFrames fs, ?_, .returned (some (.int 1)), hrun, hended, rfl, ⟨_, rfl⟩, hW, hframe⟩
  jvm_step X.here [X.here.top, hx, hb, hdg, hmeth', hr, ret, narrow_b1]
  (try refine ⟨rfl, ?_⟩); (try refine ⟨rfl, ?_⟩)
  first | (intro acts; rw [hret _ acts rfl rfl rfl]) | rw [hret _ _ rfl rfl rfl]
  exact Steps.refl _
/-- what holds at the law's entry: the machine, the code, the tables' words (any of lw_tbl by 'hts w (by decide +kernel)'), the script of L ints xs at the cell b, what the Statement gives of the start (any of its parts by flat_of_before) -/
def lw_At (p : Program) (s : State) (m : MethodId) (meth : Method) (c : Code) (b L : Nat) (xs : Nat → Int32) : Prop :=
  p.tables.exec = Jvm.exec ∧ c.code = code ∧ meth.sig.returnType = ret ∧ c.maxLocals = 4 ∧ s.vm.findClass R_law = some m.cls ∧ (∀ w ∈ lw_tbl, w.before #[Value.ref b] s = true) ∧ va_X b L xs s s.heap ∧ b < s.heap.size ∧ meth.locks = false ∧ (Jvm.Cond.and given_1 narrow_1).before #[Value.ref b] s = true
theorem ts_inst {ci : Nat} (h : ci < 13) : Jvm.Cond.instantiable (ts_cn.getD ci "") (ts_nf ci) ∈ ts_gw := by
  rcases ts_ci13 h with rfl | rfl | rfl | rfl | rfl | rfl | rfl | rfl | rfl | rfl | rfl | rfl | rfl
  · exact (ts_nw_ok (c := 11) (i := 71) (by decide +kernel)).1 _ (List.mem_cons_of_mem _ List.mem_cons_self)
  · exact (ts_nw_ok (c := 11) (i := 53) (by decide +kernel)).1 _ (List.mem_cons_of_mem _ List.mem_cons_self)
  · exact (ts_nw_ok (c := 11) (i := 78) (by decide +kernel)).1 _ (List.mem_cons_of_mem _ List.mem_cons_self)
  · exact (ts_nw_ok (c := 11) (i := 7) (by decide +kernel)).1 _ (List.mem_cons_of_mem _ List.mem_cons_self)
  · exact (ts_nw_ok (c := 3) (i := 48) (by decide +kernel)).1 _ (List.mem_cons_of_mem _ List.mem_cons_self)
  · exact (ts_nw_ok (c := 11) (i := 16) (by decide +kernel)).1 _ (List.mem_cons_of_mem _ List.mem_cons_self)
  · exact (ts_nw_ok (c := 11) (i := 32) (by decide +kernel)).1 _ (List.mem_cons_of_mem _ List.mem_cons_self)
  · exact (ts_nw_ok (c := 11) (i := 85) (by decide +kernel)).1 _ (List.mem_cons_of_mem _ List.mem_cons_self)
  · exact (ts_nw_ok (c := 11) (i := 39) (by decide +kernel)).1 _ (List.mem_cons_of_mem _ List.mem_cons_self)
  · exact (ts_nw_ok (c := 11) (i := 23) (by decide +kernel)).1 _ (List.mem_cons_of_mem _ List.mem_cons_self)
  · exact (ts_nw_ok (c := 11) (i := 46) (by decide +kernel)).1 _ (List.mem_cons_of_mem _ List.mem_cons_self)
  · exact (ts_nw_ok (c := 13) (i := 7) (by decide +kernel)).1 _ (List.mem_cons_of_mem _ List.mem_cons_self)
  · exact (ts_nw_ok (c := 13) (i := 10) (by decide +kernel)).1 _ (List.mem_cons_of_mem _ List.mem_cons_self)
theorem ts_arr {s : State} {args : Array Value} {ty : FieldType} (h : (Jvm.Cond.arrayClass ty).before args s = true) (hty : ty = .int ∨ ty = .long) : ∃ cA : ClassId, ArrOfT s cA ty ∧ va_RA s cA ty := by
  obtain ⟨cA, kA, comp, h1, h2, h3⟩ := Cond.arrayClass_spec h
  exact ⟨cA, fun n z => ⟨fun k h => (by cases h), kA, h2, comp, h3⟩, by rcases hty with rfl | rfl <;> exact h1⟩
def ts_ad (b t1 t2 t3 t4 t5 : Nat) : Nat → Nat := fun k => if k = 1000 then b else if k = 1001 then t1 else if k = 1002 then t2 else if k = 1003 then t3 else if k = 1004 then t4 else t5
set_option maxRecDepth 100000 in
set_option maxHeartbeats 4000000 in
theorem ts_Z_start {s : State} {b L : Nat} {xs : Nat → Int32} (hts : ∀ w ∈ lw_tbl, w.before #[Value.ref b] s = true) (hX : va_X b L xs s s.heap) (hbl : b < s.heap.size) (hgv : (Jvm.Cond.and given_1 narrow_1).before #[Value.ref b] s = true) : ∃ ad : Nat → Nat, ad 1000 = b ∧ ts_Z s.heap.size (L, xs) ad s s.heap := by
  have hs := flat_of_before _ hgv
  have hA : ∀ a : Nat, a < s.heap.size → ¬ ts_A s.heap.size a := fun a h => Nat.not_le.mpr h
  have hin : ∀ w ∈ tables_1, w.before #[Value.ref b] s = true := fun w h => hts w (List.mem_append_right _ h)
  obtain ⟨t1, e1, T1⟩ := va_Tof (tm := .static "ThreshedSound" "GREATEST" "[I") (ty := .int) (N := 8) (f := fun j => .int ((ts_ca 1001).getD j 0)) (A := ts_A s.heap.size) (by decide) (hs _ (by decide +kernel)) (va_eqt (hs _ (by decide +kernel))) (fun j hj => va_eqt (hs _ ((by decide +kernel : ∀ j, j < 8 → Jvm.Cond.eq (.elem (.static "ThreshedSound" "GREATEST" "[I") (.int (Int32.ofNat j))) (.int ((ts_ca 1001).getD j 0)) ∈ flatC (Jvm.Cond.and given_1 narrow_1)) j hj))) hA
  obtain ⟨t2, e2, T2⟩ := va_Tof (tm := .static "ThreshedSound$Flails" "ABOVE" "[I") (ty := .int) (N := 8) (f := fun j => .int ((ts_ca 1002).getD j 0)) (A := ts_A s.heap.size) (by decide) (hs _ (by decide +kernel)) (va_eqt (hs _ (by decide +kernel))) (fun j hj => va_eqt (hs _ ((by decide +kernel : ∀ j, j < 8 → Jvm.Cond.eq (.elem (.static "ThreshedSound$Flails" "ABOVE" "[I") (.int (Int32.ofNat j))) (.int ((ts_ca 1002).getD j 0)) ∈ flatC (Jvm.Cond.and given_1 narrow_1)) j hj))) hA
  obtain ⟨t3, e3, T3⟩ := va_Tof (tm := .static "ThreshedSound$Flails" "BODY_OF" "[I") (ty := .int) (N := 32) (f := fun j => .int ((ts_ca 1003).getD j 0)) (A := ts_A s.heap.size) (by decide) (hs _ (by decide +kernel)) (va_eqt (hs _ (by decide +kernel))) (fun j hj => va_eqt (hs _ ((by decide +kernel : ∀ j, j < 32 → Jvm.Cond.eq (.elem (.static "ThreshedSound$Flails" "BODY_OF" "[I") (.int (Int32.ofNat j))) (.int ((ts_ca 1003).getD j 0)) ∈ flatC (Jvm.Cond.and given_1 narrow_1)) j hj))) hA
  have Z1 := va_Zof (A := ts_A s.heap.size) (hin (.laysStatic "ThreshedSound" "GREATEST" "[I") (List.mem_of_getElem? (i := 451) (by decide +kernel))) (hin (.initialized "ThreshedSound") (List.mem_of_getElem? (i := 1) (by decide +kernel))) e1 hA
  have Z2 := va_Zof (A := ts_A s.heap.size) (hin (.laysStatic "ThreshedSound$Flails" "ABOVE" "[I") (List.mem_of_getElem? (i := 976) (by decide +kernel))) (hin (.initialized "ThreshedSound$Flails") (List.mem_of_getElem? (i := 11) (by decide +kernel))) e2 hA
  have Z3 := va_Zof (A := ts_A s.heap.size) (hin (.laysStatic "ThreshedSound$Flails" "BODY_OF" "[I") (List.mem_of_getElem? (i := 974) (by decide +kernel))) (hin (.initialized "ThreshedSound$Flails") (List.mem_of_getElem? (i := 11) (by decide +kernel))) e3 hA
  have Z4 := va_Zof (A := ts_A s.heap.size) (hin (.laysStatic "java/lang/String" "COMPACT_STRINGS" "Z") (List.mem_of_getElem? (i := 537) (by decide +kernel))) (hin (.initialized "java/lang/String") (List.mem_of_getElem? (i := 15) (by decide +kernel))) (va_eqi (z := 1) (hs _ (by decide +kernel))) hA
  obtain ⟨adK, adV, hSt, hev⟩ := vk_Sof (args := #[Value.ref b]) (s := s) (N := 1) (tm := fun _ => .string "ThreshedSound$LawReader" 68) (len := [6]) (byt := [ts_tx]) (A := ts_A s.heap.size) (fun i hi => by (obtain rfl : i = 0 := by omega); decide) (fun i hi => hs _ (by decide +kernel)) (fun i hi => hs _ (by decide +kernel)) (fun i hi => hs _ (by decide +kernel)) (fun i hi => by
      obtain rfl : i = 0 := by omega
      exact hs _ (by decide +kernel)) (fun i hi j hj => by
      obtain rfl : i = 0 := by omega
      exact hs _ ((by decide +kernel : ∀ j, j < 6 → Jvm.Cond.eq (.elem (.field (.string "ThreshedSound$LawReader" 68) "java/lang/String" "value" "[B") (.int (Int32.ofNat j))) (.int (ts_tx.getD j 0)) ∈ flatC (Jvm.Cond.and given_1 narrow_1)) j hj)) (fun i j hi hj hne => absurd (by omega : i = j) hne) hA
  have hR : vk_R "ThreshedSound$LawReader" 68 "tcrmab" (adK 0) s := vk_R.of (hin (.stringRef "ThreshedSound$LawReader" 68 "tcrmab") (List.mem_of_getElem? (i := 523) (by decide +kernel))) (hev 0 (by decide))
  have hSt' : vk_S 1 [6] [ts_tx] (fun _ => adK 0) (fun _ => adV 0) (ts_A s.heap.size) s s.heap := by
    refine ⟨fun i hi => ?_, fun i j hi hj _ => by omega⟩
    obtain rfl : i = 0 := by omega
    exact hSt.1 0 (by decide)
  refine ⟨ts_ad b t1 t2 t3 (adK 0) (adV 0), rfl, ⟨hX, hbl⟩, ⟨Z1, T1⟩, ⟨Z2, T2⟩, ⟨Z3, T3⟩, Z4, ⟨hR, hSt'⟩, fun w hw => ?_, va_AO.of (hin (.arrayOver (.object "ThreshedSound$Shelf")) (List.mem_of_getElem? (i := 319) (by decide +kernel))), ts_AOA_moved (Vm.Alike.refl s.vm) (hin (.arrayOver (.array .int)) (List.mem_of_getElem? (i := 38) (by decide +kernel)))⟩
  have h1 := hin w (ts_nest_in w hw)
  obtain ⟨a, i, x, y, rfl⟩ := ts_nest_form w hw
  exact va_Nw.of rfl h1
theorem whole_start {p : Program} {e : Env} {s : State} {m : MethodId} {below : List Frame} {meth : Method} {c : Code} (l : Launch) (hflags : l.flags = flags0) {b L : Nat} {xs : Nat → Int32} (hL : L ≤ 3072) (C0 : lw_At p s m meth c b L xs) : W p l e room_1 s m #[Value.ref b] below meth c s.heap [] 0 0 (lw_Z below #[Value.ref b] s) (entryFrame m ([Value.ref b] : List Value).toArray 4) := by
  obtain ⟨hx, hb, hr, hml, hown, hts, hX, hbl, hlocks, hgv⟩ := id C0
  obtain ⟨ad, had, hZ⟩ := ts_Z_start hts hX hbl hgv
  have hgw : ∀ w ∈ ts_gw, w.before #[Value.ref b] s = true := fun w hw => hts w (List.mem_filter.mp hw).1
  have hkn : ∀ k : Nat, ∃ q : ClassId × (Nat → Nat), k < 13 → u_Kn s (ts_cn.getD k "") (ts_Tf k) (ts_nf k) q.1 q.2 := by
    intro k
    by_cases hk : k < 13
    · obtain ⟨cC, iS, hq⟩ := u_known (C := ts_cn.getD k "") (T := ts_Tf k) (N := ts_nf k) (n := ts_nf k) hgw (ts_cl_ws hk) (hgw _ (ts_inst hk))
      exact ⟨(cC, iS), fun _ => hq⟩
    · exact ⟨(0, fun _ => 0), fun q => absurd q hk⟩
  obtain ⟨f, hf⟩ := Classical.skolem.mp hkn
  obtain ⟨cI, hcI⟩ := ts_arr (hgw _ (ts_misc (.arrayClass .int) List.mem_cons_self)) (Or.inl rfl)
  obtain ⟨cJ, hcJ⟩ := ts_arr (hgw _ (ts_misc (.arrayClass .long) (List.mem_cons_of_mem _ List.mem_cons_self))) (Or.inr rfl)
  have hK : va_K (fun k => (f k).1, fun k => (f k).2) ts_cl (ts_tys (fun k => if k = 0 then cI else cJ) ts_h00.2.2.2) s := by
    refine ⟨fun k q hq => ?_, fun k q hq => ?_⟩
    · have hk : k < 13 := (List.getElem?_eq_some_iff.mp hq).1
      have e1 := ts_cl_get hk
      rw [e1] at hq
      cases hq
      exact hf k hk
    · match k, hq with
      | 0, hq => cases hq; exact hcI
      | 1, hq => cases hq; exact hcJ
      | k + 2, hq => cases hq
  have hP : va_P (fun k => (f k).1, fun k => (f k).2) ts_cl (ts_W (fun k => if k = 0 then cI else cJ) ad ts_h00) s.heap := fun k q h => by cases h
  have hD : va_D (ts_A s.heap.size) (ts_W (fun k => if k = 0 then cI else cJ) ad ts_h00) := ⟨(fun i j p q h => by cases h), (fun k q h => by cases h)⟩
  have hbt : ts_bt 238 = code := rfl
  have hml4 : ts_ml 238 = 4 := by decide +kernel
  have hl := lv_entry ([.ref b]) (n := 4) (Nat.le_of_ble_eq_true rfl)
  rw [lg_entry_eq]
  generalize (lg_sl ([.ref b]) ++ List.replicate (4 - (lg_sl ([.ref b])).length) Slot.unset).toArray = ls at hl ⊢
  have hl' : ts_lok ls (ts_ml 238) ad (ts_ent (ts_ml 238) [.ref 1000]) := by
    rw [hml4]
    refine ts_lok_entry (by decide) ?_
    show lv_has ls 4 (lv_args 0 [.ref (ad 1000)])
    rw [had]
    exact hl
  have Fx : ts_Fx p room_1 s m #[Value.ref b] meth c s.heap.size (L, xs) ad 238 400 := ⟨hx, hb.trans hbt.symm, hml.trans hml4.symm, by rw [show ts_own 238 = R_law by decide +kernel]; exact hown, hgw, Nat.le_refl _, hZ, fun q => absurd q (by decide +kernel), by decide, by decide, by decide +kernel, by decide +kernel⟩
  have Hr : ts_Hr p l e room_1 s m #[Value.ref b] below meth c (lw_Z below #[Value.ref b] s) (fun k => (f k).1, fun k => (f k).2) s.heap.size 238 ts_h00.2.2.2 (fun k => if k = 0 then cI else cJ) ad (fun r _ => r = some (.int 1)) := by
    intro i r pc h cA ad' H locs ls' hdec hisr hret hk hK1 hP1 hD1 hS1 hg
    subst hk
    rcases hisr with ⟨rfl, v, hv⟩ | ⟨rfl, v, hv⟩ | ⟨rfl, v, hv⟩ | ⟨rfl, hv⟩
    · obtain ⟨g1, g2, g3, g4, g5, g6⟩ := hg
      have hmk : ts_mk 238 = (96, 3515) := by decide +kernel
      rw [hmk] at g5 g6
      have h5 : h.2.2.2.length ≤ 0 + 96 := g5
      have h6 : ts_sz h.2.2.2 ≤ 0 + 3515 := g6
      refine va_forget (fun q hq => hS1.2.2 q hq) ?_
      refine W.widen (k := 600000) (n := 7302250) (by omega) (by omega) ?_
      rw [hbt] at hdec
      exact lw_ret hx hb hr hlocks hdec
    · cases hv
    · cases hv
    · cases hv
  have hfin := ts_Ev_sound (e := e) (l := l) Fx (ts_snd l _ _ _ 400) Hr (ts_law (L, xs) hL) (fun k => if k = 0 then cI else cJ) ad s.heap [] ls hK hP hD va_S.rf hl' ⟨fun _ _ => rfl, fun _ => ⟨rfl, rfl⟩, Nat.le_refl _, Nat.le_refl _, Nat.le_add_right _ _, Nat.le_add_right _ _⟩
  rw [Nat.sub_self, Nat.sub_self] at hfin
  exact hfin
set_option maxHeartbeats 4000000 in
theorem lw_walk (l : Launch) (hflags : l.flags = flags0) (b : Addr) (xs : List Int32) : MetFree l x (headSpec (Jvm.Cond.code x code maxLocals ret :: tables_1) room_1) (lw_P b xs) (fun _ _ _ _ _ => True) lw_Q := by
  refine MetFree.of_bodyS (code := code) (maxLocals := maxLocals) (ret := ret) (by decide) ?_ ?_
  · intro args s m h hn
    obtain ⟨meth, c, h1, h2, h3, h4, h5, h6, -, -⟩ := Cond.code_spec hn (atoms_spec (ws := Jvm.Cond.code x code maxLocals ret :: tables_1) h _ List.mem_cons_self)
    exact ⟨meth, c, h1, h2, h3, h4, h5, h6⟩
  · intro p e s m args below meth c s₁ B hml0 hP _
    obtain ⟨rfl, hx, hbd, hgv⟩ := hP
    obtain ⟨scr, harrAt, hlist, hof, hsmall⟩ := hx
    obtain ⟨hcb, hkn, -, -⟩ := State.arrayAt?_spec harrAt
    have hown : s.vm.findClass R_law = some m.cls := findClass_of_methodNamed B.named
    have hts0 : ∀ c ∈ (Jvm.Cond.code x code maxLocals ret :: tables_1), c.before #[Value.ref b] s = true := atoms_spec (ws := Jvm.Cond.code x code maxLocals ret :: tables_1) B.pre
    have hts : ∀ w ∈ lw_tbl, w.before #[Value.ref b] s = true := k2_hts_sels lw_privs (fun w hw => hts0 w (List.mem_cons_of_mem _ hw)) lw_privs_ok
    have hml : c.maxLocals = 4 := B.maxLocals_eq (hts0 _ List.mem_cons_self)
    have X₀ : Stand p l e room_1 s m #[Value.ref b] below meth c s₁ [] 0 0 := Stand.of_body B
    have hh0 : s₁.heap = s.heap := by rw [B.state]; rfl
    have hsz : scr.slots.size = xs.length := by rw [← Array.length_toList, hlist, List.length_map]
    have hval : ∀ j : Nat, j < xs.length → scr.slots[j]? = some (.int (xs.getD j 0)) := fun j hj => by
      rw [← Array.getElem?_toList, hlist]
      simp [hj]
    have hbl : b < s.heap.size := (Array.getElem?_eq_some_iff.mp hcb).1
    have hX : va_X b xs.length (fun j => xs.getD j 0) s s.heap := ⟨scr, hcb, hof, hkn, hsz, hval⟩
    have K : W p l e room_1 s m #[Value.ref b] below meth c s₁.heap [] 0 0 (lw_Z below #[Value.ref b] s) (entryFrame m ([Value.ref b] : List Value).toArray 4) := by
      rw [hh0]
      exact whole_start l hflags hbd ⟨B.exec, B.bytes, B.returns, hml, hown, hts, hX, hbl, B.notSynchronized, hgv⟩
    obtain ⟨t, a1, o, b1, b2, b3⟩ := K s₁ rfl X₀
    exact ⟨t, o, a1, b1, b2, b3⟩
theorem lw_pre_spec {args : Array Value} {s : State} (h : (Jvm.Cond.and given_1 narrow_1).before args s = true) (hr : rest_1_c.before args s = true) : ∃ (b : Addr) (xs : List Int32), lw_P b xs args s := by
  have hs := flat_of_before _ h
  have hq := flat_of_before _ hr
  have hc : (Cond.count 1).before args s = true := hs _ (by decide +kernel)
  have harr : (Cond.arrayOf (.arg 0) .int).before args s = true := hs _ (by decide +kernel)
  have hle : (Cond.le (.length (.arg 0)) (.int 3072)).before args s = true := hs _ (by decide +kernel)
  have hlen : (Cond.isInt (.length (.arg 0))).before args s = true := hq _ (by decide +kernel)
  have hall : (Cond.all (.arg 0) (.isInt (.elem (.arg 0) (.index 0)))).before args s = true := hq _ (by decide +kernel)
  obtain ⟨b, xs, hb, hx⟩ := State.ints_of_pre rfl harr hlen hall
  have hsm : xs.length < 2 ^ 31 := hx.choose_spec.2.2.2
  have hev : (Term.length (.arg 0)).eval args s none [] s = some (.int xs.length.toInt32) := hx.length_eval hb
  have hv := Cond.le_ints hev (show (Term.int 3072).eval args s none [] s = some (.int 3072) from rfl)
  have hd : xs.length.toInt32 ≤ 3072 := by
    simpa [Cond.before, Cond.holds, hv] using hle
  have hN : xs.length ≤ 3072 := (Int32.ofNat_le_ofNat hsm (by decide)).mp (show Int32.ofNat xs.length ≤ Int32.ofNat 3072 from hd)
  exact ⟨b, xs, Cond.one_arg hc (show args[0]? = some (.ref b) from hb), hx, hN, h⟩
theorem lw_comes (l : Launch) (hflags : l.flags = flags0) : Comes l x (Jvm.Cond.code x code maxLocals ret :: tables_1) room_1 (fun tb e args s => Calls_1 tb e args s ∧ rest_1 tb e args s ∧ Pre_1 tb e args s)
    (fun _ _ args s o t => lw_Q args s o t) := by
  intro p e ha hc hk s m args below hf hfit hheap happ hpre
  obtain ⟨b, xs, hP⟩ := lw_pre_spec hpre.2.2 hpre.2.1
  obtain ⟨k, o, h1, h2, h3, hQ⟩ := lw_walk l hflags b xs p e ha hc hk s m args below hf ((Spec.applies_iff_loose hf).mp happ).1 hP trivial
  exact ⟨k, o, h1, h2, h3, hQ⟩
theorem lw_frame {s t : State} {o : Outcome} {args : Array Value} (h : Framed s o t [] 600000 7302250) :
    Framed s o t (fieldLocs frame_1_writes args s ++ arrayLocs frame_1_arrays args s ++ staticLocs frame_1_statics s) 600000 7302250 := h
theorem lw_limb (L : Cond) (hL : ∀ (args : Array Value) (s t : State), L.after args s (.returned (some (.int 1))) t = true) :
    ArmFor flags0 classFile x code maxLocals ret World_1 tables_1 room_1 Calls_1 rest_1 Pre_1
      (fun tb e a s o t => postC L tb e a s o t ∧ Framed s o t (fieldLocs frame_1_writes a s ++ arrayLocs frame_1_arrays a s ++ staticLocs frame_1_statics s) 600000 7302250) := by
  intro l hflags _ _ p e ha hc hk s m args below hf hfit hheap happ hpre
  obtain ⟨k, o, h1, h2, h3, rfl, hF⟩ := lw_comes l hflags p e ha hc hk s m args below hf hfit hheap happ hpre
  exact ⟨k, _, h1, h2, h3, hL args s _, lw_frame hF⟩
theorem i_vc : Claimed_1_1 ∧ Claimed_1_2 := ⟨lw_limb limb_1_1 (fun args s t => by simp [limb_1_1, Cond.after, Cond.holds, Cond.value]), lw_limb limb_1_2 (fun args s t => Cond.after_iff.mpr (by
  first | (rw [show limb_1_2 = Cond.eq .result (.int 1) from rfl, Cond.eq_ints (x := 1) (y := 1) rfl rfl]; simp; done) | (simp [limb_1_2, Cond.value, Term.eval]; done)))⟩
