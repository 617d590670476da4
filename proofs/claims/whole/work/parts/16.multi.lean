def va_AOA (ty : FieldType) (U : State) : Prop := (Jvm.Cond.arrayOver (.array ty)).before #[] U = true
theorem va_AOA.use {ty : FieldType} {A : Array Value} {U : State} (h : va_AOA ty U) : (Jvm.Cond.arrayOver (.array ty)).before A U = true := h
/-! ===== BEGIN new T[n][m]: the outer array a place, the inner ones among the pooled ===== -/
/-- f, but v at every address of l -/
def vr_up {α : Type} (f : Nat → α) (l : List Nat) (v : α) : Nat → α := fun a => if a ∈ l then v else f a
theorem vr_up_in {α : Type} {f : Nat → α} {l : List Nat} {v : α} {a : Nat} (h : a ∈ l) : vr_up f l v a = v := if_pos h
theorem vr_up_ne {α : Type} {f : Nat → α} {l : List Nat} {v : α} {a : Nat} (h : a ∉ l) : vr_up f l v a = f a := if_neg h
theorem vr_rows {L l : List Nat} {f : Nat → va_E} {e : va_E} (h : ∀ a, a ∈ l → a ∉ L) : va_pl L f ++ l.map (fun a => (a, e)) = va_pl (L ++ l) (vr_up f l e) := by
  unfold va_pl
  rw [List.map_append]
  congr 1
  · apply List.map_congr_left
    intro a ha
    rw [vr_up_ne (fun q => h a q ha)]
  · apply List.map_congr_left
    intro a ha
    rw [vr_up_in ha]
theorem vr_lay {X rows : va_W} {x : Nat × va_E} {pl : va_W} {D : va_G} {cl : List vw_C} {H : Heap} (hP : va_P D cl (((X ++ pl) ++ [x]) ++ rows) H) : va_P D cl ((X ++ [x]) ++ (pl ++ rows)) H := by
  rw [List.append_assoc (X ++ pl)] at hP
  have h := va_P.swap hP
  rw [← List.append_assoc X] at h
  have h2 := va_P.swap h
  rw [List.append_assoc (X ++ [x])] at h2
  exact h2
theorem vr_layD {X rows : va_W} {x : Nat × va_E} {pl : va_W} {A : Nat → Prop} (hD : va_D A (((X ++ pl) ++ [x]) ++ rows)) : va_D A ((X ++ [x]) ++ (pl ++ rows)) := by
  rw [List.append_assoc (X ++ pl)] at hD
  have h := va_D.swap hD
  rw [← List.append_assoc X] at h
  have h2 := va_D.swap h
  rw [List.append_assoc (X ++ [x])] at h2
  exact h2
theorem vr_outer (c : ClassId) (N h0 : Nat) : ∀ i : Nat, Jvm.Free.Multi.outerC c N h0 i = arrV c N (fun j => va_rf (if j < i then some (h0 + 1 + j) else none))
  | 0 => by
    show ({ cls := c, slots := Array.replicate N .null, vm := .none } : Cell) = _
    rw [arrV_new]
    refine congrArg (arrV c N) (funext fun j => ?_)
    simp [va_rf]
  | i + 1 => by
    show (Jvm.Free.Multi.outerC c N h0 i).setSlot i (.ref (h0 + 1 + i)) = _
    rw [vr_outer c N h0 i, arrV_store]
    refine congrArg (arrV c N) (funext fun j => ?_)
    by_cases e : j = i
    · subst e
      simp [updV, va_rf]
    · by_cases h : j < i
      · simp [updV, e, h, Nat.lt_succ_of_lt h]
      · simp [updV, e, h, show ¬ j < i + 1 by omega]
section VGM
variable {p : Program} {l : Launch} {e : Env} {R : Room} {s : State} {m : MethodId} {args : Array Value} {below : List Frame} {meth : Method} {c : Code} {H : Heap} {locs : List Loc} {cells slots : Nat} {Q : State → Prop}
variable {cc : ByteArray} {pc : Nat} {ls : Array Slot} {rest : List Value} {D : va_G} {cl : List vw_C} {A : Nat → Prop} {a : Nat} {tys : List (ClassId × FieldType)} {ws : va_W} {H0 : Heap}
theorem va_mna {X : va_W} {L : List Nat} {f : Nat → va_E} {cc : ByteArray} (hexec : p.tables.exec = Jvm.exec) (hb : c.code = cc) {own : String} {index : Nat} {ty : FieldType} {cy : ClassId} (hown : s.vm.findClass own = some m.cls) (hclink : (Cond.classLink own index ("[" ++ (FieldType.array ty).toString)).before args s = true) (hover : va_AOA ty s) (harr : (Cond.arrayClass ty).before args s = true) (hcy : s.vm.findClass (FieldType.array ty).toString = some cy)
    (hK : va_K D cl tys s) (hP : va_P D cl (X ++ va_pl L f) H) (hD : va_D A (X ++ va_pl L f)) (hS : va_S A H0 H locs) (hA : ∀ q, H0.size ≤ q → A q) {n k : Int32} {N' K' : Nat} {z : vp_A} (hn : ¬ n < 0) (hk : ¬ k < 0) (hN : n.toNatClampNeg = N') (hM : k.toNatClampNeg = K')
    (hb1 : N' * 4 ≤ 536870912) (hb2 : K' * componentBytes ty ≤ 536870912) (hb3 : K' ≤ 536870912) (hdf : fits ty (defaultValue ty) = true) (hdd : (defaultValue ty).isDefault = true) (hcells : cells + (1 + N') ≤ R.cells) (hslots : slots + (N' + N' * K') ≤ R.slots) (hz : ∀ c : ClassId, Jvm.Free.Multi.innerC c K' (defaultValue ty) = vp_cell c z) (hdg : decode cc pc = .ok (.multianewarray index 2, 4))
    (kk : ∀ (q : Nat) (r : Nat → Nat) (cA : ClassId) (H1 : Heap), (∀ i j : Nat, i < N' → j < N' → r i = r j → i = j) → (∀ i : Nat, i < N' → r i ∉ L) → va_K D cl (tys ++ [(cA, .array ty)]) s →
      va_P D cl ((X ++ [(q, .inl (cA, N', .inr (.inr (.inr (.inr (fun i => if i < N' then some (r i) else none))))))]) ++ va_pl (L ++ (List.range N').map r) (vr_up f ((List.range N').map r) (.inl (cy, z)))) H1 → va_D A ((X ++ [(q, .inl (cA, N', .inr (.inr (.inr (.inr (fun i => if i < N' then some (r i) else none))))))]) ++ va_pl (L ++ (List.range N').map r) (vr_up f ((List.range N').map r) (.inl (cy, z)))) → va_S A H0 H1 locs →
      W p l e R s m args below meth c H1 locs (cells + 1 + N') (slots + N' + N' * K') Q (F0 m (pc + 4) ls (.ref q :: rest))) : W p l e R s m args below meth c H locs cells slots Q (F0 m pc ls (.int k :: .int n :: rest)) := by
  subst hN
  subst hM
  intro T hT Xs
  obtain ⟨vm₁, cA, comp, -, fA, fC, hO, -, X', step⟩ := Xs.multianewarray2F hexec hown hclink (va_AOA.use hover) harr (g := F0 m pc ls (.int k :: .int n :: rest)) rfl (by rw [hb]; exact hdg) rfl hn hk hb1 hb2 hb3 hdf hdd hcells hslots
  have ec : some cy = some comp := hcy.symm.trans fC
  cases ec
  generalize hF : Jvm.Free.Multi.fill (T.setVm vm₁) cA cy n.toNatClampNeg k.toNatClampNeg (defaultValue ty) n.toNatClampNeg = F at X' step
  have hTh : (T.setVm vm₁).heap = H := hT
  obtain ⟨f1, f2, -, -⟩ := Jvm.Free.Multi.fill_facts (T.setVm vm₁) cA cy n.toNatClampNeg k.toNatClampNeg (defaultValue ty) n.toNatClampNeg
  rw [hF, hTh] at f1 f2
  have hold : ∀ x : Nat, x < H.size → F.heap[x]? = H[x]? := fun x hx => by
    have := Jvm.Free.Multi.fill_old (T.setVm vm₁) cA cy n.toNatClampNeg k.toNatClampNeg (defaultValue ty) (a := x) (by rw [hTh]; exact hx) n.toNatClampNeg
    rw [hF, hTh] at this
    exact this
  have hrow : ∀ j : Nat, j < n.toNatClampNeg → F.heap[H.size + 1 + j]? = some (vp_cell cy z) := fun j hj => by
    have := Jvm.Free.Multi.fill_inner (T.setVm vm₁) cA cy n.toNatClampNeg k.toNatClampNeg (defaultValue ty) n.toNatClampNeg j hj
    rw [hF, hTh, hz] at this
    exact this
  have hout : Jvm.Free.Multi.outerC cA n.toNatClampNeg H.size n.toNatClampNeg = vp_cell cA (n.toNatClampNeg, .inr (.inr (.inr (.inr (fun i => if i < n.toNatClampNeg then some (H.size + 1 + i) else none))))) := by
    rw [vp_cell_q]
    exact vr_outer cA n.toNatClampNeg H.size n.toNatClampNeg
  rw [hout] at f2
  have hlt : ∀ a, a ∈ L → a < H.size := fun a ha => by
    obtain ⟨k9, hk9⟩ := va_pl_get (X := X) (f := f) ha
    exact (hP k9 _ hk9).lt
  have hnl : ∀ i : Nat, i < n.toNatClampNeg → H.size + 1 + i ∉ L := fun i _ h => by
    have := hlt _ h
    omega
  have hnm : ∀ a, a ∈ (List.range n.toNatClampNeg).map (fun i => H.size + 1 + i) → a ∉ L := fun a ha h => by
    obtain ⟨i, -, rfl⟩ := List.mem_map.mp ha
    have := hlt _ h
    omega
  have hP0 : va_P D cl (X ++ va_pl L f) F.heap := hP.kept (fun k9 x hx => hold x.1 ((hP k9 x hx).lt))
  have hP1 : va_P D cl ((X ++ va_pl L f) ++ [(H.size, .inl (cA, n.toNatClampNeg, .inr (.inr (.inr (.inr (fun i => if i < n.toNatClampNeg then some (H.size + 1 + i) else none))))))]) F.heap := hP0.app (fun k9 x hx => by
    have h0 : k9 < 1 := (List.getElem?_eq_some_iff.mp hx).1
    rw [show k9 = 0 by omega] at hx
    cases hx
    exact f2)
  have hP2 : va_P D cl (((X ++ va_pl L f) ++ [(H.size, .inl (cA, n.toNatClampNeg, .inr (.inr (.inr (.inr (fun i => if i < n.toNatClampNeg then some (H.size + 1 + i) else none))))))]) ++ ((List.range n.toNatClampNeg).map (fun i => H.size + 1 + i)).map (fun a => (a, .inl (cy, z)))) F.heap := hP1.app (fun k9 x hx => by
    obtain ⟨a, ha, rfl⟩ := List.mem_map.mp (List.mem_of_getElem? hx)
    obtain ⟨i, hi, rfl⟩ := List.mem_map.mp ha
    exact hrow i (List.mem_range.mp hi))
  have hD2 : va_D A (((X ++ va_pl L f) ++ [(H.size, .inl (cA, n.toNatClampNeg, .inr (.inr (.inr (.inr (fun i => if i < n.toNatClampNeg then some (H.size + 1 + i) else none))))))]) ++ ((List.range n.toNatClampNeg).map (fun i => H.size + 1 + i)).map (fun a => (a, .inl (cy, z)))) := by
    have hD1 := hD.push (e := .inl (cA, n.toNatClampNeg, .inr (.inr (.inr (.inr (fun i => if i < n.toNatClampNeg then some (H.size + 1 + i) else none)))))) hP rfl (hA _ hS.1)
    generalize hW1 : (X ++ va_pl L f) ++ [(H.size, .inl (cA, n.toNatClampNeg, .inr (.inr (.inr (.inr (fun i => if i < n.toNatClampNeg then some (H.size + 1 + i) else none))))))] = W1 at hD1 hP1 ⊢
    have hle : ∀ (k9 : Nat) (x : Nat × va_E), W1[k9]? = some x → x.1 ≤ H.size := fun k9 x hx => by
      rw [← hW1] at hx
      by_cases hl : k9 < (X ++ va_pl L f).length
      · rw [List.getElem?_append_left hl] at hx
        exact Nat.le_of_lt ((hP k9 x hx).lt)
      · rw [List.getElem?_append_right (by omega)] at hx
        have h0 : k9 - (X ++ va_pl L f).length < 1 := (List.getElem?_eq_some_iff.mp hx).1
        rw [show k9 - (X ++ va_pl L f).length = 0 by omega] at hx
        cases hx
        exact Nat.le_refl _
    have hr : ∀ (k9 : Nat) (x : Nat × va_E), (((List.range n.toNatClampNeg).map (fun i => H.size + 1 + i)).map (fun a => ((a, .inl (cy, z)) : Nat × va_E)))[k9]? = some x → x.1 = H.size + 1 + k9 := fun k9 x hx => by
      rw [List.getElem?_map, List.getElem?_map] at hx
      by_cases h9 : k9 < n.toNatClampNeg
      · rw [List.getElem?_range h9] at hx
        cases hx
        rfl
      · have hn0 : (List.range n.toNatClampNeg)[k9]? = none := List.getElem?_eq_none (by rw [List.length_range]; omega)
        rw [hn0] at hx
        cases hx
    refine ⟨fun i j x y hi hj hxy => ?_, fun k9 x hx => ?_⟩
    · by_cases h1 : i < W1.length <;> by_cases h2 : j < W1.length
      · rw [List.getElem?_append_left h1] at hi
        rw [List.getElem?_append_left h2] at hj
        exact hD1.1 i j x y hi hj hxy
      · rw [List.getElem?_append_left h1] at hi
        rw [List.getElem?_append_right (by omega)] at hj
        have := hle _ _ hi
        have := hr _ _ hj
        omega
      · rw [List.getElem?_append_right (by omega)] at hi
        rw [List.getElem?_append_left h2] at hj
        have := hle _ _ hj
        have := hr _ _ hi
        omega
      · rw [List.getElem?_append_right (by omega)] at hi hj
        have := hr _ _ hi
        have := hr _ _ hj
        omega
    · by_cases h1 : k9 < W1.length
      · rw [List.getElem?_append_left h1] at hx
        exact hD1.2 k9 x hx
      · rw [List.getElem?_append_right (by omega)] at hx
        have := hr _ _ hx
        exact hA _ (by have := hS.1; omega)
  have hAr : ArrOfT s cA (.array ty) := fun N9 z9 => by
    obtain ⟨-, k9, hk9, cm9, hkk9⟩ := (hO 0 0 0).1
    exact ⟨(fun q hq => by cases hq), k9, hk9, cm9, hkk9⟩
  have hK2 : va_K D cl (tys ++ [(cA, .array ty)]) s := ⟨hK.1, fun k9 x hx => by
    by_cases hl : k9 < tys.length
    · rw [List.getElem?_append_left hl] at hx
      exact hK.2 k9 x hx
    · rw [List.getElem?_append_right (by omega)] at hx
      have h0 : k9 - tys.length < 1 := (List.getElem?_eq_some_iff.mp hx).1
      rw [show k9 - tys.length = 0 by omega] at hx
      cases hx
      exact ⟨hAr, fA⟩⟩
  obtain ⟨t, a1, b1⟩ := kk H.size (fun i => H.size + 1 + i) cA F.heap (fun i j _ _ h => by have h9 : H.size + 1 + i = H.size + 1 + j := h; omega) hnl hK2 (by rw [← vr_rows hnm]; exact vr_lay hP2) (by rw [← vr_rows hnm]; exact vr_layD hD2) ⟨by rw [f1]; have := hS.1; omega, fun x h1 h2 => (hold x (Nat.lt_of_lt_of_le h1 hS.1)).trans (hS.2.1 x h1 h2), hS.2.2⟩ F rfl X'
  refine ⟨t, step t ?_, b1⟩
  have e : T.heap.size = H.size := by rw [hT]
  rw [e]
  exact a1
end VGM
/-! ===== END ===== -/
section MULTI
variable {p : Program} {l : Launch} {e : Env} {Rm : Room} {s : State} {mi : MethodId} {args : Array Value} {below : List Frame} {meth : Method} {c : Code} {Qf : State → Prop} {D : va_G} {b0 m d : Nat} {E : ts_S} {cA0 : Nat → ClassId} {ad0 : Nat → Nat} {X : ts_X} {C : ts_C} {K : Option Value → ts_H → Prop} {pc nx tg : Nat} {lv st : List Value} {h : ts_H}
def ts_adm (ad : Nat → Nat) (n0 q N : Nat) (r : Nat → Nat) : Nat → Nat := fun k => if k = n0 + 1 then q else if n0 + 2 ≤ k ∧ k < n0 + 2 + N then r (k - (n0 + 2)) else ad k
theorem ts_adm_ag {ad : Nat → Nat} {n0 q N : Nat} {r : Nat → Nat} (hn : n0 + 1 + N < 1000) : ts_ag n0 ad (ts_adm ad n0 q N r) := fun k hk => by
  unfold ts_adm
  rw [if_neg (by omega), if_neg (by omega)]
theorem ts_adm_row {ad : Nat → Nat} {n0 q N j : Nat} {r : Nat → Nat} (hj : j < N) : ts_adm ad n0 q N r (n0 + 2 + j) = r j := by
  unfold ts_adm
  rw [if_neg (by omega), if_pos (by omega), show n0 + 2 + j - (n0 + 2) = j by omega]
theorem sd_multianewarray {k dd : Nat} (Fx : ts_Fx p Rm s mi args meth c b0 X ad0 m d) (hi : ts_ins m pc = some (.multianewarray k dd, nx, tg)) (H0 : ts_Fi X C m E K (ts_Ws p l e Rm s mi args below meth c Qf D b0 m E cA0 ad0) (.multianewarray k dd) nx tg pc lv st h) : ts_Ws p l e Rm s mi args below meth c Qf D b0 m E cA0 ad0 pc lv st h := by
  have hnx : nx = pc + ts_len _ := ts_len1 hi (fun _ _ _ _ q => by cases q) (fun _ _ q => by cases q)
  simp only [ts_len] at hnx
  subst hnx
  simp only [ts_Fi] at H0
  split at H0
  · rename_i y x st1
    obtain ⟨hm3, rfl, rfl, n, z, hx0, hy0, hxn, hyz, hn1, hz1, hR, hno, H0⟩ := H0
    intro cA ad H locs ls hK hP hD hS hl hg
    obtain ⟨hx, hb, hml, hown, hts, hb0, hZ, hnm, hfr, hlo, hce, hsl⟩ := Fx
    have hR' := hR
    obtain ⟨r1, r2, r3, r4, r5, r6, r7⟩ := hR'
    obtain ⟨g1, g2, g3, g4, g5, g6⟩ := hg
    have hcl : (Cond.classLink (ts_own m) 30 ("[" ++ (FieldType.array .int).toString)).before args s = true := by
      unfold ts_own
      rw [hm3]
      exact hts _ (ts_has_gw (p := (1, 37)) (by decide +kernel))
    have hmul : n * z < 10000 := Nat.lt_of_le_of_lt (Nat.mul_le_mul (Nat.le_of_lt_succ (show n < 99 + 1 by omega)) (Nat.le_of_lt_succ (show z < 99 + 1 by omega))) (by decide)
    have hPn : va_P D ts_cl (ts_W cA ad h ++ va_pl [] (fun _ => .inr (0, []))) H := by rw [show va_pl [] (fun _ => (.inr (0, []) : va_E)) = [] from rfl, List.append_nil]; exact hP
    have hDn : va_D (ts_A b0) (ts_W cA ad h ++ va_pl [] (fun _ => .inr (0, []))) := by rw [show va_pl [] (fun _ => (.inr (0, []) : va_E)) = [] from rfl, List.append_nil]; exact hD
    refine va_mna (ty := .int) (cy := cA 0) (z := (z, .inl (fun _ => 0))) hx hb hown hcl hZ.2.2.2.2.2.2.2.2 (hts _ (ts_misc _ List.mem_cons_self)) (hK.2 0 (cA 0, .int) rfl).2 hK hPn hDn hS (fun q hq => Nat.le_trans hb0 hq) hx0 hy0 hxn hyz (by omega) (by show z * 4 ≤ _; omega) (by omega) rfl rfl (by omega) (by omega) (fun c => ?_) (ts_dec hi rfl) (fun q r cA1 H1 hinj hnl hK1 hP1 hD1 hS1 => ?_)
    · exact arrV_new c z (.int 0)
    · have hag := ts_adm_ag (ad := ad) (n0 := h.2.2.2.length) (q := q) (N := n) (r := r) (by omega)
      have hlist : va_pl ([] ++ (List.range n).map r) (vr_up (fun _ => .inr (0, [])) ((List.range n).map r) (.inl (cA 0, z, .inl (fun _ => 0)))) = (List.range n).map (fun i => (r i, (.inl (cA 0, z, .inl (fun _ => 0)) : va_E))) := by
        unfold va_pl
        rw [List.nil_append, List.map_map]
        apply List.map_congr_left
        intro i hi'
        show (r i, _) = (r i, _)
        rw [vr_up_in (List.mem_map.mpr ⟨i, hi', rfl⟩)]
      rw [hlist, List.append_assoc] at hP1 hD1
      have hpg : ∀ j, ts_pg (h.2.2.1 ++ ((List.range n).map (fun q => h.2.2.2.length + 2 + q)) :: List.replicate n []) (h.2.2.2.length + 1) j = if j < n then some (h.2.2.2.length + 2 + j) else none := by
        intro j
        simp only [ts_pg]
        rw [List.getElem?_append_right (by omega), show h.2.2.2.length - h.2.2.1.length = 0 by omega]
        show ((List.range n).map (fun q => h.2.2.2.length + 2 + q))[j]? = _
        rw [List.getElem?_map]
        by_cases hj : j < n
        · rw [List.getElem?_range hj, if_pos hj]; rfl
        · rw [List.getElem?_eq_none (by simp; omega), if_neg hj]; rfl
      have hWe : ts_W cA ad h ++ ([(q, .inl (cA1, n, .inr (.inr (.inr (.inr (fun i => if i < n then some (r i) else none))))))] ++ (List.range n).map (fun i => (r i, (.inl (cA 0, z, .inl (fun _ => 0)) : va_E)))) = ts_W (ts_cAn cA 3 cA1) (ts_adm ad h.2.2.2.length q n r) (ts_rz h.1 0 (h.2.2.2.length + 1) (h.2.2.2.length + 2 + n), ts_rz h.2.1 0 (h.2.2.2.length + 1) (h.2.2.2.length + 2 + n), h.2.2.1 ++ ((List.range n).map (fun q => h.2.2.2.length + 2 + q)) :: List.replicate n [], h.2.2.2 ++ (3, n) :: List.replicate n (0, z)) := by
        refine ts_W_grow (S2 := (3, n) :: List.replicate n (0, z)) rfl (by simp) (fun j k' n' hj => ?_) (fun i k' n' hi' => ?_)
        · cases j with
          | zero =>
            cases hj
            show some (q, _) = some (ts_adm ad h.2.2.2.length q n r (h.2.2.2.length + 1), _)
            rw [show ts_adm ad h.2.2.2.length q n r (h.2.2.2.length + 1) = q from if_pos rfl, ts_ctq (Or.inr rfl)]
            show _ = some (q, Sum.inl (cA1, n, Sum.inr (Sum.inr (Sum.inr (Sum.inr (ts_po (ts_adm ad h.2.2.2.length q n r) (h.2.2.1 ++ ((List.range n).map (fun q => h.2.2.2.length + 2 + q)) :: List.replicate n []) (h.2.2.2.length + 1)))))))
            congr 9
            funext j
            unfold ts_po
            rw [hpg j]
            by_cases hj : j < n
            · simp only [if_pos hj]
              rw [if_neg (by omega), ts_adm_row hj]
            · simp only [if_neg hj]
          | succ j =>
            have hj' : (List.replicate n (0, z))[j]? = some (k', n') := hj
            rw [List.getElem?_replicate] at hj'
            by_cases hjn : j < n
            · rw [if_pos hjn] at hj'
              cases hj'
              show ((List.range n).map (fun i => (r i, (.inl (cA 0, z, .inl (fun _ => 0)) : va_E))))[j]? = _
              rw [List.getElem?_map, List.getElem?_range hjn, ts_ct0, show h.2.2.2.length + (j + 1) + 1 = h.2.2.2.length + 2 + j by omega, ts_adm_row hjn]
              show some (r j, _) = some (r j, Sum.inl (cA 0, z, Sum.inl (ts_rz h.1 0 (h.2.2.2.length + 1) (h.2.2.2.length + 2 + n) (h.2.2.2.length + 2 + j))))
              rw [ts_rz_in (by omega) (by omega)]
            · rw [if_neg hjn] at hj'
              cases hj'
        · have hlt := (List.getElem?_eq_some_iff.mp hi').1
          have hk3 : ¬ k' = 3 := hno _ (List.mem_of_getElem? hi')
          refine ⟨hag _ (Or.inl (by omega)), ts_ct_old (ts_rz_off (by omega)) (ts_rz_off (by omega)) (ts_po_old hag r5 (by omega)) rfl rfl (fun _ => if_neg hk3)⟩
      rw [hWe] at hP1 hD1
      have hfin := ts_grown (S2 := (3, n) :: List.replicate n (0, z)) (cc := 1 + n) (nn := n + n * z) hR (by simp; omega) (by simp [ts_sz, List.sum_replicate_nat]) (by omega) rfl hag ⟨g1, g2, g3, g4, g5, g6⟩ hl r4 H0 (cA' := ts_cAn cA 3 cA1) (by
        show va_K D ts_cl (ts_tys (ts_cAn cA 3 cA1) (h.2.2.2 ++ (3, n) :: List.replicate n (0, z))) s
        rw [ts_tys_app, ts_tys_cA (cA' := ts_cAn cA 3 cA1) (cA := cA) rfl rfl (fun x hx1 => ?_)]
        · refine ts_K_app hK (fun x hx1 => ?_)
          rw [List.map_cons, List.map_replicate] at hx1
          rcases List.mem_cons.mp hx1 with rfl | hx2
          · exact hK1.2 (ts_tys cA h.2.2.2).length _ (by rw [List.getElem?_append_right (Nat.le_refl _), Nat.sub_self]; rfl)
          · rw [List.eq_of_mem_replicate hx2]
            exact hK.2 0 _ rfl
        · have := hno x hx1
          unfold ts_cAn ts_ak
          by_cases h4 : x.1 < 4
          · rw [if_pos h4, if_neg this]
          · rw [if_neg h4, if_neg (by decide)]) hP1 hD1 hS1
      rw [show ts_adm ad h.2.2.2.length q n r (h.2.2.2.length + 1) = q from if_pos rfl] at hfin
      rw [show h.2.2.2.length - E.length + 1 + n = h.2.2.2.length - E.length + (1 + n) by omega, show ts_sz h.2.2.2 - ts_sz E + n + n * z = ts_sz h.2.2.2 - ts_sz E + (n + n * z) by omega]
      exact hfin
  · exact H0.elim
end MULTI
