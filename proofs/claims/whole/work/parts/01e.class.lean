/-! the classes of objects: their words, names, types -/
theorem ts_ci13 {ci : Nat} (h : ci < 13) : ci = 0 ∨ ci = 1 ∨ ci = 2 ∨ ci = 3 ∨ ci = 4 ∨ ci = 5 ∨ ci = 6 ∨ ci = 7 ∨ ci = 8 ∨ ci = 9 ∨ ci = 10 ∨ ci = 11 ∨ ci = 12 := by omega
theorem ts_cl_get {ci : Nat} (h : ci < 13) : ts_cl[ci]? = some (ts_cn.getD ci "", ts_Tf ci, ts_nf ci) := by
  rcases ts_ci13 h with rfl | rfl | rfl | rfl | rfl | rfl | rfl | rfl | rfl | rfl | rfl | rfl | rfl <;> rfl
theorem ts_cl_ws {ci : Nat} (h : ci < 13) : ∀ w ∈ u_ws (ts_cn.getD ci "") (ts_Tf ci) (ts_nf ci), w ∈ ts_gw := fun w hw => ts_clw_in w (List.mem_flatMap.mpr ⟨_, List.mem_of_getElem? (ts_cl_get h), hw⟩)
def ts_tyf (ci : Nat) : Nat → FieldType := match ci with
  | 0 => ts_ty0
  | 1 => ts_ty1
  | 2 => ts_ty2
  | 3 => ts_ty3
  | 4 => ts_ty4
  | 5 => ts_ty5
  | 6 => ts_ty6
  | 7 => ts_ty7
  | 8 => ts_ty8
  | 9 => ts_ty9
  | 10 => ts_ty10
  | 11 => ts_ty11
  | _ => ts_ty12
theorem ts_ty_ok {ci : Nat} (h : ci < 13) : ∀ k, k < ts_nf ci → parseFieldDescriptor (ts_Tf ci k).2.2.1 = some (ts_tyf ci k) := by
  rcases ts_ci13 h with rfl | rfl | rfl | rfl | rfl | rfl | rfl | rfl | rfl | rfl | rfl | rfl | rfl
  · exact ts_tyok0
  · exact ts_tyok1
  · exact ts_tyok2
  · exact ts_tyok3
  · exact ts_tyok4
  · exact ts_tyok5
  · exact ts_tyok6
  · exact ts_tyok7
  · exact ts_tyok8
  · exact ts_tyok9
  · exact ts_tyok10
  · exact ts_tyok11
  · exact ts_tyok12
theorem ts_nm_ok {ci : Nat} (h : ci < 13) : ∀ a, a < ts_nf ci → ∀ b, b < ts_nf ci → a ≠ b → (ts_Tf ci a).2.1 ≠ (ts_Tf ci b).2.1 := by
  rcases ts_ci13 h with rfl | rfl | rfl | rfl | rfl | rfl | rfl | rfl | rfl | rfl | rfl | rfl | rfl
  · exact ts_nm0
  · exact ts_nm1
  · exact ts_nm2
  · exact ts_nm3
  · exact ts_nm4
  · exact ts_nm5
  · exact ts_nm6
  · exact ts_nm7
  · exact ts_nm8
  · exact ts_nm9
  · exact ts_nm10
  · exact ts_nm11
  · exact ts_nm12
def ts_fdok (ci j : Nat) : Bool := (match (ts_fk.getD ci []).getD j 9 with
  | 0 => decide (ts_tyf ci j = .int)
  | 1 => decide (ts_tyf ci j = .boolean)
  | 2 => (match ts_tyf ci j with
    | .object _ => true
    | .array _ => true
    | _ => false)
  | _ => false) && decide ((ts_ff.getD ci []).getD j true = (ts_Tf ci j).2.2.2) && decide ((ts_ff.getD ci []).getD j false = (ts_Tf ci j).2.2.2) && decide ((ts_Tf ci j).1 = ts_cn.getD ci "")
theorem ts_fd_all : (List.range 13).all (fun ci => (List.range (ts_nf ci)).all (ts_fdok ci)) = true := by decide +kernel
theorem ts_fd_ok {ci j : Nat} (h : ci < 13) (hj : j < ts_nf ci) : ts_fdok ci j = true := List.all_eq_true.mp (List.all_eq_true.mp ts_fd_all ci (List.mem_range.mpr h)) j (List.mem_range.mpr hj)
theorem ts_fd_int {ci j : Nat} (h : ci < 13) (hj : j < ts_nf ci) (hk : (ts_fk.getD ci []).getD j 9 = 0) : parseFieldDescriptor (ts_Tf ci j).2.2.1 = some .int := by
  have h1 := ts_fd_ok h hj
  unfold ts_fdok at h1
  simp only [hk, Bool.and_eq_true, decide_eq_true_eq] at h1
  rw [ts_ty_ok h j hj, h1.1.1.1]
theorem ts_fd_bool {ci j : Nat} (h : ci < 13) (hj : j < ts_nf ci) (hk : (ts_fk.getD ci []).getD j 9 = 1) : parseFieldDescriptor (ts_Tf ci j).2.2.1 = some .boolean := by
  have h1 := ts_fd_ok h hj
  unfold ts_fdok at h1
  simp only [hk, Bool.and_eq_true, decide_eq_true_eq] at h1
  rw [ts_ty_ok h j hj, h1.1.1.1]
theorem ts_fd_ref {ci j : Nat} (h : ci < 13) (hj : j < ts_nf ci) (hk : (ts_fk.getD ci []).getD j 9 = 2) (a : Nat) : ∃ ty, parseFieldDescriptor (ts_Tf ci j).2.2.1 = some ty ∧ narrow ty (.ref a) = .ref a ∧ fits ty (.ref a) = true ∧ defaultValue ty = .null := by
  have h1 := ts_fd_ok h hj
  unfold ts_fdok at h1
  simp only [hk, Bool.and_eq_true, decide_eq_true_eq] at h1
  refine ⟨ts_tyf ci j, ts_ty_ok h j hj, ?_⟩
  have h2 := h1.1.1.1
  split at h2
  · rename_i x hx; rw [hx]; exact ⟨rfl, rfl, rfl⟩
  · rename_i x hx; rw [hx]; exact ⟨rfl, rfl, rfl⟩
  · cases h2
theorem ts_fd_fin {ci j : Nat} (h : ci < 13) (hj : j < ts_nf ci) : (ts_ff.getD ci []).getD j true = (ts_Tf ci j).2.2.2 ∧ (ts_ff.getD ci []).getD j false = (ts_Tf ci j).2.2.2 ∧ (ts_Tf ci j).1 = ts_cn.getD ci "" := by
  have h1 := ts_fd_ok h hj
  unfold ts_fdok at h1
  simp only [Bool.and_eq_true, decide_eq_true_eq] at h1
  exact ⟨h1.1.1.2, h1.1.2, h1.2⟩
theorem ts_fd_def {ci j : Nat} (h : ci < 13) (hj : j < ts_nf ci) : defaultValue (ts_tyf ci j) = if (ts_fk.getD ci []).getD j 9 = 2 then .null else .int 0 := by
  have h1 := ts_fd_ok h hj
  unfold ts_fdok at h1
  simp only [Bool.and_eq_true, decide_eq_true_eq] at h1
  have h2 := h1.1.1.1
  split at h2
  · rename_i hk; rw [of_decide_eq_true h2, hk]; rfl
  · rename_i hk; rw [of_decide_eq_true h2, hk]; rfl
  · rename_i hk
    rw [hk, if_pos rfl]
    split at h2
    · rename_i x hx; rw [hx]; rfl
    · rename_i x hx; rw [hx]; rfl
    · cases h2
  · cases h2
