/-! THE CONSTRUCTORS: from no cells to the world -/
def zz : Nat → Nat → Int32 := fun _ _ => 0
def zzL : Nat → Nat → Int64 := fun _ _ => 0
theorem ts_rz_id {α : Type} {f : Nat → Nat → α} {z : α} {a b : Nat} (h : ∀ x, a ≤ x → x < b → ∀ k, f x k = z) : ts_rz f z a b = f := by
  funext x k
  unfold ts_rz
  by_cases c : a ≤ x ∧ x < b
  · rw [if_pos c]; exact (h x c.1 c.2 k).symm
  · rw [if_neg c]
theorem ts_up_id {α : Type} {f : Nat → Nat → α} {a j : Nat} {v : α} (h : f a j = v) : ts_up f a j v = f := by
  funext x k
  unfold ts_up
  by_cases c : x = a
  · rw [if_pos c]
    by_cases e : k = j
    · rw [if_pos e, c, e]; exact h.symm
    · rw [if_neg e]
  · rw [if_neg c]
def ec_b (m : Nat) (E : ts_S) (lv st : List Value) (P : List (List Nat)) (S : ts_S) (c n : Nat) : Bool := Nat.ble (S.length + c) (E.length + (ts_mk m).1) && (Nat.ble (ts_sz S + n) (ts_sz E + (ts_mk m).2) && (ts_vl S.length lv && (ts_vl S.length st && (ts_vp S.length P && (Nat.beq P.length S.length && Nat.blt (S.length + c) 1000)))))
theorem ec_room {m : Nat} {E : ts_S} {lv st : List Value} {I : Nat → Nat → Int32} {L : Nat → Nat → Int64} {P : List (List Nat)} {S : ts_S} {c n : Nat} (h : ec_b m E lv st P S c n = true) : ts_room m E lv st (I, L, P, S) c n := by
  unfold ec_b at h
  simp only [Bool.and_eq_true] at h
  exact ⟨Nat.le_of_ble_eq_true h.1, Nat.le_of_ble_eq_true h.2.1, h.2.2.1, h.2.2.2.1, h.2.2.2.2.1, Nat.eq_of_beq_eq_true h.2.2.2.2.2.1, Nat.le_of_ble_eq_true h.2.2.2.2.2.2⟩
section EC
variable {X : ts_X} {d m : Nat} {E : ts_S} {Q : Option Value → ts_H → Prop} {pc nx tg : Nat} {lv st : List Value} {I : Nat → Nat → Int32} {L : Nat → Nat → Int64} {P P' : List (List Nat)} {S S' : ts_S}
theorem ec_new {n ci c a : Nat} (hi : ts_ins m pc = some (.new n, nx, tg)) (hg : ts_nw (ts_mc m) n = some ci) (hc : (ts_fk.getD ci []).length = c) (hr : ec_b m E lv st P S 1 c = true) (ha : S.length + 1 = a) (hI : ∀ k, I a k = 0) (hP : P ++ [List.replicate c 0] = P') (hS : S ++ [(10 + ci, c)] = S') (k : ts_Ev X (ts_Cal X d) m E Q nx lv (.ref a :: st) (I, zzL, P', S')) : ts_Ev X (ts_Cal X d) m E Q pc lv st (I, zzL, P, S) := by
  subst hc ha hP hS
  have e1 : ts_rz I 0 (S.length + 1) (S.length + 2) = I := ts_rz_id (fun x h0 h1 k => by rw [show x = S.length + 1 by omega]; exact hI k)
  have e2 : ts_rz zzL 0 (S.length + 1) (S.length + 2) = zzL := ts_rz_id (fun x h0 h1 k => rfl)
  refine ts_go hi ?_
  simp only [ts_Fi, hg]
  refine ⟨_, rfl, ec_room hr, ?_⟩
  rw [e1, e2]
  exact k
theorem ec_arrI {x : Int} {c a : Nat} (hi : ts_ins m pc = some (.newarray .int, nx, tg)) (h0 : 0 ≤ x) (h1 : x.toNat = c) (h2 : c < 1000) (hr : ec_b m E lv st P S 1 c = true) (ha : S.length + 1 = a) (hI : ∀ k, I a k = 0) (hP : P ++ [[]] = P') (hS : S ++ [(0, c)] = S') (k : ts_Ev X (ts_Cal X d) m E Q nx lv (.ref a :: st) (I, zzL, P', S')) : ts_Ev X (ts_Cal X d) m E Q pc lv (.int (zI x) :: st) (I, zzL, P, S) := by
  subst ha hP hS
  have e1 : ts_rz I 0 (S.length + 1) (S.length + 2) = I := ts_rz_id (fun x h0 h1 k => by rw [show x = S.length + 1 by omega]; exact hI k)
  have e2 : ts_rz zzL 0 (S.length + 1) (S.length + 2) = zzL := ts_rz_id (fun x h0 h1 k => rfl)
  refine ts_go hi ?_
  simp only [ts_Fi]
  refine ⟨0, c, by simp, ?_, ?_, h2, ec_room hr, ?_⟩
  · rw [show (0 : Int32) = zI 0 from rfl, zI_lt ⟨⟨by omega, by omega⟩, by decide, by decide⟩]; omega
  · rw [zI_cl ⟨by omega, by omega⟩]; exact h1
  · rw [e1, e2]
    exact k
theorem ec_arrL {x : Int} {c a : Nat} (hi : ts_ins m pc = some (.newarray .long, nx, tg)) (h0 : 0 ≤ x) (h1 : x.toNat = c) (h2 : c < 1000) (hr : ec_b m E lv st P S 1 c = true) (ha : S.length + 1 = a) (hI : ∀ k, I a k = 0) (hP : P ++ [[]] = P') (hS : S ++ [(1, c)] = S') (k : ts_Ev X (ts_Cal X d) m E Q nx lv (.ref a :: st) (I, zzL, P', S')) : ts_Ev X (ts_Cal X d) m E Q pc lv (.int (zI x) :: st) (I, zzL, P, S) := by
  subst ha hP hS
  have e1 : ts_rz I 0 (S.length + 1) (S.length + 2) = I := ts_rz_id (fun x h0 h1 k => by rw [show x = S.length + 1 by omega]; exact hI k)
  have e2 : ts_rz zzL 0 (S.length + 1) (S.length + 2) = zzL := ts_rz_id (fun x h0 h1 k => rfl)
  refine ts_go hi ?_
  simp only [ts_Fi]
  refine ⟨1, c, by simp, ?_, ?_, h2, ec_room hr, ?_⟩
  · rw [show (0 : Int32) = zI 0 from rfl, zI_lt ⟨⟨by omega, by omega⟩, by decide, by decide⟩]; omega
  · rw [zI_cl ⟨by omega, by omega⟩]; exact h1
  · rw [e1, e2]
    exact k
theorem ec_anew {x : Int} {c a : Nat} (hi : ts_ins m pc = some (.anewarray 85, nx, tg)) (hm : ts_mc m = 11) (h0 : 0 ≤ x) (h1 : x.toNat = c) (h2 : c < 1000) (hr : ec_b m E lv st P S 1 c = true) (hn : ∀ q ∈ S, ¬ q.1 = 2) (ha : S.length + 1 = a) (hI : ∀ k, I a k = 0) (hP : P ++ [List.replicate c 0] = P') (hS : S ++ [(2, c)] = S') (k : ts_Ev X (ts_Cal X d) m E Q nx lv (.ref a :: st) (I, zzL, P', S')) : ts_Ev X (ts_Cal X d) m E Q pc lv (.int (zI x) :: st) (I, zzL, P, S) := by
  subst ha hP hS
  have e1 : ts_rz I 0 (S.length + 1) (S.length + 2) = I := ts_rz_id (fun x h0 h1 k => by rw [show x = S.length + 1 by omega]; exact hI k)
  have e2 : ts_rz zzL 0 (S.length + 1) (S.length + 2) = zzL := ts_rz_id (fun x h0 h1 k => rfl)
  refine ts_go hi ?_
  simp only [ts_Fi]
  refine ⟨hm, trivial, c, ?_, ?_, h2, ec_room hr, hn, ?_⟩
  · rw [show (0 : Int32) = zI 0 from rfl, zI_lt ⟨⟨by omega, by omega⟩, by decide, by decide⟩]; omega
  · rw [zI_cl ⟨by omega, by omega⟩]; exact h1
  · rw [e1, e2]
    exact k
theorem ec_multi {x y : Int} {c z a : Nat} (hi : ts_ins m pc = some (.multianewarray 30 2, nx, tg)) (hm : ts_mc m = 3) (h0 : 0 ≤ x ∧ 0 ≤ y) (h1 : x.toNat = c ∧ y.toNat = z) (h2 : c < 100 ∧ z < 100) (hr : ec_b m E lv st P S (1 + c) (c + c * z) = true) (hn : ∀ q ∈ S, ¬ q.1 = 3) (ha : S.length + 1 = a) (hI : ∀ x, a ≤ x → ∀ k, I x k = 0) (hP : P ++ ((List.range c).map (fun q => S.length + 2 + q)) :: List.replicate c [] = P') (hS : S ++ (3, c) :: List.replicate c (0, z) = S') (k : ts_Ev X (ts_Cal X d) m E Q nx lv (.ref a :: st) (I, zzL, P', S')) : ts_Ev X (ts_Cal X d) m E Q pc lv (.int (zI y) :: .int (zI x) :: st) (I, zzL, P, S) := by
  subst ha hP hS
  have e1 : ts_rz I 0 (S.length + 1) (S.length + 2 + c) = I := ts_rz_id (fun x h0 h1 k => hI x h0 k)
  have e2 : ts_rz zzL 0 (S.length + 1) (S.length + 2 + c) = zzL := ts_rz_id (fun x h0 h1 k => rfl)
  refine ts_go hi ?_
  simp only [ts_Fi]
  refine ⟨hm, trivial, trivial, c, z, ?_, ?_, ?_, ?_, h2.1, h2.2, ec_room hr, hn, ?_⟩
  · rw [show (0 : Int32) = zI 0 from rfl, zI_lt ⟨⟨by omega, by omega⟩, by decide, by decide⟩]; omega
  · rw [show (0 : Int32) = zI 0 from rfl, zI_lt ⟨⟨by omega, by omega⟩, by decide, by decide⟩]; omega
  · rw [zI_cl ⟨by omega, by omega⟩]; exact h1.1
  · rw [zI_cl ⟨by omega, by omega⟩]; exact h1.2
  · rw [e1, e2]
    exact k
theorem ec_obj {k a z zz' : Nat} (hi : ts_ins m pc = some (.invokespecial k, nx, tg)) (hg : ts_cal (ts_mc m) k = some (8, z, zz')) (hc : ts_cat st ≤ 8) (kk : ts_Ev X (ts_Cal X d) m E Q nx lv st (I, L, P, S)) : ts_Ev X (ts_Cal X d) m E Q pc lv (.ref a :: st) (I, L, P, S) := ts_go hi (by simp only [ts_Fi, hg]; exact ⟨hc, kk⟩)
theorem ec_spec0 {k y a q : Nat} (hi : ts_ins m pc = some (.invokespecial k, nx, tg)) (hg : ts_cal (ts_mc m) k = some (q, y, 0)) (hq : q = 2 ∨ q = 4) (ha : a < 1000) (hc : ts_cat st ≤ 8) (hr : ec_b m E lv st P S (ts_mk y).1 (ts_mk y).2 = true) (kk : ts_Cal X d y [.ref a] (I, L, P, S) (fun r h' => ts_Ev X (ts_Cal X d) m E Q nx lv (ts_push r st) h')) : ts_Ev X (ts_Cal X d) m E Q pc lv (.ref a :: st) (I, L, P, S) := by
  refine ts_go hi ?_
  rcases hq with rfl | rfl
  · simp only [ts_Fi, hg]; exact ⟨ha, rfl, hc, Or.inr (ec_room hr), kk⟩
  · simp only [ts_Fi, hg]; exact ⟨ha, rfl, hc, Or.inr (ec_room hr), kk⟩
theorem ec_spec1 {a1 : Value} {k y a q : Nat} (hi : ts_ins m pc = some (.invokespecial k, nx, tg)) (hg : ts_cal (ts_mc m) k = some (q, y, 1)) (hq : q = 2 ∨ q = 4) (ha : a < 1000) (hc : ts_cat st ≤ 8) (hr : ec_b m E lv st P S (ts_mk y).1 (ts_mk y).2 = true) (kk : ts_Cal X d y [.ref a, a1] (I, L, P, S) (fun r h' => ts_Ev X (ts_Cal X d) m E Q nx lv (ts_push r st) h')) : ts_Ev X (ts_Cal X d) m E Q pc lv (a1 :: .ref a :: st) (I, L, P, S) := by
  refine ts_go hi ?_
  rcases hq with rfl | rfl
  · simp only [ts_Fi, hg]; exact ⟨ha, rfl, hc, Or.inr (ec_room hr), kk⟩
  · simp only [ts_Fi, hg]; exact ⟨ha, rfl, hc, Or.inr (ec_room hr), kk⟩
theorem ec_ret (hi : ts_ins m pc = some (.return_, nx, tg)) (hr : (ts_rt m).1 = none) (h1 : S.length = E.length + (ts_mk m).1) (h2 : ts_sz S = ts_sz E + (ts_mk m).2) (kq : Q none (I, L, P, S)) : ts_Ev X (ts_Cal X d) m E Q pc lv [] (I, L, P, S) := ts_go hi ⟨⟨hr, h1, h2⟩, kq⟩
theorem ec_zret {v : Int32} (hi : ts_ins m pc = some (.ireturn, nx, tg)) (hr : (ts_rt m).1 = some .boolean) (hv : narrow .boolean (.int v) = .int v) (h1 : S.length = E.length + (ts_mk m).1) (h2 : ts_sz S = ts_sz E + (ts_mk m).2) (kq : Q (some (.int v)) (I, L, P, S)) : ts_Ev X (ts_Cal X d) m E Q pc lv [.int v] (I, L, P, S) := ts_go hi ⟨⟨⟨.boolean, hr, hv⟩, h1, h2⟩, kq⟩
theorem ec_putI0 {n a ci j : Nat} (hi : ts_ins m pc = some (.putfield n, nx, tg)) (hg : ts_fmm m n = some (ci, j, 0, false)) (hs : ts_isI S a ci = true) (h0 : I a j = 0) (k : ts_Ev X (ts_Cal X d) m E Q nx lv st (I, L, P, S)) : ts_Ev X (ts_Cal X d) m E Q pc lv (.int (zI 0) :: .ref a :: st) (I, L, P, S) := ev_putI hi hg hs (by rw [ts_up_id (show I a j = zI 0 from h0)]; exact k)
theorem ec_putZ0 {n a ci j : Nat} (hi : ts_ins m pc = some (.putfield n, nx, tg)) (hg : ts_fmm m n = some (ci, j, 1, false)) (hs : ts_isI S a ci = true) (h0 : I a j = 0) (k : ts_Ev X (ts_Cal X d) m E Q nx lv st (I, L, P, S)) : ts_Ev X (ts_Cal X d) m E Q pc lv (.int (zI 0) :: .ref a :: st) (I, L, P, S) := ev_putZ hi hg hs (Or.inl rfl) (by rw [ts_up_id (show I a j = zI 0 from h0)]; exact k)
end EC
def tp_0 : List (List Nat) := []
def tp_1 : List (List Nat) := tp_0 ++ [List.replicate 13 0]
def tp_2 : List (List Nat) := tp_1 ++ [List.replicate 13 0]
def tp_3 : List (List Nat) := tp_2 ++ [[]]
def tp_4 : List (List Nat) := ts_ps tp_3 2 0 3
def tp_5 : List (List Nat) := tp_4 ++ [[]]
def tp_6 : List (List Nat) := ts_ps tp_5 2 1 4
def tp_7 : List (List Nat) := tp_6 ++ [[]]
def tp_8 : List (List Nat) := ts_ps tp_7 2 2 5
def tp_9 : List (List Nat) := tp_8 ++ [[]]
def tp_10 : List (List Nat) := ts_ps tp_9 2 3 6
def tp_11 : List (List Nat) := tp_10 ++ [[]]
def tp_12 : List (List Nat) := ts_ps tp_11 2 4 7
def tp_13 : List (List Nat) := tp_12 ++ [[]]
def tp_14 : List (List Nat) := ts_ps tp_13 2 5 8
def tp_15 : List (List Nat) := tp_14 ++ ((List.range 8).map (fun q => 8 + 2 + q)) :: List.replicate 8 []
def tp_16 : List (List Nat) := ts_ps tp_15 2 6 9
def tp_17 : List (List Nat) := tp_16 ++ [[]]
def tp_18 : List (List Nat) := ts_ps tp_17 2 7 18
def tp_19 : List (List Nat) := tp_18 ++ [List.replicate 5 0]
def tp_20 : List (List Nat) := tp_19 ++ [[]]
def tp_21 : List (List Nat) := ts_ps tp_20 19 0 20
def tp_22 : List (List Nat) := tp_21 ++ [[]]
def tp_23 : List (List Nat) := ts_ps tp_22 19 1 21
def tp_24 : List (List Nat) := tp_23 ++ [[]]
def tp_25 : List (List Nat) := ts_ps tp_24 19 2 22
def tp_26 : List (List Nat) := tp_25 ++ [[]]
def tp_27 : List (List Nat) := ts_ps tp_26 19 3 23
def tp_28 : List (List Nat) := ts_ps tp_27 2 11 19
def tp_29 : List (List Nat) := ts_ps tp_28 1 0 2
def tp_30 : List (List Nat) := tp_29 ++ [List.replicate 4 0]
def tp_31 : List (List Nat) := tp_30 ++ [[]]
def tp_32 : List (List Nat) := ts_ps tp_31 24 0 25
def tp_33 : List (List Nat) := tp_32 ++ [List.replicate 5 0]
def tp_34 : List (List Nat) := tp_33 ++ [[]]
def tp_35 : List (List Nat) := ts_ps tp_34 26 0 27
def tp_36 : List (List Nat) := tp_35 ++ [[]]
def tp_37 : List (List Nat) := ts_ps tp_36 26 1 28
def tp_38 : List (List Nat) := tp_37 ++ [[]]
def tp_39 : List (List Nat) := ts_ps tp_38 26 2 29
def tp_40 : List (List Nat) := tp_39 ++ [[]]
def tp_41 : List (List Nat) := ts_ps tp_40 26 3 30
def tp_42 : List (List Nat) := ts_ps tp_41 24 3 26
def tp_43 : List (List Nat) := ts_ps tp_42 1 1 24
def tp_44 : List (List Nat) := tp_43 ++ [List.replicate 6 0]
def tp_45 : List (List Nat) := tp_44 ++ [[]]
def tp_46 : List (List Nat) := ts_ps tp_45 31 1 32
def tp_47 : List (List Nat) := tp_46 ++ [[]]
def tp_48 : List (List Nat) := ts_ps tp_47 31 2 33
def tp_49 : List (List Nat) := tp_48 ++ [[]]
def tp_50 : List (List Nat) := ts_ps tp_49 31 3 34
def tp_51 : List (List Nat) := tp_50 ++ [[]]
def tp_52 : List (List Nat) := ts_ps tp_51 31 4 35
def tp_53 : List (List Nat) := tp_52 ++ [[]]
def tp_54 : List (List Nat) := ts_ps tp_53 31 5 36
def tp_55 : List (List Nat) := ts_ps tp_54 31 0 2
def tp_56 : List (List Nat) := ts_ps tp_55 1 2 31
def tp_57 : List (List Nat) := tp_56 ++ [List.replicate 7 0]
def tp_58 : List (List Nat) := tp_57 ++ [[]]
def tp_59 : List (List Nat) := ts_ps tp_58 37 1 38
def tp_60 : List (List Nat) := tp_59 ++ [[]]
def tp_61 : List (List Nat) := ts_ps tp_60 37 2 39
def tp_62 : List (List Nat) := ts_ps tp_61 37 0 2
def tp_63 : List (List Nat) := ts_ps tp_62 1 3 37
def tp_64 : List (List Nat) := tp_63 ++ [List.replicate 3 0]
def tp_65 : List (List Nat) := tp_64 ++ [[]]
def tp_66 : List (List Nat) := ts_ps tp_65 40 1 41
def tp_67 : List (List Nat) := ts_ps tp_66 40 0 2
def tp_68 : List (List Nat) := ts_ps tp_67 1 4 40
def tp_69 : List (List Nat) := tp_68 ++ [List.replicate 4 0]
def tp_70 : List (List Nat) := tp_69 ++ [[]]
def tp_71 : List (List Nat) := ts_ps tp_70 42 1 43
def tp_72 : List (List Nat) := ts_ps tp_71 42 0 2
def tp_73 : List (List Nat) := ts_ps tp_72 1 5 42
def tp_74 : List (List Nat) := tp_73 ++ [List.replicate 2 0]
def tp_75 : List (List Nat) := tp_74 ++ [[]]
def tp_76 : List (List Nat) := ts_ps tp_75 44 0 45
def tp_77 : List (List Nat) := tp_76 ++ [[]]
def tp_78 : List (List Nat) := ts_ps tp_77 44 1 46
def tp_79 : List (List Nat) := ts_ps tp_78 1 6 44
def tp_80 : List (List Nat) := tp_79 ++ [List.replicate 2 0]
def tp_81 : List (List Nat) := tp_80 ++ [[]]
def tp_82 : List (List Nat) := ts_ps tp_81 47 0 48
def tp_83 : List (List Nat) := tp_82 ++ [[]]
def tp_84 : List (List Nat) := ts_ps tp_83 47 1 49
def tp_85 : List (List Nat) := ts_ps tp_84 1 7 47
def tp_86 : List (List Nat) := tp_85 ++ [[]]
def tp_87 : List (List Nat) := ts_ps tp_86 1 8 50
def tp_88 : List (List Nat) := tp_87 ++ [List.replicate 6 0]
def tp_89 : List (List Nat) := tp_88 ++ [[]]
def tp_90 : List (List Nat) := ts_ps tp_89 51 0 52
def tp_91 : List (List Nat) := tp_90 ++ [[]]
def tp_92 : List (List Nat) := ts_ps tp_91 51 1 53
def tp_93 : List (List Nat) := tp_92 ++ [[]]
def tp_94 : List (List Nat) := ts_ps tp_93 51 2 54
def tp_95 : List (List Nat) := tp_94 ++ [[]]
def tp_96 : List (List Nat) := ts_ps tp_95 51 3 55
def tp_97 : List (List Nat) := ts_ps tp_96 1 10 51
def tp_98 : List (List Nat) := tp_97 ++ [List.replicate 5 0]
def tp_99 : List (List Nat) := tp_98 ++ [[]]
def tp_100 : List (List Nat) := ts_ps tp_99 56 0 57
def tp_101 : List (List Nat) := tp_100 ++ [[]]
def tp_102 : List (List Nat) := ts_ps tp_101 56 1 58
def tp_103 : List (List Nat) := ts_ps tp_102 1 11 56
def tp_104 : List (List Nat) := tp_103 ++ [List.replicate 6 0]
def tp_105 : List (List Nat) := ts_ps tp_104 1 12 59
def tp_106 : List (List Nat) := tp_105 ++ [List.replicate 5 0]
def tp_107 : List (List Nat) := tp_106 ++ [[]]
def tp_108 : List (List Nat) := ts_ps tp_107 60 0 61
def tp_109 : List (List Nat) := ts_ps tp_108 59 0 60
def tp_110 : List (List Nat) := tp_109 ++ [List.replicate 5 0]
def tp_111 : List (List Nat) := tp_110 ++ [[]]
def tp_112 : List (List Nat) := ts_ps tp_111 62 0 63
def tp_113 : List (List Nat) := ts_ps tp_112 59 1 62
def tp_114 : List (List Nat) := tp_113 ++ [List.replicate 5 0]
def tp_115 : List (List Nat) := tp_114 ++ [[]]
def tp_116 : List (List Nat) := ts_ps tp_115 64 0 65
def tp_117 : List (List Nat) := ts_ps tp_116 59 2 64
def tp_118 : List (List Nat) := tp_117 ++ [List.replicate 5 0]
def tp_119 : List (List Nat) := tp_118 ++ [[]]
def tp_120 : List (List Nat) := ts_ps tp_119 66 0 67
def tp_121 : List (List Nat) := ts_ps tp_120 59 3 66
def tp_122 : List (List Nat) := tp_121 ++ [List.replicate 5 0]
def tp_123 : List (List Nat) := tp_122 ++ [[]]
def tp_124 : List (List Nat) := ts_ps tp_123 68 0 69
def tp_125 : List (List Nat) := ts_ps tp_124 59 4 68
def tp_126 : List (List Nat) := tp_125 ++ [List.replicate 5 0]
def tp_127 : List (List Nat) := tp_126 ++ [[]]
def tp_128 : List (List Nat) := ts_ps tp_127 70 0 71
def tp_129 : List (List Nat) := ts_ps tp_128 59 5 70
def tp_130 : List (List Nat) := tp_129 ++ [List.replicate 42 0]
def tp_131 : List (List Nat) := tp_130 ++ [[]]
def tp_132 : List (List Nat) := ts_ps tp_131 72 0 73
def tp_133 : List (List Nat) := tp_132 ++ [[]]
def tp_134 : List (List Nat) := ts_ps tp_133 72 1 74
def tp_135 : List (List Nat) := tp_134 ++ [[]]
def tp_136 : List (List Nat) := ts_ps tp_135 72 2 75
def tp_137 : List (List Nat) := tp_136 ++ [[]]
def tp_138 : List (List Nat) := ts_ps tp_137 72 3 76
def tp_139 : List (List Nat) := tp_138 ++ [[]]
def tp_140 : List (List Nat) := ts_ps tp_139 72 8 77
def tp_141 : List (List Nat) := tp_140 ++ [[]]
def tp_142 : List (List Nat) := ts_ps tp_141 72 9 78
def tp_143 : List (List Nat) := tp_142 ++ [[]]
def tp_144 : List (List Nat) := ts_ps tp_143 72 11 79
def tp_145 : List (List Nat) := tp_144 ++ [[]]
def tp_146 : List (List Nat) := ts_ps tp_145 72 18 80
def tp_147 : List (List Nat) := tp_146 ++ [[]]
def tp_148 : List (List Nat) := ts_ps tp_147 72 19 81
def tp_149 : List (List Nat) := tp_148 ++ [[]]
def tp_150 : List (List Nat) := ts_ps tp_149 72 20 82
def tp_151 : List (List Nat) := tp_150 ++ [[]]
def tp_152 : List (List Nat) := ts_ps tp_151 72 21 83
def tp_153 : List (List Nat) := tp_152 ++ [[]]
def tp_154 : List (List Nat) := ts_ps tp_153 72 23 84
def tp_155 : List (List Nat) := tp_154 ++ [[]]
def tp_156 : List (List Nat) := ts_ps tp_155 72 24 85
def tp_157 : List (List Nat) := tp_156 ++ [[]]
def tp_158 : List (List Nat) := ts_ps tp_157 72 26 86
def tp_159 : List (List Nat) := tp_158 ++ [[]]
def tp_160 : List (List Nat) := ts_ps tp_159 72 27 87
def tp_161 : List (List Nat) := tp_160 ++ [[]]
def tp_162 : List (List Nat) := ts_ps tp_161 72 29 88
def tp_163 : List (List Nat) := tp_162 ++ [[]]
def tp_164 : List (List Nat) := ts_ps tp_163 72 30 89
def tp_165 : List (List Nat) := tp_164 ++ [[]]
def tp_166 : List (List Nat) := ts_ps tp_165 72 31 90
def tp_167 : List (List Nat) := tp_166 ++ [[]]
def tp_168 : List (List Nat) := ts_ps tp_167 72 33 91
def tp_169 : List (List Nat) := tp_168 ++ [[]]
def tp_170 : List (List Nat) := ts_ps tp_169 72 34 92
def tp_171 : List (List Nat) := tp_170 ++ [[]]
def tp_172 : List (List Nat) := ts_ps tp_171 72 38 93
def tp_173 : List (List Nat) := tp_172 ++ [[]]
def tp_174 : List (List Nat) := ts_ps tp_173 72 39 94
def tp_175 : List (List Nat) := tp_174 ++ [[]]
def tp_176 : List (List Nat) := ts_ps tp_175 72 40 95
def tp_177 : List (List Nat) := tp_176 ++ [[]]
def tp_178 : List (List Nat) := ts_ps tp_177 72 41 96
theorem i93_0 : ts_ins 93 0 = some (.aload_n 0, 1, 0) := by decide +kernel
theorem i93_1 : ts_ins 93 1 = some (.invokespecial 1, 4, 0) := by decide +kernel
theorem g93_1 : ts_cal (ts_mc 93) 1 = some (8, 0, 0) := by decide +kernel
theorem i93_4 : ts_ins 93 4 = some (.aload_n 0, 5, 0) := by decide +kernel
theorem i93_5 : ts_ins 93 5 = some (.new 7, 8, 0) := by decide +kernel
theorem i93_8 : ts_ins 93 8 = some (.dup, 9, 0) := by decide +kernel
theorem i93_9 : ts_ins 93 9 = some (.invokespecial 9, 12, 0) := by decide +kernel
theorem g93_9 : ts_cal (ts_mc 93) 9 = some (4, 16, 0) := by decide +kernel
theorem i93_12 : ts_ins 93 12 = some (.putfield 10, 15, 0) := by decide +kernel
theorem g93_12 : ts_fmm 93 10 = some (11, 0, 2, true) := by decide +kernel
theorem i93_15 : ts_ins 93 15 = some (.aload_n 0, 16, 0) := by decide +kernel
theorem i93_16 : ts_ins 93 16 = some (.new 16, 19, 0) := by decide +kernel
theorem i93_19 : ts_ins 93 19 = some (.dup, 20, 0) := by decide +kernel
theorem i93_20 : ts_ins 93 20 = some (.invokespecial 18, 23, 0) := by decide +kernel
theorem g93_20 : ts_cal (ts_mc 93) 18 = some (4, 39, 0) := by decide +kernel
theorem i93_23 : ts_ins 93 23 = some (.putfield 19, 26, 0) := by decide +kernel
theorem g93_23 : ts_fmm 93 19 = some (11, 1, 2, true) := by decide +kernel
theorem i93_26 : ts_ins 93 26 = some (.aload_n 0, 27, 0) := by decide +kernel
theorem i93_27 : ts_ins 93 27 = some (.new 23, 30, 0) := by decide +kernel
theorem i93_30 : ts_ins 93 30 = some (.dup, 31, 0) := by decide +kernel
theorem i93_31 : ts_ins 93 31 = some (.aload_n 0, 32, 0) := by decide +kernel
theorem i93_32 : ts_ins 93 32 = some (.getfield 10, 35, 0) := by decide +kernel
theorem g93_32 : ts_fm 93 10 = some (11, 0, 2) := by decide +kernel
theorem i93_35 : ts_ins 93 35 = some (.invokespecial 25, 38, 0) := by decide +kernel
theorem g93_35 : ts_cal (ts_mc 93) 25 = some (2, 77, 1) := by decide +kernel
theorem i93_38 : ts_ins 93 38 = some (.putfield 28, 41, 0) := by decide +kernel
theorem g93_38 : ts_fmm 93 28 = some (11, 2, 2, true) := by decide +kernel
theorem i93_41 : ts_ins 93 41 = some (.aload_n 0, 42, 0) := by decide +kernel
theorem i93_42 : ts_ins 93 42 = some (.new 32, 45, 0) := by decide +kernel
theorem i93_45 : ts_ins 93 45 = some (.dup, 46, 0) := by decide +kernel
theorem i93_46 : ts_ins 93 46 = some (.aload_n 0, 47, 0) := by decide +kernel
theorem i93_47 : ts_ins 93 47 = some (.getfield 10, 50, 0) := by decide +kernel
theorem g93_47 : ts_fm 93 10 = some (11, 0, 2) := by decide +kernel
theorem i93_50 : ts_ins 93 50 = some (.invokespecial 34, 53, 0) := by decide +kernel
theorem g93_50 : ts_cal (ts_mc 93) 34 = some (2, 50, 1) := by decide +kernel
theorem i93_53 : ts_ins 93 53 = some (.putfield 35, 56, 0) := by decide +kernel
theorem g93_53 : ts_fmm 93 35 = some (11, 3, 2, true) := by decide +kernel
theorem i93_56 : ts_ins 93 56 = some (.aload_n 0, 57, 0) := by decide +kernel
theorem i93_57 : ts_ins 93 57 = some (.new 39, 60, 0) := by decide +kernel
theorem i93_60 : ts_ins 93 60 = some (.dup, 61, 0) := by decide +kernel
theorem i93_61 : ts_ins 93 61 = some (.aload_n 0, 62, 0) := by decide +kernel
theorem i93_62 : ts_ins 93 62 = some (.getfield 10, 65, 0) := by decide +kernel
theorem g93_62 : ts_fm 93 10 = some (11, 0, 2) := by decide +kernel
theorem i93_65 : ts_ins 93 65 = some (.invokespecial 41, 68, 0) := by decide +kernel
theorem g93_65 : ts_cal (ts_mc 93) 41 = some (2, 68, 1) := by decide +kernel
theorem i93_68 : ts_ins 93 68 = some (.putfield 42, 71, 0) := by decide +kernel
theorem g93_68 : ts_fmm 93 42 = some (11, 4, 2, true) := by decide +kernel
theorem i93_71 : ts_ins 93 71 = some (.aload_n 0, 72, 0) := by decide +kernel
theorem i93_72 : ts_ins 93 72 = some (.new 46, 75, 0) := by decide +kernel
theorem i93_75 : ts_ins 93 75 = some (.dup, 76, 0) := by decide +kernel
theorem i93_76 : ts_ins 93 76 = some (.aload_n 0, 77, 0) := by decide +kernel
theorem i93_77 : ts_ins 93 77 = some (.getfield 10, 80, 0) := by decide +kernel
theorem g93_77 : ts_fm 93 10 = some (11, 0, 2) := by decide +kernel
theorem i93_80 : ts_ins 93 80 = some (.invokespecial 48, 83, 0) := by decide +kernel
theorem g93_80 : ts_cal (ts_mc 93) 48 = some (2, 84, 1) := by decide +kernel
theorem i93_83 : ts_ins 93 83 = some (.putfield 49, 86, 0) := by decide +kernel
theorem g93_83 : ts_fmm 93 49 = some (11, 5, 2, true) := by decide +kernel
theorem i93_86 : ts_ins 93 86 = some (.aload_n 0, 87, 0) := by decide +kernel
theorem i93_87 : ts_ins 93 87 = some (.new 53, 90, 0) := by decide +kernel
theorem i93_90 : ts_ins 93 90 = some (.dup, 91, 0) := by decide +kernel
theorem i93_91 : ts_ins 93 91 = some (.invokespecial 55, 94, 0) := by decide +kernel
theorem g93_91 : ts_cal (ts_mc 93) 55 = some (4, 3, 0) := by decide +kernel
theorem i93_94 : ts_ins 93 94 = some (.putfield 56, 97, 0) := by decide +kernel
theorem g93_94 : ts_fmm 93 56 = some (11, 6, 2, true) := by decide +kernel
theorem i93_97 : ts_ins 93 97 = some (.aload_n 0, 98, 0) := by decide +kernel
theorem i93_98 : ts_ins 93 98 = some (.new 53, 101, 0) := by decide +kernel
theorem i93_101 : ts_ins 93 101 = some (.dup, 102, 0) := by decide +kernel
theorem i93_102 : ts_ins 93 102 = some (.invokespecial 55, 105, 0) := by decide +kernel
theorem g93_102 : ts_cal (ts_mc 93) 55 = some (4, 3, 0) := by decide +kernel
theorem i93_105 : ts_ins 93 105 = some (.putfield 60, 108, 0) := by decide +kernel
theorem g93_105 : ts_fmm 93 60 = some (11, 7, 2, true) := by decide +kernel
theorem i93_108 : ts_ins 93 108 = some (.aload_n 0, 109, 0) := by decide +kernel
theorem i93_109 : ts_ins 93 109 = some (.bipush 16, 111, 0) := by decide +kernel
theorem i93_111 : ts_ins 93 111 = some (.newarray .int, 113, 0) := by decide +kernel
theorem i93_113 : ts_ins 93 113 = some (.putfield 63, 116, 0) := by decide +kernel
theorem g93_113 : ts_fmm 93 63 = some (11, 8, 2, true) := by decide +kernel
theorem i93_116 : ts_ins 93 116 = some (.aload_n 0, 117, 0) := by decide +kernel
theorem i93_117 : ts_ins 93 117 = some (.iconst 0, 118, 0) := by decide +kernel
theorem i93_118 : ts_ins 93 118 = some (.putfield 67, 121, 0) := by decide +kernel
theorem g93_118 : ts_fmm 93 67 = some (11, 9, 1, false) := by decide +kernel
theorem i93_121 : ts_ins 93 121 = some (.aload_n 0, 122, 0) := by decide +kernel
theorem i93_122 : ts_ins 93 122 = some (.new 71, 125, 0) := by decide +kernel
theorem i93_125 : ts_ins 93 125 = some (.dup, 126, 0) := by decide +kernel
theorem i93_126 : ts_ins 93 126 = some (.invokespecial 73, 129, 0) := by decide +kernel
theorem g93_126 : ts_cal (ts_mc 93) 73 = some (4, 0, 0) := by decide +kernel
theorem i93_129 : ts_ins 93 129 = some (.putfield 74, 132, 0) := by decide +kernel
theorem g93_129 : ts_fmm 93 74 = some (11, 10, 2, true) := by decide +kernel
theorem i93_132 : ts_ins 93 132 = some (.aload_n 0, 133, 0) := by decide +kernel
theorem i93_133 : ts_ins 93 133 = some (.new 78, 136, 0) := by decide +kernel
theorem i93_136 : ts_ins 93 136 = some (.dup, 137, 0) := by decide +kernel
theorem i93_137 : ts_ins 93 137 = some (.invokespecial 80, 140, 0) := by decide +kernel
theorem g93_137 : ts_cal (ts_mc 93) 80 = some (4, 7, 0) := by decide +kernel
theorem i93_140 : ts_ins 93 140 = some (.putfield 81, 143, 0) := by decide +kernel
theorem g93_140 : ts_fmm 93 81 = some (11, 11, 2, true) := by decide +kernel
theorem i93_143 : ts_ins 93 143 = some (.aload_n 0, 144, 0) := by decide +kernel
theorem i93_144 : ts_ins 93 144 = some (.bipush 6, 146, 0) := by decide +kernel
theorem i93_146 : ts_ins 93 146 = some (.anewarray 85, 149, 0) := by decide +kernel
theorem i93_149 : ts_ins 93 149 = some (.putfield 87, 152, 0) := by decide +kernel
theorem g93_149 : ts_fmm 93 87 = some (11, 12, 2, true) := by decide +kernel
theorem i93_152 : ts_ins 93 152 = some (.iconst 0, 153, 0) := by decide +kernel
theorem i93_153 : ts_ins 93 153 = some (.istore_n 1, 154, 0) := by decide +kernel
theorem i93_154 : ts_ins 93 154 = some (.iload_n 1, 155, 0) := by decide +kernel
theorem i93_155 : ts_ins 93 155 = some (.bipush 6, 157, 0) := by decide +kernel
theorem i93_157 : ts_ins 93 157 = some (.if_icmp .ge 22, 160, 179) := by decide +kernel
theorem i93_160 : ts_ins 93 160 = some (.aload_n 0, 161, 0) := by decide +kernel
theorem i93_161 : ts_ins 93 161 = some (.getfield 87, 164, 0) := by decide +kernel
theorem g93_161 : ts_fm 93 87 = some (11, 12, 2) := by decide +kernel
theorem i93_164 : ts_ins 93 164 = some (.iload_n 1, 165, 0) := by decide +kernel
theorem i93_165 : ts_ins 93 165 = some (.new 85, 168, 0) := by decide +kernel
theorem i93_168 : ts_ins 93 168 = some (.dup, 169, 0) := by decide +kernel
theorem i93_169 : ts_ins 93 169 = some (.invokespecial 91, 172, 0) := by decide +kernel
theorem g93_169 : ts_cal (ts_mc 93) 91 = some (4, 56, 0) := by decide +kernel
theorem i93_172 : ts_ins 93 172 = some (.aastore, 173, 0) := by decide +kernel
theorem i93_173 : ts_ins 93 173 = some (.iinc 1 1, 176, 0) := by decide +kernel
theorem i93_176 : ts_ins 93 176 = some (.goto (-22), 179, 154) := by decide +kernel
theorem i93_179 : ts_ins 93 179 = some (.return_, 180, 0) := by decide +kernel
theorem r93 : ts_rt 93 = (none, 70, 2336) := by decide +kernel
theorem l93 : ts_ml 93 = 2 := by decide +kernel
theorem i16_0 : ts_ins 16 0 = some (.aload_n 0, 1, 0) := by decide +kernel
theorem i16_1 : ts_ins 16 1 = some (.invokespecial 3, 4, 0) := by decide +kernel
theorem g16_1 : ts_cal (ts_mc 16) 3 = some (8, 0, 0) := by decide +kernel
theorem i16_4 : ts_ins 16 4 = some (.aload_n 0, 5, 0) := by decide +kernel
theorem i16_5 : ts_ins 16 5 = some (.bipush 16, 7, 0) := by decide +kernel
theorem i16_7 : ts_ins 16 7 = some (.newarray .int, 9, 0) := by decide +kernel
theorem i16_9 : ts_ins 16 9 = some (.putfield 9, 12, 0) := by decide +kernel
theorem g16_9 : ts_fmm 16 9 = some (3, 0, 2, true) := by decide +kernel
theorem i16_12 : ts_ins 16 12 = some (.aload_n 0, 13, 0) := by decide +kernel
theorem i16_13 : ts_ins 16 13 = some (.bipush 16, 15, 0) := by decide +kernel
theorem i16_15 : ts_ins 16 15 = some (.newarray .int, 17, 0) := by decide +kernel
theorem i16_17 : ts_ins 16 17 = some (.putfield 15, 20, 0) := by decide +kernel
theorem g16_17 : ts_fmm 16 15 = some (3, 1, 2, true) := by decide +kernel
theorem i16_20 : ts_ins 16 20 = some (.aload_n 0, 21, 0) := by decide +kernel
theorem i16_21 : ts_ins 16 21 = some (.iconst 4, 22, 0) := by decide +kernel
theorem i16_22 : ts_ins 16 22 = some (.newarray .int, 24, 0) := by decide +kernel
theorem i16_24 : ts_ins 16 24 = some (.putfield 18, 27, 0) := by decide +kernel
theorem g16_24 : ts_fmm 16 18 = some (3, 2, 2, true) := by decide +kernel
theorem i16_27 : ts_ins 16 27 = some (.aload_n 0, 28, 0) := by decide +kernel
theorem i16_28 : ts_ins 16 28 = some (.iconst 4, 29, 0) := by decide +kernel
theorem i16_29 : ts_ins 16 29 = some (.newarray .int, 31, 0) := by decide +kernel
theorem i16_31 : ts_ins 16 31 = some (.putfield 21, 34, 0) := by decide +kernel
theorem g16_31 : ts_fmm 16 21 = some (3, 3, 2, true) := by decide +kernel
theorem i16_34 : ts_ins 16 34 = some (.aload_n 0, 35, 0) := by decide +kernel
theorem i16_35 : ts_ins 16 35 = some (.iconst 4, 36, 0) := by decide +kernel
theorem i16_36 : ts_ins 16 36 = some (.newarray .int, 38, 0) := by decide +kernel
theorem i16_38 : ts_ins 16 38 = some (.putfield 24, 41, 0) := by decide +kernel
theorem g16_38 : ts_fmm 16 24 = some (3, 4, 2, true) := by decide +kernel
theorem i16_41 : ts_ins 16 41 = some (.aload_n 0, 42, 0) := by decide +kernel
theorem i16_42 : ts_ins 16 42 = some (.iconst 4, 43, 0) := by decide +kernel
theorem i16_43 : ts_ins 16 43 = some (.newarray .int, 45, 0) := by decide +kernel
theorem i16_45 : ts_ins 16 45 = some (.putfield 27, 48, 0) := by decide +kernel
theorem g16_45 : ts_fmm 16 27 = some (3, 5, 2, true) := by decide +kernel
theorem i16_48 : ts_ins 16 48 = some (.aload_n 0, 49, 0) := by decide +kernel
theorem i16_49 : ts_ins 16 49 = some (.bipush 8, 51, 0) := by decide +kernel
theorem i16_51 : ts_ins 16 51 = some (.bipush 6, 53, 0) := by decide +kernel
theorem i16_53 : ts_ins 16 53 = some (.multianewarray 30 2, 57, 0) := by decide +kernel
theorem i16_57 : ts_ins 16 57 = some (.putfield 32, 60, 0) := by decide +kernel
theorem g16_57 : ts_fmm 16 32 = some (3, 6, 2, true) := by decide +kernel
theorem i16_60 : ts_ins 16 60 = some (.aload_n 0, 61, 0) := by decide +kernel
theorem i16_61 : ts_ins 16 61 = some (.bipush 8, 63, 0) := by decide +kernel
theorem i16_63 : ts_ins 16 63 = some (.newarray .int, 65, 0) := by decide +kernel
theorem i16_65 : ts_ins 16 65 = some (.putfield 35, 68, 0) := by decide +kernel
theorem g16_65 : ts_fmm 16 35 = some (3, 7, 2, true) := by decide +kernel
theorem i16_68 : ts_ins 16 68 = some (.aload_n 0, 69, 0) := by decide +kernel
theorem i16_69 : ts_ins 16 69 = some (.iconst 0, 70, 0) := by decide +kernel
theorem i16_70 : ts_ins 16 70 = some (.putfield 38, 73, 0) := by decide +kernel
theorem g16_70 : ts_fmm 16 38 = some (3, 8, 0, false) := by decide +kernel
theorem i16_73 : ts_ins 16 73 = some (.aload_n 0, 74, 0) := by decide +kernel
theorem i16_74 : ts_ins 16 74 = some (.iconst 0, 75, 0) := by decide +kernel
theorem i16_75 : ts_ins 16 75 = some (.putfield 42, 78, 0) := by decide +kernel
theorem g16_75 : ts_fmm 16 42 = some (3, 9, 0, false) := by decide +kernel
theorem i16_78 : ts_ins 16 78 = some (.aload_n 0, 79, 0) := by decide +kernel
theorem i16_79 : ts_ins 16 79 = some (.iconst 0, 80, 0) := by decide +kernel
theorem i16_80 : ts_ins 16 80 = some (.putfield 45, 83, 0) := by decide +kernel
theorem g16_80 : ts_fmm 16 45 = some (3, 10, 0, false) := by decide +kernel
theorem i16_83 : ts_ins 16 83 = some (.aload_n 0, 84, 0) := by decide +kernel
theorem i16_84 : ts_ins 16 84 = some (.new 48, 87, 0) := by decide +kernel
theorem i16_87 : ts_ins 16 87 = some (.dup, 88, 0) := by decide +kernel
theorem i16_88 : ts_ins 16 88 = some (.invokespecial 50, 91, 0) := by decide +kernel
theorem g16_88 : ts_cal (ts_mc 16) 50 = some (4, 34, 0) := by decide +kernel
theorem i16_91 : ts_ins 16 91 = some (.putfield 51, 94, 0) := by decide +kernel
theorem g16_91 : ts_fmm 16 51 = some (3, 11, 2, false) := by decide +kernel
theorem i16_94 : ts_ins 16 94 = some (.aload_n 0, 95, 0) := by decide +kernel
theorem i16_95 : ts_ins 16 95 = some (.iconst 0, 96, 0) := by decide +kernel
theorem i16_96 : ts_ins 16 96 = some (.putfield 55, 99, 0) := by decide +kernel
theorem g16_96 : ts_fmm 16 55 = some (3, 12, 1, false) := by decide +kernel
theorem i16_99 : ts_ins 16 99 = some (.return_, 100, 0) := by decide +kernel
theorem r16 : ts_rt 16 = (none, 21, 507) := by decide +kernel
theorem l16 : ts_ml 16 = 1 := by decide +kernel
theorem i34_0 : ts_ins 34 0 = some (.aload_n 0, 1, 0) := by decide +kernel
theorem i34_1 : ts_ins 34 1 = some (.invokespecial 1, 4, 0) := by decide +kernel
theorem g34_1 : ts_cal (ts_mc 34) 1 = some (8, 0, 0) := by decide +kernel
theorem i34_4 : ts_ins 34 4 = some (.aload_n 0, 5, 0) := by decide +kernel
theorem i34_5 : ts_ins 34 5 = some (.sipush 128, 8, 0) := by decide +kernel
theorem i34_8 : ts_ins 34 8 = some (.newarray .int, 10, 0) := by decide +kernel
theorem i34_10 : ts_ins 34 10 = some (.putfield 9, 13, 0) := by decide +kernel
theorem g34_10 : ts_fmm 34 9 = some (4, 0, 2, true) := by decide +kernel
theorem i34_13 : ts_ins 34 13 = some (.aload_n 0, 14, 0) := by decide +kernel
theorem i34_14 : ts_ins 34 14 = some (.sipush 128, 17, 0) := by decide +kernel
theorem i34_17 : ts_ins 34 17 = some (.newarray .int, 19, 0) := by decide +kernel
theorem i34_19 : ts_ins 34 19 = some (.putfield 13, 22, 0) := by decide +kernel
theorem g34_19 : ts_fmm 34 13 = some (4, 1, 2, true) := by decide +kernel
theorem i34_22 : ts_ins 34 22 = some (.aload_n 0, 23, 0) := by decide +kernel
theorem i34_23 : ts_ins 34 23 = some (.sipush 128, 26, 0) := by decide +kernel
theorem i34_26 : ts_ins 34 26 = some (.newarray .int, 28, 0) := by decide +kernel
theorem i34_28 : ts_ins 34 28 = some (.putfield 16, 31, 0) := by decide +kernel
theorem g34_28 : ts_fmm 34 16 = some (4, 2, 2, true) := by decide +kernel
theorem i34_31 : ts_ins 34 31 = some (.aload_n 0, 32, 0) := by decide +kernel
theorem i34_32 : ts_ins 34 32 = some (.bipush 6, 34, 0) := by decide +kernel
theorem i34_34 : ts_ins 34 34 = some (.newarray .int, 36, 0) := by decide +kernel
theorem i34_36 : ts_ins 34 36 = some (.putfield 19, 39, 0) := by decide +kernel
theorem g34_36 : ts_fmm 34 19 = some (4, 3, 2, true) := by decide +kernel
theorem i34_39 : ts_ins 34 39 = some (.aload_n 0, 40, 0) := by decide +kernel
theorem i34_40 : ts_ins 34 40 = some (.iconst 0, 41, 0) := by decide +kernel
theorem i34_41 : ts_ins 34 41 = some (.putfield 22, 44, 0) := by decide +kernel
theorem g34_41 : ts_fmm 34 22 = some (4, 4, 0, false) := by decide +kernel
theorem i34_44 : ts_ins 34 44 = some (.return_, 45, 0) := by decide +kernel
theorem r34 : ts_rt 34 = (none, 4, 390) := by decide +kernel
theorem l34 : ts_ml 34 = 1 := by decide +kernel
theorem ct_3 {X : ts_X} {d : Nat} {I : Nat → Nat → Int32} {K : Option Value → ts_H → Prop} (hz : ∀ x, 19 ≤ x → ∀ k, I x k = 0) (hK : K none (I, zzL, tp_27, (ts_S0.take 23))) : ts_Cal X (d + 1) 34 [.ref 19] (I, zzL, tp_19, (ts_S0.take 19)) K := by
  refine ev_enter (lv := [.ref 19]) l34 rfl (Nat.le_of_ble_eq_true rfl) ?_
  refine ev_aloadn_0 i34_0 ?_
  refine ec_obj i34_1 g34_1 (Nat.le_of_ble_eq_true rfl) ?_
  refine ev_aloadn_0 i34_4 ?_
  refine ew_sipush i34_5 (by decide) ?_
  refine ec_arrI (a := 20) (c := 128) (P' := tp_20) (S' := (ts_S0.take 20)) i34_8 (by decide) rfl (by decide) (by decide +kernel) rfl (fun k => by first | rfl | exact hz _ (by decide) _) rfl (by decide +kernel) ?_
  refine ev_putF (P' := tp_21) i34_10 g34_10 (by decide +kernel) (by decide +kernel) (by decide +kernel) (by decide) (by decide) rfl ?_
  refine ev_aloadn_0 i34_13 ?_
  refine ew_sipush i34_14 (by decide) ?_
  refine ec_arrI (a := 21) (c := 128) (P' := tp_22) (S' := (ts_S0.take 21)) i34_17 (by decide) rfl (by decide) (by decide +kernel) rfl (fun k => by first | rfl | exact hz _ (by decide) _) rfl (by decide +kernel) ?_
  refine ev_putF (P' := tp_23) i34_19 g34_19 (by decide +kernel) (by decide +kernel) (by decide +kernel) (by decide) (by decide) rfl ?_
  refine ev_aloadn_0 i34_22 ?_
  refine ew_sipush i34_23 (by decide) ?_
  refine ec_arrI (a := 22) (c := 128) (P' := tp_24) (S' := (ts_S0.take 22)) i34_26 (by decide) rfl (by decide) (by decide +kernel) rfl (fun k => by first | rfl | exact hz _ (by decide) _) rfl (by decide +kernel) ?_
  refine ev_putF (P' := tp_25) i34_28 g34_28 (by decide +kernel) (by decide +kernel) (by decide +kernel) (by decide) (by decide) rfl ?_
  refine ev_aloadn_0 i34_31 ?_
  refine ew_bipush i34_32 (by decide) ?_
  refine ec_arrI (a := 23) (c := 6) (P' := tp_26) (S' := (ts_S0.take 23)) i34_34 (by decide) rfl (by decide) (by decide +kernel) rfl (fun k => by first | rfl | exact hz _ (by decide) _) rfl (by decide +kernel) ?_
  refine ev_putF (P' := tp_27) i34_36 g34_36 (by decide +kernel) (by decide +kernel) (by decide +kernel) (by decide) (by decide) rfl ?_
  refine ev_aloadn_0 i34_39 ?_
  refine ew_iconst i34_40 ?_
  refine ec_putI0 i34_41 g34_41 (by decide +kernel) (by first | rfl | exact hz _ (by decide) _) ?_
  refine ec_ret i34_44 rfl (by decide +kernel) (by decide +kernel) ?_
  exact hK
theorem ct_2 {X : ts_X} {d : Nat} {I : Nat → Nat → Int32} {K : Option Value → ts_H → Prop} (hz : ∀ x, 2 ≤ x → ∀ k, I x k = 0) (hK : K none (I, zzL, tp_28, (ts_S0.take 23))) : ts_Cal X (d + 2) 16 [.ref 2] (I, zzL, tp_2, (ts_S0.take 2)) K := by
  refine ev_enter (lv := [.ref 2]) l16 rfl (Nat.le_of_ble_eq_true rfl) ?_
  refine ev_aloadn_0 i16_0 ?_
  refine ec_obj i16_1 g16_1 (Nat.le_of_ble_eq_true rfl) ?_
  refine ev_aloadn_0 i16_4 ?_
  refine ew_bipush i16_5 (by decide) ?_
  refine ec_arrI (a := 3) (c := 16) (P' := tp_3) (S' := (ts_S0.take 3)) i16_7 (by decide) rfl (by decide) (by decide +kernel) rfl (fun k => by first | rfl | exact hz _ (by decide) _) rfl (by decide +kernel) ?_
  refine ev_putF (P' := tp_4) i16_9 g16_9 (by decide +kernel) (by decide +kernel) (by decide +kernel) (by decide) (by decide) rfl ?_
  refine ev_aloadn_0 i16_12 ?_
  refine ew_bipush i16_13 (by decide) ?_
  refine ec_arrI (a := 4) (c := 16) (P' := tp_5) (S' := (ts_S0.take 4)) i16_15 (by decide) rfl (by decide) (by decide +kernel) rfl (fun k => by first | rfl | exact hz _ (by decide) _) rfl (by decide +kernel) ?_
  refine ev_putF (P' := tp_6) i16_17 g16_17 (by decide +kernel) (by decide +kernel) (by decide +kernel) (by decide) (by decide) rfl ?_
  refine ev_aloadn_0 i16_20 ?_
  refine ew_iconst i16_21 ?_
  refine ec_arrI (a := 5) (c := 4) (P' := tp_7) (S' := (ts_S0.take 5)) i16_22 (by decide) rfl (by decide) (by decide +kernel) rfl (fun k => by first | rfl | exact hz _ (by decide) _) rfl (by decide +kernel) ?_
  refine ev_putF (P' := tp_8) i16_24 g16_24 (by decide +kernel) (by decide +kernel) (by decide +kernel) (by decide) (by decide) rfl ?_
  refine ev_aloadn_0 i16_27 ?_
  refine ew_iconst i16_28 ?_
  refine ec_arrI (a := 6) (c := 4) (P' := tp_9) (S' := (ts_S0.take 6)) i16_29 (by decide) rfl (by decide) (by decide +kernel) rfl (fun k => by first | rfl | exact hz _ (by decide) _) rfl (by decide +kernel) ?_
  refine ev_putF (P' := tp_10) i16_31 g16_31 (by decide +kernel) (by decide +kernel) (by decide +kernel) (by decide) (by decide) rfl ?_
  refine ev_aloadn_0 i16_34 ?_
  refine ew_iconst i16_35 ?_
  refine ec_arrI (a := 7) (c := 4) (P' := tp_11) (S' := (ts_S0.take 7)) i16_36 (by decide) rfl (by decide) (by decide +kernel) rfl (fun k => by first | rfl | exact hz _ (by decide) _) rfl (by decide +kernel) ?_
  refine ev_putF (P' := tp_12) i16_38 g16_38 (by decide +kernel) (by decide +kernel) (by decide +kernel) (by decide) (by decide) rfl ?_
  refine ev_aloadn_0 i16_41 ?_
  refine ew_iconst i16_42 ?_
  refine ec_arrI (a := 8) (c := 4) (P' := tp_13) (S' := (ts_S0.take 8)) i16_43 (by decide) rfl (by decide) (by decide +kernel) rfl (fun k => by first | rfl | exact hz _ (by decide) _) rfl (by decide +kernel) ?_
  refine ev_putF (P' := tp_14) i16_45 g16_45 (by decide +kernel) (by decide +kernel) (by decide +kernel) (by decide) (by decide) rfl ?_
  refine ev_aloadn_0 i16_48 ?_
  refine ew_bipush i16_49 (by decide) ?_
  refine ew_bipush i16_51 (by decide) ?_
  refine ec_multi (a := 9) (c := 8) (z := 6) (P' := tp_15) (S' := (ts_S0.take 17)) i16_53 rfl (by decide) ⟨rfl, rfl⟩ (by decide) (by decide +kernel) (by decide +kernel) rfl (fun x hx k => by first | exact hz x (by omega) k) rfl (by decide +kernel) ?_
  refine ev_putF (P' := tp_16) i16_57 g16_57 (by decide +kernel) (by decide +kernel) (by decide +kernel) (by decide) (by decide) rfl ?_
  refine ev_aloadn_0 i16_60 ?_
  refine ew_bipush i16_61 (by decide) ?_
  refine ec_arrI (a := 18) (c := 8) (P' := tp_17) (S' := (ts_S0.take 18)) i16_63 (by decide) rfl (by decide) (by decide +kernel) rfl (fun k => by first | rfl | exact hz _ (by decide) _) rfl (by decide +kernel) ?_
  refine ev_putF (P' := tp_18) i16_65 g16_65 (by decide +kernel) (by decide +kernel) (by decide +kernel) (by decide) (by decide) rfl ?_
  refine ev_aloadn_0 i16_68 ?_
  refine ew_iconst i16_69 ?_
  refine ec_putI0 i16_70 g16_70 (by decide +kernel) (by first | rfl | exact hz _ (by decide) _) ?_
  refine ev_aloadn_0 i16_73 ?_
  refine ew_iconst i16_74 ?_
  refine ec_putI0 i16_75 g16_75 (by decide +kernel) (by first | rfl | exact hz _ (by decide) _) ?_
  refine ev_aloadn_0 i16_78 ?_
  refine ew_iconst i16_79 ?_
  refine ec_putI0 i16_80 g16_80 (by decide +kernel) (by first | rfl | exact hz _ (by decide) _) ?_
  refine ev_aloadn_0 i16_83 ?_
  refine ec_new (ci := 4) (a := 19) (c := 5) (P' := tp_19) (S' := (ts_S0.take 19)) i16_84 (by decide +kernel) rfl (by decide +kernel) rfl (fun k => by first | rfl | exact hz _ (by decide) _) rfl (by decide +kernel) ?_
  refine ev_dup i16_87 rfl ?_
  refine ec_spec0 (q := 4) i16_88 g16_88 (Or.inr rfl) (by decide) (Nat.le_of_ble_eq_true rfl) (by decide +kernel) (ct_3 ((fun x hx k => by first | exact hz x (by omega) k)) ?_)
  refine ev_putA (P' := tp_28) i16_91 g16_91 (by decide +kernel) (by decide +kernel) (by decide) (by decide) rfl ?_
  refine ev_aloadn_0 i16_94 ?_
  refine ew_iconst i16_95 ?_
  refine ec_putZ0 i16_96 g16_96 (by decide +kernel) (by first | rfl | exact hz _ (by decide) _) ?_
  refine ec_ret i16_99 rfl (by decide +kernel) (by decide +kernel) ?_
  exact hK
theorem i39_0 : ts_ins 39 0 = some (.aload_n 0, 1, 0) := by decide +kernel
theorem i39_1 : ts_ins 39 1 = some (.invokespecial 3, 4, 0) := by decide +kernel
theorem g39_1 : ts_cal (ts_mc 39) 3 = some (8, 0, 0) := by decide +kernel
theorem i39_4 : ts_ins 39 4 = some (.aload_n 0, 5, 0) := by decide +kernel
theorem i39_5 : ts_ins 39 5 = some (.bipush 120, 7, 0) := by decide +kernel
theorem i39_7 : ts_ins 39 7 = some (.newarray .int, 9, 0) := by decide +kernel
theorem i39_9 : ts_ins 39 9 = some (.putfield 9, 12, 0) := by decide +kernel
theorem g39_9 : ts_fmm 39 9 = some (5, 0, 2, true) := by decide +kernel
theorem i39_12 : ts_ins 39 12 = some (.aload_n 0, 13, 0) := by decide +kernel
theorem i39_13 : ts_ins 39 13 = some (.iconst 0, 14, 0) := by decide +kernel
theorem i39_14 : ts_ins 39 14 = some (.putfield 15, 17, 0) := by decide +kernel
theorem g39_14 : ts_fmm 39 15 = some (5, 1, 0, false) := by decide +kernel
theorem i39_17 : ts_ins 39 17 = some (.aload_n 0, 18, 0) := by decide +kernel
theorem i39_18 : ts_ins 39 18 = some (.iconst 0, 19, 0) := by decide +kernel
theorem i39_19 : ts_ins 39 19 = some (.putfield 19, 22, 0) := by decide +kernel
theorem g39_19 : ts_fmm 39 19 = some (5, 2, 0, false) := by decide +kernel
theorem i39_22 : ts_ins 39 22 = some (.aload_n 0, 23, 0) := by decide +kernel
theorem i39_23 : ts_ins 39 23 = some (.new 22, 26, 0) := by decide +kernel
theorem i39_26 : ts_ins 39 26 = some (.dup, 27, 0) := by decide +kernel
theorem i39_27 : ts_ins 39 27 = some (.invokespecial 24, 30, 0) := by decide +kernel
theorem g39_27 : ts_cal (ts_mc 39) 24 = some (4, 34, 0) := by decide +kernel
theorem i39_30 : ts_ins 39 30 = some (.putfield 25, 33, 0) := by decide +kernel
theorem g39_30 : ts_fmm 39 25 = some (5, 3, 2, false) := by decide +kernel
theorem i39_33 : ts_ins 39 33 = some (.return_, 34, 0) := by decide +kernel
theorem r39 : ts_rt 39 = (none, 6, 515) := by decide +kernel
theorem l39 : ts_ml 39 = 1 := by decide +kernel
theorem ct_5 {X : ts_X} {d : Nat} {I : Nat → Nat → Int32} {K : Option Value → ts_H → Prop} (hz : ∀ x, 26 ≤ x → ∀ k, I x k = 0) (hK : K none (I, zzL, tp_41, (ts_S0.take 30))) : ts_Cal X (d + 1) 34 [.ref 26] (I, zzL, tp_33, (ts_S0.take 26)) K := by
  refine ev_enter (lv := [.ref 26]) l34 rfl (Nat.le_of_ble_eq_true rfl) ?_
  refine ev_aloadn_0 i34_0 ?_
  refine ec_obj i34_1 g34_1 (Nat.le_of_ble_eq_true rfl) ?_
  refine ev_aloadn_0 i34_4 ?_
  refine ew_sipush i34_5 (by decide) ?_
  refine ec_arrI (a := 27) (c := 128) (P' := tp_34) (S' := (ts_S0.take 27)) i34_8 (by decide) rfl (by decide) (by decide +kernel) rfl (fun k => by first | rfl | exact hz _ (by decide) _) rfl (by decide +kernel) ?_
  refine ev_putF (P' := tp_35) i34_10 g34_10 (by decide +kernel) (by decide +kernel) (by decide +kernel) (by decide) (by decide) rfl ?_
  refine ev_aloadn_0 i34_13 ?_
  refine ew_sipush i34_14 (by decide) ?_
  refine ec_arrI (a := 28) (c := 128) (P' := tp_36) (S' := (ts_S0.take 28)) i34_17 (by decide) rfl (by decide) (by decide +kernel) rfl (fun k => by first | rfl | exact hz _ (by decide) _) rfl (by decide +kernel) ?_
  refine ev_putF (P' := tp_37) i34_19 g34_19 (by decide +kernel) (by decide +kernel) (by decide +kernel) (by decide) (by decide) rfl ?_
  refine ev_aloadn_0 i34_22 ?_
  refine ew_sipush i34_23 (by decide) ?_
  refine ec_arrI (a := 29) (c := 128) (P' := tp_38) (S' := (ts_S0.take 29)) i34_26 (by decide) rfl (by decide) (by decide +kernel) rfl (fun k => by first | rfl | exact hz _ (by decide) _) rfl (by decide +kernel) ?_
  refine ev_putF (P' := tp_39) i34_28 g34_28 (by decide +kernel) (by decide +kernel) (by decide +kernel) (by decide) (by decide) rfl ?_
  refine ev_aloadn_0 i34_31 ?_
  refine ew_bipush i34_32 (by decide) ?_
  refine ec_arrI (a := 30) (c := 6) (P' := tp_40) (S' := (ts_S0.take 30)) i34_34 (by decide) rfl (by decide) (by decide +kernel) rfl (fun k => by first | rfl | exact hz _ (by decide) _) rfl (by decide +kernel) ?_
  refine ev_putF (P' := tp_41) i34_36 g34_36 (by decide +kernel) (by decide +kernel) (by decide +kernel) (by decide) (by decide) rfl ?_
  refine ev_aloadn_0 i34_39 ?_
  refine ew_iconst i34_40 ?_
  refine ec_putI0 i34_41 g34_41 (by decide +kernel) (by first | rfl | exact hz _ (by decide) _) ?_
  refine ec_ret i34_44 rfl (by decide +kernel) (by decide +kernel) ?_
  exact hK
theorem ct_4 {X : ts_X} {d : Nat} {I : Nat → Nat → Int32} {K : Option Value → ts_H → Prop} (hz : ∀ x, 24 ≤ x → ∀ k, I x k = 0) (hK : K none (I, zzL, tp_42, (ts_S0.take 30))) : ts_Cal X (d + 2) 39 [.ref 24] (I, zzL, tp_30, (ts_S0.take 24)) K := by
  refine ev_enter (lv := [.ref 24]) l39 rfl (Nat.le_of_ble_eq_true rfl) ?_
  refine ev_aloadn_0 i39_0 ?_
  refine ec_obj i39_1 g39_1 (Nat.le_of_ble_eq_true rfl) ?_
  refine ev_aloadn_0 i39_4 ?_
  refine ew_bipush i39_5 (by decide) ?_
  refine ec_arrI (a := 25) (c := 120) (P' := tp_31) (S' := (ts_S0.take 25)) i39_7 (by decide) rfl (by decide) (by decide +kernel) rfl (fun k => by first | rfl | exact hz _ (by decide) _) rfl (by decide +kernel) ?_
  refine ev_putF (P' := tp_32) i39_9 g39_9 (by decide +kernel) (by decide +kernel) (by decide +kernel) (by decide) (by decide) rfl ?_
  refine ev_aloadn_0 i39_12 ?_
  refine ew_iconst i39_13 ?_
  refine ec_putI0 i39_14 g39_14 (by decide +kernel) (by first | rfl | exact hz _ (by decide) _) ?_
  refine ev_aloadn_0 i39_17 ?_
  refine ew_iconst i39_18 ?_
  refine ec_putI0 i39_19 g39_19 (by decide +kernel) (by first | rfl | exact hz _ (by decide) _) ?_
  refine ev_aloadn_0 i39_22 ?_
  refine ec_new (ci := 4) (a := 26) (c := 5) (P' := tp_33) (S' := (ts_S0.take 26)) i39_23 (by decide +kernel) rfl (by decide +kernel) rfl (fun k => by first | rfl | exact hz _ (by decide) _) rfl (by decide +kernel) ?_
  refine ev_dup i39_26 rfl ?_
  refine ec_spec0 (q := 4) i39_27 g39_27 (Or.inr rfl) (by decide) (Nat.le_of_ble_eq_true rfl) (by decide +kernel) (ct_5 ((fun x hx k => by first | exact hz x (by omega) k)) ?_)
  refine ev_putA (P' := tp_42) i39_30 g39_30 (by decide +kernel) (by decide +kernel) (by decide) (by decide) rfl ?_
  refine ec_ret i39_33 rfl (by decide +kernel) (by decide +kernel) ?_
  exact hK
theorem i77_0 : ts_ins 77 0 = some (.aload_n 0, 1, 0) := by decide +kernel
theorem i77_1 : ts_ins 77 1 = some (.invokespecial 3, 4, 0) := by decide +kernel
theorem g77_1 : ts_cal (ts_mc 77) 3 = some (8, 0, 0) := by decide +kernel
theorem i77_4 : ts_ins 77 4 = some (.aload_n 0, 5, 0) := by decide +kernel
theorem i77_5 : ts_ins 77 5 = some (.bipush 16, 7, 0) := by decide +kernel
theorem i77_7 : ts_ins 77 7 = some (.newarray .int, 9, 0) := by decide +kernel
theorem i77_9 : ts_ins 77 9 = some (.putfield 9, 12, 0) := by decide +kernel
theorem g77_9 : ts_fmm 77 9 = some (9, 1, 2, true) := by decide +kernel
theorem i77_12 : ts_ins 77 12 = some (.aload_n 0, 13, 0) := by decide +kernel
theorem i77_13 : ts_ins 77 13 = some (.bipush 6, 15, 0) := by decide +kernel
theorem i77_15 : ts_ins 77 15 = some (.newarray .int, 17, 0) := by decide +kernel
theorem i77_17 : ts_ins 77 17 = some (.putfield 15, 20, 0) := by decide +kernel
theorem g77_17 : ts_fmm 77 15 = some (9, 2, 2, true) := by decide +kernel
theorem i77_20 : ts_ins 77 20 = some (.aload_n 0, 21, 0) := by decide +kernel
theorem i77_21 : ts_ins 77 21 = some (.bipush 8, 23, 0) := by decide +kernel
theorem i77_23 : ts_ins 77 23 = some (.newarray .int, 25, 0) := by decide +kernel
theorem i77_25 : ts_ins 77 25 = some (.putfield 18, 28, 0) := by decide +kernel
theorem g77_25 : ts_fmm 77 18 = some (9, 3, 2, true) := by decide +kernel
theorem i77_28 : ts_ins 77 28 = some (.aload_n 0, 29, 0) := by decide +kernel
theorem i77_29 : ts_ins 77 29 = some (.bipush 6, 31, 0) := by decide +kernel
theorem i77_31 : ts_ins 77 31 = some (.newarray .int, 33, 0) := by decide +kernel
theorem i77_33 : ts_ins 77 33 = some (.putfield 21, 36, 0) := by decide +kernel
theorem g77_33 : ts_fmm 77 21 = some (9, 4, 2, true) := by decide +kernel
theorem i77_36 : ts_ins 77 36 = some (.aload_n 0, 37, 0) := by decide +kernel
theorem i77_37 : ts_ins 77 37 = some (.sipush 480, 40, 0) := by decide +kernel
theorem i77_40 : ts_ins 77 40 = some (.newarray .int, 42, 0) := by decide +kernel
theorem i77_42 : ts_ins 77 42 = some (.putfield 24, 45, 0) := by decide +kernel
theorem g77_42 : ts_fmm 77 24 = some (9, 5, 2, true) := by decide +kernel
theorem i77_45 : ts_ins 77 45 = some (.aload_n 0, 46, 0) := by decide +kernel
theorem i77_46 : ts_ins 77 46 = some (.aload_n 1, 47, 0) := by decide +kernel
theorem i77_47 : ts_ins 77 47 = some (.putfield 27, 50, 0) := by decide +kernel
theorem g77_47 : ts_fmm 77 27 = some (9, 0, 2, true) := by decide +kernel
theorem i77_50 : ts_ins 77 50 = some (.return_, 51, 0) := by decide +kernel
theorem r77 : ts_rt 77 = (none, 5, 516) := by decide +kernel
theorem l77 : ts_ml 77 = 2 := by decide +kernel
theorem ct_6 {X : ts_X} {d : Nat} {I : Nat → Nat → Int32} {K : Option Value → ts_H → Prop} (hz : ∀ x, 31 ≤ x → ∀ k, I x k = 0) (hK : K none (I, zzL, tp_55, (ts_S0.take 36))) : ts_Cal X (d + 1) 77 [.ref 31, .ref 2] (I, zzL, tp_44, (ts_S0.take 31)) K := by
  refine ev_enter (lv := [.ref 31, .ref 2]) l77 rfl (Nat.le_of_ble_eq_true rfl) ?_
  refine ev_aloadn_0 i77_0 ?_
  refine ec_obj i77_1 g77_1 (Nat.le_of_ble_eq_true rfl) ?_
  refine ev_aloadn_0 i77_4 ?_
  refine ew_bipush i77_5 (by decide) ?_
  refine ec_arrI (a := 32) (c := 16) (P' := tp_45) (S' := (ts_S0.take 32)) i77_7 (by decide) rfl (by decide) (by decide +kernel) rfl (fun k => by first | rfl | exact hz _ (by decide) _) rfl (by decide +kernel) ?_
  refine ev_putF (P' := tp_46) i77_9 g77_9 (by decide +kernel) (by decide +kernel) (by decide +kernel) (by decide) (by decide) rfl ?_
  refine ev_aloadn_0 i77_12 ?_
  refine ew_bipush i77_13 (by decide) ?_
  refine ec_arrI (a := 33) (c := 6) (P' := tp_47) (S' := (ts_S0.take 33)) i77_15 (by decide) rfl (by decide) (by decide +kernel) rfl (fun k => by first | rfl | exact hz _ (by decide) _) rfl (by decide +kernel) ?_
  refine ev_putF (P' := tp_48) i77_17 g77_17 (by decide +kernel) (by decide +kernel) (by decide +kernel) (by decide) (by decide) rfl ?_
  refine ev_aloadn_0 i77_20 ?_
  refine ew_bipush i77_21 (by decide) ?_
  refine ec_arrI (a := 34) (c := 8) (P' := tp_49) (S' := (ts_S0.take 34)) i77_23 (by decide) rfl (by decide) (by decide +kernel) rfl (fun k => by first | rfl | exact hz _ (by decide) _) rfl (by decide +kernel) ?_
  refine ev_putF (P' := tp_50) i77_25 g77_25 (by decide +kernel) (by decide +kernel) (by decide +kernel) (by decide) (by decide) rfl ?_
  refine ev_aloadn_0 i77_28 ?_
  refine ew_bipush i77_29 (by decide) ?_
  refine ec_arrI (a := 35) (c := 6) (P' := tp_51) (S' := (ts_S0.take 35)) i77_31 (by decide) rfl (by decide) (by decide +kernel) rfl (fun k => by first | rfl | exact hz _ (by decide) _) rfl (by decide +kernel) ?_
  refine ev_putF (P' := tp_52) i77_33 g77_33 (by decide +kernel) (by decide +kernel) (by decide +kernel) (by decide) (by decide) rfl ?_
  refine ev_aloadn_0 i77_36 ?_
  refine ew_sipush i77_37 (by decide) ?_
  refine ec_arrI (a := 36) (c := 480) (P' := tp_53) (S' := (ts_S0.take 36)) i77_40 (by decide) rfl (by decide) (by decide +kernel) rfl (fun k => by first | rfl | exact hz _ (by decide) _) rfl (by decide +kernel) ?_
  refine ev_putF (P' := tp_54) i77_42 g77_42 (by decide +kernel) (by decide +kernel) (by decide +kernel) (by decide) (by decide) rfl ?_
  refine ev_aloadn_0 i77_45 ?_
  refine ev_aloadn_1 i77_46 ?_
  refine ev_putF (P' := tp_55) i77_47 g77_47 (by decide +kernel) (by decide +kernel) (by decide +kernel) (by decide) (by decide) rfl ?_
  refine ec_ret i77_50 rfl (by decide +kernel) (by decide +kernel) ?_
  exact hK
theorem i50_0 : ts_ins 50 0 = some (.aload_n 0, 1, 0) := by decide +kernel
theorem i50_1 : ts_ins 50 1 = some (.invokespecial 3, 4, 0) := by decide +kernel
theorem g50_1 : ts_cal (ts_mc 50) 3 = some (8, 0, 0) := by decide +kernel
theorem i50_4 : ts_ins 50 4 = some (.aload_n 0, 5, 0) := by decide +kernel
theorem i50_5 : ts_ins 50 5 = some (.bipush 16, 7, 0) := by decide +kernel
theorem i50_7 : ts_ins 50 7 = some (.newarray .int, 9, 0) := by decide +kernel
theorem i50_9 : ts_ins 50 9 = some (.putfield 9, 12, 0) := by decide +kernel
theorem g50_9 : ts_fmm 50 9 = some (6, 1, 2, true) := by decide +kernel
theorem i50_12 : ts_ins 50 12 = some (.aload_n 0, 13, 0) := by decide +kernel
theorem i50_13 : ts_ins 50 13 = some (.bipush 40, 15, 0) := by decide +kernel
theorem i50_15 : ts_ins 50 15 = some (.newarray .int, 17, 0) := by decide +kernel
theorem i50_17 : ts_ins 50 17 = some (.putfield 15, 20, 0) := by decide +kernel
theorem g50_17 : ts_fmm 50 15 = some (6, 2, 2, true) := by decide +kernel
theorem i50_20 : ts_ins 50 20 = some (.aload_n 0, 21, 0) := by decide +kernel
theorem i50_21 : ts_ins 50 21 = some (.iconst 0, 22, 0) := by decide +kernel
theorem i50_22 : ts_ins 50 22 = some (.putfield 18, 25, 0) := by decide +kernel
theorem g50_22 : ts_fmm 50 18 = some (6, 3, 0, false) := by decide +kernel
theorem i50_25 : ts_ins 50 25 = some (.aload_n 0, 26, 0) := by decide +kernel
theorem i50_26 : ts_ins 50 26 = some (.iconst 0, 27, 0) := by decide +kernel
theorem i50_27 : ts_ins 50 27 = some (.putfield 22, 30, 0) := by decide +kernel
theorem g50_27 : ts_fmm 50 22 = some (6, 4, 0, false) := by decide +kernel
theorem i50_30 : ts_ins 50 30 = some (.aload_n 0, 31, 0) := by decide +kernel
theorem i50_31 : ts_ins 50 31 = some (.iconst 0, 32, 0) := by decide +kernel
theorem i50_32 : ts_ins 50 32 = some (.putfield 25, 35, 0) := by decide +kernel
theorem g50_32 : ts_fmm 50 25 = some (6, 5, 0, false) := by decide +kernel
theorem i50_35 : ts_ins 50 35 = some (.aload_n 0, 36, 0) := by decide +kernel
theorem i50_36 : ts_ins 50 36 = some (.bipush (-2), 38, 0) := by decide +kernel
theorem i50_38 : ts_ins 50 38 = some (.putfield 28, 41, 0) := by decide +kernel
theorem g50_38 : ts_fmm 50 28 = some (6, 6, 0, false) := by decide +kernel
theorem i50_41 : ts_ins 50 41 = some (.aload_n 0, 42, 0) := by decide +kernel
theorem i50_42 : ts_ins 50 42 = some (.aload_n 1, 43, 0) := by decide +kernel
theorem i50_43 : ts_ins 50 43 = some (.putfield 31, 46, 0) := by decide +kernel
theorem g50_43 : ts_fmm 50 31 = some (6, 0, 2, true) := by decide +kernel
theorem i50_46 : ts_ins 50 46 = some (.return_, 47, 0) := by decide +kernel
theorem r50 : ts_rt 50 = (none, 2, 56) := by decide +kernel
theorem l50 : ts_ml 50 = 2 := by decide +kernel
theorem ct_7 {X : ts_X} {d : Nat} {I : Nat → Nat → Int32} {K : Option Value → ts_H → Prop} (hz : ∀ x, 37 ≤ x → ∀ k, I x k = 0) (hK : K none ((ts_up I 37 6 (zI (-2))), zzL, tp_62, (ts_S0.take 39))) : ts_Cal X (d + 1) 50 [.ref 37, .ref 2] (I, zzL, tp_57, (ts_S0.take 37)) K := by
  refine ev_enter (lv := [.ref 37, .ref 2]) l50 rfl (Nat.le_of_ble_eq_true rfl) ?_
  refine ev_aloadn_0 i50_0 ?_
  refine ec_obj i50_1 g50_1 (Nat.le_of_ble_eq_true rfl) ?_
  refine ev_aloadn_0 i50_4 ?_
  refine ew_bipush i50_5 (by decide) ?_
  refine ec_arrI (a := 38) (c := 16) (P' := tp_58) (S' := (ts_S0.take 38)) i50_7 (by decide) rfl (by decide) (by decide +kernel) rfl (fun k => by first | rfl | exact hz _ (by decide) _) rfl (by decide +kernel) ?_
  refine ev_putF (P' := tp_59) i50_9 g50_9 (by decide +kernel) (by decide +kernel) (by decide +kernel) (by decide) (by decide) rfl ?_
  refine ev_aloadn_0 i50_12 ?_
  refine ew_bipush i50_13 (by decide) ?_
  refine ec_arrI (a := 39) (c := 40) (P' := tp_60) (S' := (ts_S0.take 39)) i50_15 (by decide) rfl (by decide) (by decide +kernel) rfl (fun k => by first | rfl | exact hz _ (by decide) _) rfl (by decide +kernel) ?_
  refine ev_putF (P' := tp_61) i50_17 g50_17 (by decide +kernel) (by decide +kernel) (by decide +kernel) (by decide) (by decide) rfl ?_
  refine ev_aloadn_0 i50_20 ?_
  refine ew_iconst i50_21 ?_
  refine ec_putI0 i50_22 g50_22 (by decide +kernel) (by first | rfl | exact hz _ (by decide) _) ?_
  refine ev_aloadn_0 i50_25 ?_
  refine ew_iconst i50_26 ?_
  refine ec_putI0 i50_27 g50_27 (by decide +kernel) (by first | rfl | exact hz _ (by decide) _) ?_
  refine ev_aloadn_0 i50_30 ?_
  refine ew_iconst i50_31 ?_
  refine ec_putI0 i50_32 g50_32 (by decide +kernel) (by first | rfl | exact hz _ (by decide) _) ?_
  refine ev_aloadn_0 i50_35 ?_
  refine ew_bipush i50_36 (by decide) ?_
  refine ev_putI i50_38 g50_38 (by decide +kernel) ?_
  refine ev_aloadn_0 i50_41 ?_
  refine ev_aloadn_1 i50_42 ?_
  refine ev_putF (P' := tp_62) i50_43 g50_43 (by decide +kernel) (by decide +kernel) (by decide +kernel) (by decide) (by decide) rfl ?_
  refine ec_ret i50_46 rfl (by decide +kernel) (by decide +kernel) ?_
  exact hK
theorem i68_0 : ts_ins 68 0 = some (.aload_n 0, 1, 0) := by decide +kernel
theorem i68_1 : ts_ins 68 1 = some (.invokespecial 3, 4, 0) := by decide +kernel
theorem g68_1 : ts_cal (ts_mc 68) 3 = some (8, 0, 0) := by decide +kernel
theorem i68_4 : ts_ins 68 4 = some (.aload_n 0, 5, 0) := by decide +kernel
theorem i68_5 : ts_ins 68 5 = some (.bipush 6, 7, 0) := by decide +kernel
theorem i68_7 : ts_ins 68 7 = some (.newarray .int, 9, 0) := by decide +kernel
theorem i68_9 : ts_ins 68 9 = some (.putfield 9, 12, 0) := by decide +kernel
theorem g68_9 : ts_fmm 68 9 = some (8, 1, 2, true) := by decide +kernel
theorem i68_12 : ts_ins 68 12 = some (.aload_n 0, 13, 0) := by decide +kernel
theorem i68_13 : ts_ins 68 13 = some (.iconst 0, 14, 0) := by decide +kernel
theorem i68_14 : ts_ins 68 14 = some (.putfield 15, 17, 0) := by decide +kernel
theorem g68_14 : ts_fmm 68 15 = some (8, 2, 0, false) := by decide +kernel
theorem i68_17 : ts_ins 68 17 = some (.aload_n 0, 18, 0) := by decide +kernel
theorem i68_18 : ts_ins 68 18 = some (.aload_n 1, 19, 0) := by decide +kernel
theorem i68_19 : ts_ins 68 19 = some (.putfield 19, 22, 0) := by decide +kernel
theorem g68_19 : ts_fmm 68 19 = some (8, 0, 2, true) := by decide +kernel
theorem i68_22 : ts_ins 68 22 = some (.return_, 23, 0) := by decide +kernel
theorem r68 : ts_rt 68 = (none, 1, 6) := by decide +kernel
theorem l68 : ts_ml 68 = 2 := by decide +kernel
theorem ct_8 {X : ts_X} {d : Nat} {I : Nat → Nat → Int32} {K : Option Value → ts_H → Prop} (hz : ∀ x, 40 ≤ x → ∀ k, I x k = 0) (hK : K none (I, zzL, tp_67, (ts_S0.take 41))) : ts_Cal X (d + 1) 68 [.ref 40, .ref 2] (I, zzL, tp_64, (ts_S0.take 40)) K := by
  refine ev_enter (lv := [.ref 40, .ref 2]) l68 rfl (Nat.le_of_ble_eq_true rfl) ?_
  refine ev_aloadn_0 i68_0 ?_
  refine ec_obj i68_1 g68_1 (Nat.le_of_ble_eq_true rfl) ?_
  refine ev_aloadn_0 i68_4 ?_
  refine ew_bipush i68_5 (by decide) ?_
  refine ec_arrI (a := 41) (c := 6) (P' := tp_65) (S' := (ts_S0.take 41)) i68_7 (by decide) rfl (by decide) (by decide +kernel) rfl (fun k => by first | rfl | exact hz _ (by decide) _) rfl (by decide +kernel) ?_
  refine ev_putF (P' := tp_66) i68_9 g68_9 (by decide +kernel) (by decide +kernel) (by decide +kernel) (by decide) (by decide) rfl ?_
  refine ev_aloadn_0 i68_12 ?_
  refine ew_iconst i68_13 ?_
  refine ec_putI0 i68_14 g68_14 (by decide +kernel) (by first | rfl | exact hz _ (by decide) _) ?_
  refine ev_aloadn_0 i68_17 ?_
  refine ev_aloadn_1 i68_18 ?_
  refine ev_putF (P' := tp_67) i68_19 g68_19 (by decide +kernel) (by decide +kernel) (by decide +kernel) (by decide) (by decide) rfl ?_
  refine ec_ret i68_22 rfl (by decide +kernel) (by decide +kernel) ?_
  exact hK
theorem i84_0 : ts_ins 84 0 = some (.aload_n 0, 1, 0) := by decide +kernel
theorem i84_1 : ts_ins 84 1 = some (.invokespecial 3, 4, 0) := by decide +kernel
theorem g84_1 : ts_cal (ts_mc 84) 3 = some (8, 0, 0) := by decide +kernel
theorem i84_4 : ts_ins 84 4 = some (.aload_n 0, 5, 0) := by decide +kernel
theorem i84_5 : ts_ins 84 5 = some (.bipush 16, 7, 0) := by decide +kernel
theorem i84_7 : ts_ins 84 7 = some (.newarray .int, 9, 0) := by decide +kernel
theorem i84_9 : ts_ins 84 9 = some (.putfield 9, 12, 0) := by decide +kernel
theorem g84_9 : ts_fmm 84 9 = some (10, 1, 2, true) := by decide +kernel
theorem i84_12 : ts_ins 84 12 = some (.aload_n 0, 13, 0) := by decide +kernel
theorem i84_13 : ts_ins 84 13 = some (.iconst 0, 14, 0) := by decide +kernel
theorem i84_14 : ts_ins 84 14 = some (.putfield 15, 17, 0) := by decide +kernel
theorem g84_14 : ts_fmm 84 15 = some (10, 2, 0, false) := by decide +kernel
theorem i84_17 : ts_ins 84 17 = some (.aload_n 0, 18, 0) := by decide +kernel
theorem i84_18 : ts_ins 84 18 = some (.bipush 16, 20, 0) := by decide +kernel
theorem i84_20 : ts_ins 84 20 = some (.putfield 19, 23, 0) := by decide +kernel
theorem g84_20 : ts_fmm 84 19 = some (10, 3, 0, false) := by decide +kernel
theorem i84_23 : ts_ins 84 23 = some (.aload_n 0, 24, 0) := by decide +kernel
theorem i84_24 : ts_ins 84 24 = some (.aload_n 1, 25, 0) := by decide +kernel
theorem i84_25 : ts_ins 84 25 = some (.putfield 22, 28, 0) := by decide +kernel
theorem g84_25 : ts_fmm 84 22 = some (10, 0, 2, true) := by decide +kernel
theorem i84_28 : ts_ins 84 28 = some (.return_, 29, 0) := by decide +kernel
theorem r84 : ts_rt 84 = (none, 1, 16) := by decide +kernel
theorem l84 : ts_ml 84 = 2 := by decide +kernel
theorem ct_9 {X : ts_X} {d : Nat} {I : Nat → Nat → Int32} {K : Option Value → ts_H → Prop} (hz : ∀ x, 42 ≤ x → ∀ k, I x k = 0) (hK : K none ((ts_up I 42 3 (zI (16))), zzL, tp_72, (ts_S0.take 43))) : ts_Cal X (d + 1) 84 [.ref 42, .ref 2] (I, zzL, tp_69, (ts_S0.take 42)) K := by
  refine ev_enter (lv := [.ref 42, .ref 2]) l84 rfl (Nat.le_of_ble_eq_true rfl) ?_
  refine ev_aloadn_0 i84_0 ?_
  refine ec_obj i84_1 g84_1 (Nat.le_of_ble_eq_true rfl) ?_
  refine ev_aloadn_0 i84_4 ?_
  refine ew_bipush i84_5 (by decide) ?_
  refine ec_arrI (a := 43) (c := 16) (P' := tp_70) (S' := (ts_S0.take 43)) i84_7 (by decide) rfl (by decide) (by decide +kernel) rfl (fun k => by first | rfl | exact hz _ (by decide) _) rfl (by decide +kernel) ?_
  refine ev_putF (P' := tp_71) i84_9 g84_9 (by decide +kernel) (by decide +kernel) (by decide +kernel) (by decide) (by decide) rfl ?_
  refine ev_aloadn_0 i84_12 ?_
  refine ew_iconst i84_13 ?_
  refine ec_putI0 i84_14 g84_14 (by decide +kernel) (by first | rfl | exact hz _ (by decide) _) ?_
  refine ev_aloadn_0 i84_17 ?_
  refine ew_bipush i84_18 (by decide) ?_
  refine ev_putI i84_20 g84_20 (by decide +kernel) ?_
  refine ev_aloadn_0 i84_23 ?_
  refine ev_aloadn_1 i84_24 ?_
  refine ev_putF (P' := tp_72) i84_25 g84_25 (by decide +kernel) (by decide +kernel) (by decide +kernel) (by decide) (by decide) rfl ?_
  refine ec_ret i84_28 rfl (by decide +kernel) (by decide +kernel) ?_
  exact hK
theorem i3_0 : ts_ins 3 0 = some (.aload_n 0, 1, 0) := by decide +kernel
theorem i3_1 : ts_ins 3 1 = some (.invokespecial 1, 4, 0) := by decide +kernel
theorem g3_1 : ts_cal (ts_mc 3) 1 = some (8, 0, 0) := by decide +kernel
theorem i3_4 : ts_ins 3 4 = some (.aload_n 0, 5, 0) := by decide +kernel
theorem i3_5 : ts_ins 3 5 = some (.iconst 5, 6, 0) := by decide +kernel
theorem i3_6 : ts_ins 3 6 = some (.newarray .int, 8, 0) := by decide +kernel
theorem i3_8 : ts_ins 3 8 = some (.putfield 9, 11, 0) := by decide +kernel
theorem g3_8 : ts_fmm 3 9 = some (1, 0, 2, true) := by decide +kernel
theorem i3_11 : ts_ins 3 11 = some (.aload_n 0, 12, 0) := by decide +kernel
theorem i3_12 : ts_ins 3 12 = some (.bipush 6, 14, 0) := by decide +kernel
theorem i3_14 : ts_ins 3 14 = some (.newarray .int, 16, 0) := by decide +kernel
theorem i3_16 : ts_ins 3 16 = some (.putfield 13, 19, 0) := by decide +kernel
theorem g3_16 : ts_fmm 3 13 = some (1, 1, 2, true) := by decide +kernel
theorem i3_19 : ts_ins 3 19 = some (.return_, 20, 0) := by decide +kernel
theorem r3 : ts_rt 3 = (none, 2, 11) := by decide +kernel
theorem l3 : ts_ml 3 = 1 := by decide +kernel
theorem ct_10 {X : ts_X} {d : Nat} {I : Nat → Nat → Int32} {K : Option Value → ts_H → Prop} (hz : ∀ x, 44 ≤ x → ∀ k, I x k = 0) (hK : K none (I, zzL, tp_78, (ts_S0.take 46))) : ts_Cal X (d + 1) 3 [.ref 44] (I, zzL, tp_74, (ts_S0.take 44)) K := by
  refine ev_enter (lv := [.ref 44]) l3 rfl (Nat.le_of_ble_eq_true rfl) ?_
  refine ev_aloadn_0 i3_0 ?_
  refine ec_obj i3_1 g3_1 (Nat.le_of_ble_eq_true rfl) ?_
  refine ev_aloadn_0 i3_4 ?_
  refine ew_iconst i3_5 ?_
  refine ec_arrI (a := 45) (c := 5) (P' := tp_75) (S' := (ts_S0.take 45)) i3_6 (by decide) rfl (by decide) (by decide +kernel) rfl (fun k => by first | rfl | exact hz _ (by decide) _) rfl (by decide +kernel) ?_
  refine ev_putF (P' := tp_76) i3_8 g3_8 (by decide +kernel) (by decide +kernel) (by decide +kernel) (by decide) (by decide) rfl ?_
  refine ev_aloadn_0 i3_11 ?_
  refine ew_bipush i3_12 (by decide) ?_
  refine ec_arrI (a := 46) (c := 6) (P' := tp_77) (S' := (ts_S0.take 46)) i3_14 (by decide) rfl (by decide) (by decide +kernel) rfl (fun k => by first | rfl | exact hz _ (by decide) _) rfl (by decide +kernel) ?_
  refine ev_putF (P' := tp_78) i3_16 g3_16 (by decide +kernel) (by decide +kernel) (by decide +kernel) (by decide) (by decide) rfl ?_
  refine ec_ret i3_19 rfl (by decide +kernel) (by decide +kernel) ?_
  exact hK
theorem ct_11 {X : ts_X} {d : Nat} {I : Nat → Nat → Int32} {K : Option Value → ts_H → Prop} (hz : ∀ x, 47 ≤ x → ∀ k, I x k = 0) (hK : K none (I, zzL, tp_84, (ts_S0.take 49))) : ts_Cal X (d + 1) 3 [.ref 47] (I, zzL, tp_80, (ts_S0.take 47)) K := by
  refine ev_enter (lv := [.ref 47]) l3 rfl (Nat.le_of_ble_eq_true rfl) ?_
  refine ev_aloadn_0 i3_0 ?_
  refine ec_obj i3_1 g3_1 (Nat.le_of_ble_eq_true rfl) ?_
  refine ev_aloadn_0 i3_4 ?_
  refine ew_iconst i3_5 ?_
  refine ec_arrI (a := 48) (c := 5) (P' := tp_81) (S' := (ts_S0.take 48)) i3_6 (by decide) rfl (by decide) (by decide +kernel) rfl (fun k => by first | rfl | exact hz _ (by decide) _) rfl (by decide +kernel) ?_
  refine ev_putF (P' := tp_82) i3_8 g3_8 (by decide +kernel) (by decide +kernel) (by decide +kernel) (by decide) (by decide) rfl ?_
  refine ev_aloadn_0 i3_11 ?_
  refine ew_bipush i3_12 (by decide) ?_
  refine ec_arrI (a := 49) (c := 6) (P' := tp_83) (S' := (ts_S0.take 49)) i3_14 (by decide) rfl (by decide) (by decide +kernel) rfl (fun k => by first | rfl | exact hz _ (by decide) _) rfl (by decide +kernel) ?_
  refine ev_putF (P' := tp_84) i3_16 g3_16 (by decide +kernel) (by decide +kernel) (by decide +kernel) (by decide) (by decide) rfl ?_
  refine ec_ret i3_19 rfl (by decide +kernel) (by decide +kernel) ?_
  exact hK
theorem i0_0 : ts_ins 0 0 = some (.aload_n 0, 1, 0) := by decide +kernel
theorem i0_1 : ts_ins 0 1 = some (.invokespecial 3, 4, 0) := by decide +kernel
theorem g0_1 : ts_cal (ts_mc 0) 3 = some (8, 0, 0) := by decide +kernel
theorem i0_4 : ts_ins 0 4 = some (.aload_n 0, 5, 0) := by decide +kernel
theorem i0_5 : ts_ins 0 5 = some (.bipush 40, 7, 0) := by decide +kernel
theorem i0_7 : ts_ins 0 7 = some (.newarray .int, 9, 0) := by decide +kernel
theorem i0_9 : ts_ins 0 9 = some (.putfield 9, 12, 0) := by decide +kernel
theorem g0_9 : ts_fmm 0 9 = some (0, 0, 2, true) := by decide +kernel
theorem i0_12 : ts_ins 0 12 = some (.aload_n 0, 13, 0) := by decide +kernel
theorem i0_13 : ts_ins 0 13 = some (.bipush 40, 15, 0) := by decide +kernel
theorem i0_15 : ts_ins 0 15 = some (.newarray .int, 17, 0) := by decide +kernel
theorem i0_17 : ts_ins 0 17 = some (.putfield 15, 20, 0) := by decide +kernel
theorem g0_17 : ts_fmm 0 15 = some (0, 1, 2, true) := by decide +kernel
theorem i0_20 : ts_ins 0 20 = some (.aload_n 0, 21, 0) := by decide +kernel
theorem i0_21 : ts_ins 0 21 = some (.bipush 40, 23, 0) := by decide +kernel
theorem i0_23 : ts_ins 0 23 = some (.newarray .int, 25, 0) := by decide +kernel
theorem i0_25 : ts_ins 0 25 = some (.putfield 18, 28, 0) := by decide +kernel
theorem g0_25 : ts_fmm 0 18 = some (0, 2, 2, true) := by decide +kernel
theorem i0_28 : ts_ins 0 28 = some (.aload_n 0, 29, 0) := by decide +kernel
theorem i0_29 : ts_ins 0 29 = some (.bipush 40, 31, 0) := by decide +kernel
theorem i0_31 : ts_ins 0 31 = some (.newarray .int, 33, 0) := by decide +kernel
theorem i0_33 : ts_ins 0 33 = some (.putfield 21, 36, 0) := by decide +kernel
theorem g0_33 : ts_fmm 0 21 = some (0, 3, 2, true) := by decide +kernel
theorem i0_36 : ts_ins 0 36 = some (.aload_n 0, 37, 0) := by decide +kernel
theorem i0_37 : ts_ins 0 37 = some (.iconst 0, 38, 0) := by decide +kernel
theorem i0_38 : ts_ins 0 38 = some (.putfield 24, 41, 0) := by decide +kernel
theorem g0_38 : ts_fmm 0 24 = some (0, 4, 0, false) := by decide +kernel
theorem i0_41 : ts_ins 0 41 = some (.aload_n 0, 42, 0) := by decide +kernel
theorem i0_42 : ts_ins 0 42 = some (.iconst 0, 43, 0) := by decide +kernel
theorem i0_43 : ts_ins 0 43 = some (.putfield 28, 46, 0) := by decide +kernel
theorem g0_43 : ts_fmm 0 28 = some (0, 5, 0, false) := by decide +kernel
theorem i0_46 : ts_ins 0 46 = some (.return_, 47, 0) := by decide +kernel
theorem r0 : ts_rt 0 = (none, 4, 160) := by decide +kernel
theorem l0 : ts_ml 0 = 1 := by decide +kernel
theorem ct_12 {X : ts_X} {d : Nat} {I : Nat → Nat → Int32} {K : Option Value → ts_H → Prop} (hz : ∀ x, 51 ≤ x → ∀ k, I x k = 0) (hK : K none (I, zzL, tp_96, (ts_S0.take 55))) : ts_Cal X (d + 1) 0 [.ref 51] (I, zzL, tp_88, (ts_S0.take 51)) K := by
  refine ev_enter (lv := [.ref 51]) l0 rfl (Nat.le_of_ble_eq_true rfl) ?_
  refine ev_aloadn_0 i0_0 ?_
  refine ec_obj i0_1 g0_1 (Nat.le_of_ble_eq_true rfl) ?_
  refine ev_aloadn_0 i0_4 ?_
  refine ew_bipush i0_5 (by decide) ?_
  refine ec_arrI (a := 52) (c := 40) (P' := tp_89) (S' := (ts_S0.take 52)) i0_7 (by decide) rfl (by decide) (by decide +kernel) rfl (fun k => by first | rfl | exact hz _ (by decide) _) rfl (by decide +kernel) ?_
  refine ev_putF (P' := tp_90) i0_9 g0_9 (by decide +kernel) (by decide +kernel) (by decide +kernel) (by decide) (by decide) rfl ?_
  refine ev_aloadn_0 i0_12 ?_
  refine ew_bipush i0_13 (by decide) ?_
  refine ec_arrI (a := 53) (c := 40) (P' := tp_91) (S' := (ts_S0.take 53)) i0_15 (by decide) rfl (by decide) (by decide +kernel) rfl (fun k => by first | rfl | exact hz _ (by decide) _) rfl (by decide +kernel) ?_
  refine ev_putF (P' := tp_92) i0_17 g0_17 (by decide +kernel) (by decide +kernel) (by decide +kernel) (by decide) (by decide) rfl ?_
  refine ev_aloadn_0 i0_20 ?_
  refine ew_bipush i0_21 (by decide) ?_
  refine ec_arrI (a := 54) (c := 40) (P' := tp_93) (S' := (ts_S0.take 54)) i0_23 (by decide) rfl (by decide) (by decide +kernel) rfl (fun k => by first | rfl | exact hz _ (by decide) _) rfl (by decide +kernel) ?_
  refine ev_putF (P' := tp_94) i0_25 g0_25 (by decide +kernel) (by decide +kernel) (by decide +kernel) (by decide) (by decide) rfl ?_
  refine ev_aloadn_0 i0_28 ?_
  refine ew_bipush i0_29 (by decide) ?_
  refine ec_arrI (a := 55) (c := 40) (P' := tp_95) (S' := (ts_S0.take 55)) i0_31 (by decide) rfl (by decide) (by decide +kernel) rfl (fun k => by first | rfl | exact hz _ (by decide) _) rfl (by decide +kernel) ?_
  refine ev_putF (P' := tp_96) i0_33 g0_33 (by decide +kernel) (by decide +kernel) (by decide +kernel) (by decide) (by decide) rfl ?_
  refine ev_aloadn_0 i0_36 ?_
  refine ew_iconst i0_37 ?_
  refine ec_putI0 i0_38 g0_38 (by decide +kernel) (by first | rfl | exact hz _ (by decide) _) ?_
  refine ev_aloadn_0 i0_41 ?_
  refine ew_iconst i0_42 ?_
  refine ec_putI0 i0_43 g0_43 (by decide +kernel) (by first | rfl | exact hz _ (by decide) _) ?_
  refine ec_ret i0_46 rfl (by decide +kernel) (by decide +kernel) ?_
  exact hK
theorem i7_0 : ts_ins 7 0 = some (.aload_n 0, 1, 0) := by decide +kernel
theorem i7_1 : ts_ins 7 1 = some (.invokespecial 3, 4, 0) := by decide +kernel
theorem g7_1 : ts_cal (ts_mc 7) 3 = some (8, 0, 0) := by decide +kernel
theorem i7_4 : ts_ins 7 4 = some (.aload_n 0, 5, 0) := by decide +kernel
theorem i7_5 : ts_ins 7 5 = some (.bipush 50, 7, 0) := by decide +kernel
theorem i7_7 : ts_ins 7 7 = some (.newarray .int, 9, 0) := by decide +kernel
theorem i7_9 : ts_ins 7 9 = some (.putfield 9, 12, 0) := by decide +kernel
theorem g7_9 : ts_fmm 7 9 = some (2, 0, 2, true) := by decide +kernel
theorem i7_12 : ts_ins 7 12 = some (.aload_n 0, 13, 0) := by decide +kernel
theorem i7_13 : ts_ins 7 13 = some (.bipush 24, 15, 0) := by decide +kernel
theorem i7_15 : ts_ins 7 15 = some (.newarray .int, 17, 0) := by decide +kernel
theorem i7_17 : ts_ins 7 17 = some (.putfield 15, 20, 0) := by decide +kernel
theorem g7_17 : ts_fmm 7 15 = some (2, 1, 2, true) := by decide +kernel
theorem i7_20 : ts_ins 7 20 = some (.aload_n 0, 21, 0) := by decide +kernel
theorem i7_21 : ts_ins 7 21 = some (.iconst 0, 22, 0) := by decide +kernel
theorem i7_22 : ts_ins 7 22 = some (.putfield 18, 25, 0) := by decide +kernel
theorem g7_22 : ts_fmm 7 18 = some (2, 2, 0, false) := by decide +kernel
theorem i7_25 : ts_ins 7 25 = some (.aload_n 0, 26, 0) := by decide +kernel
theorem i7_26 : ts_ins 7 26 = some (.iconst 0, 27, 0) := by decide +kernel
theorem i7_27 : ts_ins 7 27 = some (.putfield 22, 30, 0) := by decide +kernel
theorem g7_27 : ts_fmm 7 22 = some (2, 3, 0, false) := by decide +kernel
theorem i7_30 : ts_ins 7 30 = some (.aload_n 0, 31, 0) := by decide +kernel
theorem i7_31 : ts_ins 7 31 = some (.iconst 0, 32, 0) := by decide +kernel
theorem i7_32 : ts_ins 7 32 = some (.putfield 25, 35, 0) := by decide +kernel
theorem g7_32 : ts_fmm 7 25 = some (2, 4, 0, false) := by decide +kernel
theorem i7_35 : ts_ins 7 35 = some (.return_, 36, 0) := by decide +kernel
theorem r7 : ts_rt 7 = (none, 2, 74) := by decide +kernel
theorem l7 : ts_ml 7 = 1 := by decide +kernel
theorem ct_13 {X : ts_X} {d : Nat} {I : Nat → Nat → Int32} {K : Option Value → ts_H → Prop} (hz : ∀ x, 56 ≤ x → ∀ k, I x k = 0) (hK : K none (I, zzL, tp_102, (ts_S0.take 58))) : ts_Cal X (d + 1) 7 [.ref 56] (I, zzL, tp_98, (ts_S0.take 56)) K := by
  refine ev_enter (lv := [.ref 56]) l7 rfl (Nat.le_of_ble_eq_true rfl) ?_
  refine ev_aloadn_0 i7_0 ?_
  refine ec_obj i7_1 g7_1 (Nat.le_of_ble_eq_true rfl) ?_
  refine ev_aloadn_0 i7_4 ?_
  refine ew_bipush i7_5 (by decide) ?_
  refine ec_arrI (a := 57) (c := 50) (P' := tp_99) (S' := (ts_S0.take 57)) i7_7 (by decide) rfl (by decide) (by decide +kernel) rfl (fun k => by first | rfl | exact hz _ (by decide) _) rfl (by decide +kernel) ?_
  refine ev_putF (P' := tp_100) i7_9 g7_9 (by decide +kernel) (by decide +kernel) (by decide +kernel) (by decide) (by decide) rfl ?_
  refine ev_aloadn_0 i7_12 ?_
  refine ew_bipush i7_13 (by decide) ?_
  refine ec_arrI (a := 58) (c := 24) (P' := tp_101) (S' := (ts_S0.take 58)) i7_15 (by decide) rfl (by decide) (by decide +kernel) rfl (fun k => by first | rfl | exact hz _ (by decide) _) rfl (by decide +kernel) ?_
  refine ev_putF (P' := tp_102) i7_17 g7_17 (by decide +kernel) (by decide +kernel) (by decide +kernel) (by decide) (by decide) rfl ?_
  refine ev_aloadn_0 i7_20 ?_
  refine ew_iconst i7_21 ?_
  refine ec_putI0 i7_22 g7_22 (by decide +kernel) (by first | rfl | exact hz _ (by decide) _) ?_
  refine ev_aloadn_0 i7_25 ?_
  refine ew_iconst i7_26 ?_
  refine ec_putI0 i7_27 g7_27 (by decide +kernel) (by first | rfl | exact hz _ (by decide) _) ?_
  refine ev_aloadn_0 i7_30 ?_
  refine ew_iconst i7_31 ?_
  refine ec_putI0 i7_32 g7_32 (by decide +kernel) (by first | rfl | exact hz _ (by decide) _) ?_
  refine ec_ret i7_35 rfl (by decide +kernel) (by decide +kernel) ?_
  exact hK
theorem i56_0 : ts_ins 56 0 = some (.aload_n 0, 1, 0) := by decide +kernel
theorem i56_1 : ts_ins 56 1 = some (.invokespecial 3, 4, 0) := by decide +kernel
theorem g56_1 : ts_cal (ts_mc 56) 3 = some (8, 0, 0) := by decide +kernel
theorem i56_4 : ts_ins 56 4 = some (.aload_n 0, 5, 0) := by decide +kernel
theorem i56_5 : ts_ins 56 5 = some (.bipush 60, 7, 0) := by decide +kernel
theorem i56_7 : ts_ins 56 7 = some (.newarray .long, 9, 0) := by decide +kernel
theorem i56_9 : ts_ins 56 9 = some (.putfield 9, 12, 0) := by decide +kernel
theorem g56_9 : ts_fmm 56 9 = some (7, 0, 2, true) := by decide +kernel
theorem i56_12 : ts_ins 56 12 = some (.aload_n 0, 13, 0) := by decide +kernel
theorem i56_13 : ts_ins 56 13 = some (.iconst 0, 14, 0) := by decide +kernel
theorem i56_14 : ts_ins 56 14 = some (.putfield 15, 17, 0) := by decide +kernel
theorem g56_14 : ts_fmm 56 15 = some (7, 1, 0, false) := by decide +kernel
theorem i56_17 : ts_ins 56 17 = some (.aload_n 0, 18, 0) := by decide +kernel
theorem i56_18 : ts_ins 56 18 = some (.iconst 0, 19, 0) := by decide +kernel
theorem i56_19 : ts_ins 56 19 = some (.putfield 19, 22, 0) := by decide +kernel
theorem g56_19 : ts_fmm 56 19 = some (7, 2, 0, false) := by decide +kernel
theorem i56_22 : ts_ins 56 22 = some (.aload_n 0, 23, 0) := by decide +kernel
theorem i56_23 : ts_ins 56 23 = some (.iconst 0, 24, 0) := by decide +kernel
theorem i56_24 : ts_ins 56 24 = some (.putfield 22, 27, 0) := by decide +kernel
theorem g56_24 : ts_fmm 56 22 = some (7, 3, 0, false) := by decide +kernel
theorem i56_27 : ts_ins 56 27 = some (.aload_n 0, 28, 0) := by decide +kernel
theorem i56_28 : ts_ins 56 28 = some (.iconst 0, 29, 0) := by decide +kernel
theorem i56_29 : ts_ins 56 29 = some (.putfield 25, 32, 0) := by decide +kernel
theorem g56_29 : ts_fmm 56 25 = some (7, 4, 0, false) := by decide +kernel
theorem i56_32 : ts_ins 56 32 = some (.return_, 33, 0) := by decide +kernel
theorem r56 : ts_rt 56 = (none, 1, 60) := by decide +kernel
theorem l56 : ts_ml 56 = 1 := by decide +kernel
theorem ct_14 {X : ts_X} {d : Nat} {I : Nat → Nat → Int32} {K : Option Value → ts_H → Prop} (hz : ∀ x, 60 ≤ x → ∀ k, I x k = 0) (hK : K none (I, zzL, tp_108, (ts_S0.take 61))) : ts_Cal X (d + 1) 56 [.ref 60] (I, zzL, tp_106, (ts_S0.take 60)) K := by
  refine ev_enter (lv := [.ref 60]) l56 rfl (Nat.le_of_ble_eq_true rfl) ?_
  refine ev_aloadn_0 i56_0 ?_
  refine ec_obj i56_1 g56_1 (Nat.le_of_ble_eq_true rfl) ?_
  refine ev_aloadn_0 i56_4 ?_
  refine ew_bipush i56_5 (by decide) ?_
  refine ec_arrL (a := 61) (c := 60) (P' := tp_107) (S' := (ts_S0.take 61)) i56_7 (by decide) rfl (by decide) (by decide +kernel) rfl (fun k => by first | rfl | exact hz _ (by decide) _) rfl (by decide +kernel) ?_
  refine ev_putF (P' := tp_108) i56_9 g56_9 (by decide +kernel) (by decide +kernel) (by decide +kernel) (by decide) (by decide) rfl ?_
  refine ev_aloadn_0 i56_12 ?_
  refine ew_iconst i56_13 ?_
  refine ec_putI0 i56_14 g56_14 (by decide +kernel) (by first | rfl | exact hz _ (by decide) _) ?_
  refine ev_aloadn_0 i56_17 ?_
  refine ew_iconst i56_18 ?_
  refine ec_putI0 i56_19 g56_19 (by decide +kernel) (by first | rfl | exact hz _ (by decide) _) ?_
  refine ev_aloadn_0 i56_22 ?_
  refine ew_iconst i56_23 ?_
  refine ec_putI0 i56_24 g56_24 (by decide +kernel) (by first | rfl | exact hz _ (by decide) _) ?_
  refine ev_aloadn_0 i56_27 ?_
  refine ew_iconst i56_28 ?_
  refine ec_putI0 i56_29 g56_29 (by decide +kernel) (by first | rfl | exact hz _ (by decide) _) ?_
  refine ec_ret i56_32 rfl (by decide +kernel) (by decide +kernel) ?_
  exact hK
theorem ct_15 {X : ts_X} {d : Nat} {I : Nat → Nat → Int32} {K : Option Value → ts_H → Prop} (hz : ∀ x, 62 ≤ x → ∀ k, I x k = 0) (hK : K none (I, zzL, tp_112, (ts_S0.take 63))) : ts_Cal X (d + 1) 56 [.ref 62] (I, zzL, tp_110, (ts_S0.take 62)) K := by
  refine ev_enter (lv := [.ref 62]) l56 rfl (Nat.le_of_ble_eq_true rfl) ?_
  refine ev_aloadn_0 i56_0 ?_
  refine ec_obj i56_1 g56_1 (Nat.le_of_ble_eq_true rfl) ?_
  refine ev_aloadn_0 i56_4 ?_
  refine ew_bipush i56_5 (by decide) ?_
  refine ec_arrL (a := 63) (c := 60) (P' := tp_111) (S' := (ts_S0.take 63)) i56_7 (by decide) rfl (by decide) (by decide +kernel) rfl (fun k => by first | rfl | exact hz _ (by decide) _) rfl (by decide +kernel) ?_
  refine ev_putF (P' := tp_112) i56_9 g56_9 (by decide +kernel) (by decide +kernel) (by decide +kernel) (by decide) (by decide) rfl ?_
  refine ev_aloadn_0 i56_12 ?_
  refine ew_iconst i56_13 ?_
  refine ec_putI0 i56_14 g56_14 (by decide +kernel) (by first | rfl | exact hz _ (by decide) _) ?_
  refine ev_aloadn_0 i56_17 ?_
  refine ew_iconst i56_18 ?_
  refine ec_putI0 i56_19 g56_19 (by decide +kernel) (by first | rfl | exact hz _ (by decide) _) ?_
  refine ev_aloadn_0 i56_22 ?_
  refine ew_iconst i56_23 ?_
  refine ec_putI0 i56_24 g56_24 (by decide +kernel) (by first | rfl | exact hz _ (by decide) _) ?_
  refine ev_aloadn_0 i56_27 ?_
  refine ew_iconst i56_28 ?_
  refine ec_putI0 i56_29 g56_29 (by decide +kernel) (by first | rfl | exact hz _ (by decide) _) ?_
  refine ec_ret i56_32 rfl (by decide +kernel) (by decide +kernel) ?_
  exact hK
theorem ct_16 {X : ts_X} {d : Nat} {I : Nat → Nat → Int32} {K : Option Value → ts_H → Prop} (hz : ∀ x, 64 ≤ x → ∀ k, I x k = 0) (hK : K none (I, zzL, tp_116, (ts_S0.take 65))) : ts_Cal X (d + 1) 56 [.ref 64] (I, zzL, tp_114, (ts_S0.take 64)) K := by
  refine ev_enter (lv := [.ref 64]) l56 rfl (Nat.le_of_ble_eq_true rfl) ?_
  refine ev_aloadn_0 i56_0 ?_
  refine ec_obj i56_1 g56_1 (Nat.le_of_ble_eq_true rfl) ?_
  refine ev_aloadn_0 i56_4 ?_
  refine ew_bipush i56_5 (by decide) ?_
  refine ec_arrL (a := 65) (c := 60) (P' := tp_115) (S' := (ts_S0.take 65)) i56_7 (by decide) rfl (by decide) (by decide +kernel) rfl (fun k => by first | rfl | exact hz _ (by decide) _) rfl (by decide +kernel) ?_
  refine ev_putF (P' := tp_116) i56_9 g56_9 (by decide +kernel) (by decide +kernel) (by decide +kernel) (by decide) (by decide) rfl ?_
  refine ev_aloadn_0 i56_12 ?_
  refine ew_iconst i56_13 ?_
  refine ec_putI0 i56_14 g56_14 (by decide +kernel) (by first | rfl | exact hz _ (by decide) _) ?_
  refine ev_aloadn_0 i56_17 ?_
  refine ew_iconst i56_18 ?_
  refine ec_putI0 i56_19 g56_19 (by decide +kernel) (by first | rfl | exact hz _ (by decide) _) ?_
  refine ev_aloadn_0 i56_22 ?_
  refine ew_iconst i56_23 ?_
  refine ec_putI0 i56_24 g56_24 (by decide +kernel) (by first | rfl | exact hz _ (by decide) _) ?_
  refine ev_aloadn_0 i56_27 ?_
  refine ew_iconst i56_28 ?_
  refine ec_putI0 i56_29 g56_29 (by decide +kernel) (by first | rfl | exact hz _ (by decide) _) ?_
  refine ec_ret i56_32 rfl (by decide +kernel) (by decide +kernel) ?_
  exact hK
theorem ct_17 {X : ts_X} {d : Nat} {I : Nat → Nat → Int32} {K : Option Value → ts_H → Prop} (hz : ∀ x, 66 ≤ x → ∀ k, I x k = 0) (hK : K none (I, zzL, tp_120, (ts_S0.take 67))) : ts_Cal X (d + 1) 56 [.ref 66] (I, zzL, tp_118, (ts_S0.take 66)) K := by
  refine ev_enter (lv := [.ref 66]) l56 rfl (Nat.le_of_ble_eq_true rfl) ?_
  refine ev_aloadn_0 i56_0 ?_
  refine ec_obj i56_1 g56_1 (Nat.le_of_ble_eq_true rfl) ?_
  refine ev_aloadn_0 i56_4 ?_
  refine ew_bipush i56_5 (by decide) ?_
  refine ec_arrL (a := 67) (c := 60) (P' := tp_119) (S' := (ts_S0.take 67)) i56_7 (by decide) rfl (by decide) (by decide +kernel) rfl (fun k => by first | rfl | exact hz _ (by decide) _) rfl (by decide +kernel) ?_
  refine ev_putF (P' := tp_120) i56_9 g56_9 (by decide +kernel) (by decide +kernel) (by decide +kernel) (by decide) (by decide) rfl ?_
  refine ev_aloadn_0 i56_12 ?_
  refine ew_iconst i56_13 ?_
  refine ec_putI0 i56_14 g56_14 (by decide +kernel) (by first | rfl | exact hz _ (by decide) _) ?_
  refine ev_aloadn_0 i56_17 ?_
  refine ew_iconst i56_18 ?_
  refine ec_putI0 i56_19 g56_19 (by decide +kernel) (by first | rfl | exact hz _ (by decide) _) ?_
  refine ev_aloadn_0 i56_22 ?_
  refine ew_iconst i56_23 ?_
  refine ec_putI0 i56_24 g56_24 (by decide +kernel) (by first | rfl | exact hz _ (by decide) _) ?_
  refine ev_aloadn_0 i56_27 ?_
  refine ew_iconst i56_28 ?_
  refine ec_putI0 i56_29 g56_29 (by decide +kernel) (by first | rfl | exact hz _ (by decide) _) ?_
  refine ec_ret i56_32 rfl (by decide +kernel) (by decide +kernel) ?_
  exact hK
theorem ct_18 {X : ts_X} {d : Nat} {I : Nat → Nat → Int32} {K : Option Value → ts_H → Prop} (hz : ∀ x, 68 ≤ x → ∀ k, I x k = 0) (hK : K none (I, zzL, tp_124, (ts_S0.take 69))) : ts_Cal X (d + 1) 56 [.ref 68] (I, zzL, tp_122, (ts_S0.take 68)) K := by
  refine ev_enter (lv := [.ref 68]) l56 rfl (Nat.le_of_ble_eq_true rfl) ?_
  refine ev_aloadn_0 i56_0 ?_
  refine ec_obj i56_1 g56_1 (Nat.le_of_ble_eq_true rfl) ?_
  refine ev_aloadn_0 i56_4 ?_
  refine ew_bipush i56_5 (by decide) ?_
  refine ec_arrL (a := 69) (c := 60) (P' := tp_123) (S' := (ts_S0.take 69)) i56_7 (by decide) rfl (by decide) (by decide +kernel) rfl (fun k => by first | rfl | exact hz _ (by decide) _) rfl (by decide +kernel) ?_
  refine ev_putF (P' := tp_124) i56_9 g56_9 (by decide +kernel) (by decide +kernel) (by decide +kernel) (by decide) (by decide) rfl ?_
  refine ev_aloadn_0 i56_12 ?_
  refine ew_iconst i56_13 ?_
  refine ec_putI0 i56_14 g56_14 (by decide +kernel) (by first | rfl | exact hz _ (by decide) _) ?_
  refine ev_aloadn_0 i56_17 ?_
  refine ew_iconst i56_18 ?_
  refine ec_putI0 i56_19 g56_19 (by decide +kernel) (by first | rfl | exact hz _ (by decide) _) ?_
  refine ev_aloadn_0 i56_22 ?_
  refine ew_iconst i56_23 ?_
  refine ec_putI0 i56_24 g56_24 (by decide +kernel) (by first | rfl | exact hz _ (by decide) _) ?_
  refine ev_aloadn_0 i56_27 ?_
  refine ew_iconst i56_28 ?_
  refine ec_putI0 i56_29 g56_29 (by decide +kernel) (by first | rfl | exact hz _ (by decide) _) ?_
  refine ec_ret i56_32 rfl (by decide +kernel) (by decide +kernel) ?_
  exact hK
theorem ct_19 {X : ts_X} {d : Nat} {I : Nat → Nat → Int32} {K : Option Value → ts_H → Prop} (hz : ∀ x, 70 ≤ x → ∀ k, I x k = 0) (hK : K none (I, zzL, tp_128, (ts_S0.take 71))) : ts_Cal X (d + 1) 56 [.ref 70] (I, zzL, tp_126, (ts_S0.take 70)) K := by
  refine ev_enter (lv := [.ref 70]) l56 rfl (Nat.le_of_ble_eq_true rfl) ?_
  refine ev_aloadn_0 i56_0 ?_
  refine ec_obj i56_1 g56_1 (Nat.le_of_ble_eq_true rfl) ?_
  refine ev_aloadn_0 i56_4 ?_
  refine ew_bipush i56_5 (by decide) ?_
  refine ec_arrL (a := 71) (c := 60) (P' := tp_127) (S' := (ts_S0.take 71)) i56_7 (by decide) rfl (by decide) (by decide +kernel) rfl (fun k => by first | rfl | exact hz _ (by decide) _) rfl (by decide +kernel) ?_
  refine ev_putF (P' := tp_128) i56_9 g56_9 (by decide +kernel) (by decide +kernel) (by decide +kernel) (by decide) (by decide) rfl ?_
  refine ev_aloadn_0 i56_12 ?_
  refine ew_iconst i56_13 ?_
  refine ec_putI0 i56_14 g56_14 (by decide +kernel) (by first | rfl | exact hz _ (by decide) _) ?_
  refine ev_aloadn_0 i56_17 ?_
  refine ew_iconst i56_18 ?_
  refine ec_putI0 i56_19 g56_19 (by decide +kernel) (by first | rfl | exact hz _ (by decide) _) ?_
  refine ev_aloadn_0 i56_22 ?_
  refine ew_iconst i56_23 ?_
  refine ec_putI0 i56_24 g56_24 (by decide +kernel) (by first | rfl | exact hz _ (by decide) _) ?_
  refine ev_aloadn_0 i56_27 ?_
  refine ew_iconst i56_28 ?_
  refine ec_putI0 i56_29 g56_29 (by decide +kernel) (by first | rfl | exact hz _ (by decide) _) ?_
  refine ec_ret i56_32 rfl (by decide +kernel) (by decide +kernel) ?_
  exact hK
theorem ct_1 {X : ts_X} {d : Nat} {I : Nat → Nat → Int32} {K : Option Value → ts_H → Prop} (hz : ∀ x, 1 ≤ x → ∀ k, I x k = 0) (hK : K none ((ts_up (ts_up I 37 6 (zI (-2))) 42 3 (zI (16))), zzL, tp_129, (ts_S0.take 71))) : ts_Cal X (d + 3) 93 [.ref 1] (I, zzL, tp_1, (ts_S0.take 1)) K := by
  refine ev_enter (lv := [.ref 1, .null]) l93 rfl (Nat.le_of_ble_eq_true rfl) ?_
  refine ev_aloadn_0 i93_0 ?_
  refine ec_obj i93_1 g93_1 (Nat.le_of_ble_eq_true rfl) ?_
  refine ev_aloadn_0 i93_4 ?_
  refine ec_new (ci := 3) (a := 2) (c := 13) (P' := tp_2) (S' := (ts_S0.take 2)) i93_5 (by decide +kernel) rfl (by decide +kernel) rfl (fun k => by first | rfl | exact hz _ (by decide) _) rfl (by decide +kernel) ?_
  refine ev_dup i93_8 rfl ?_
  refine ec_spec0 (q := 4) i93_9 g93_9 (Or.inr rfl) (by decide) (Nat.le_of_ble_eq_true rfl) (by decide +kernel) (ct_2 ((fun x hx k => by first | exact hz x (by omega) k)) ?_)
  refine ev_putF (P' := tp_29) i93_12 g93_12 (by decide +kernel) (by decide +kernel) (by decide +kernel) (by decide) (by decide) rfl ?_
  refine ev_aloadn_0 i93_15 ?_
  refine ec_new (ci := 5) (a := 24) (c := 4) (P' := tp_30) (S' := (ts_S0.take 24)) i93_16 (by decide +kernel) rfl (by decide +kernel) rfl (fun k => by first | rfl | exact hz _ (by decide) _) rfl (by decide +kernel) ?_
  refine ev_dup i93_19 rfl ?_
  refine ec_spec0 (q := 4) i93_20 g93_20 (Or.inr rfl) (by decide) (Nat.le_of_ble_eq_true rfl) (by decide +kernel) (ct_4 ((fun x hx k => by first | exact hz x (by omega) k)) ?_)
  refine ev_putF (P' := tp_43) i93_23 g93_23 (by decide +kernel) (by decide +kernel) (by decide +kernel) (by decide) (by decide) rfl ?_
  refine ev_aloadn_0 i93_26 ?_
  refine ec_new (ci := 9) (a := 31) (c := 6) (P' := tp_44) (S' := (ts_S0.take 31)) i93_27 (by decide +kernel) rfl (by decide +kernel) rfl (fun k => by first | rfl | exact hz _ (by decide) _) rfl (by decide +kernel) ?_
  refine ev_dup i93_30 rfl ?_
  refine ev_aloadn_0 i93_31 ?_
  refine ev_getA (q := 2) i93_32 g93_32 (by decide +kernel) (by decide +kernel) (by decide) ?_
  refine ec_spec1 (q := 2) i93_35 g93_35 (Or.inl rfl) (by decide) (Nat.le_of_ble_eq_true rfl) (by decide +kernel) (ct_6 ((fun x hx k => by first | exact hz x (by omega) k)) ?_)
  refine ev_putF (P' := tp_56) i93_38 g93_38 (by decide +kernel) (by decide +kernel) (by decide +kernel) (by decide) (by decide) rfl ?_
  refine ev_aloadn_0 i93_41 ?_
  refine ec_new (ci := 6) (a := 37) (c := 7) (P' := tp_57) (S' := (ts_S0.take 37)) i93_42 (by decide +kernel) rfl (by decide +kernel) rfl (fun k => by first | rfl | exact hz _ (by decide) _) rfl (by decide +kernel) ?_
  refine ev_dup i93_45 rfl ?_
  refine ev_aloadn_0 i93_46 ?_
  refine ev_getA (q := 2) i93_47 g93_47 (by decide +kernel) (by decide +kernel) (by decide) ?_
  refine ec_spec1 (q := 2) i93_50 g93_50 (Or.inl rfl) (by decide) (Nat.le_of_ble_eq_true rfl) (by decide +kernel) (ct_7 ((fun x hx k => by first | exact hz x (by omega) k)) ?_)
  refine ev_putF (P' := tp_63) i93_53 g93_53 (by decide +kernel) (by decide +kernel) (by decide +kernel) (by decide) (by decide) rfl ?_
  refine ev_aloadn_0 i93_56 ?_
  refine ec_new (ci := 8) (a := 40) (c := 3) (P' := tp_64) (S' := (ts_S0.take 40)) i93_57 (by decide +kernel) rfl (by decide +kernel) rfl (fun k => by first | rfl | exact hz _ (by decide) _ | (rw [ts_up_na (by decide)]; exact hz _ (by decide) _)) rfl (by decide +kernel) ?_
  refine ev_dup i93_60 rfl ?_
  refine ev_aloadn_0 i93_61 ?_
  refine ev_getA (q := 2) i93_62 g93_62 (by decide +kernel) (by decide +kernel) (by decide) ?_
  refine ec_spec1 (q := 2) i93_65 g93_65 (Or.inl rfl) (by decide) (Nat.le_of_ble_eq_true rfl) (by decide +kernel) (ct_8 ((fun x hx k => by first | exact hz x (by omega) k | (rw [ts_up_na (by omega)]; exact hz x (by omega) k))) ?_)
  refine ev_putF (P' := tp_68) i93_68 g93_68 (by decide +kernel) (by decide +kernel) (by decide +kernel) (by decide) (by decide) rfl ?_
  refine ev_aloadn_0 i93_71 ?_
  refine ec_new (ci := 10) (a := 42) (c := 4) (P' := tp_69) (S' := (ts_S0.take 42)) i93_72 (by decide +kernel) rfl (by decide +kernel) rfl (fun k => by first | rfl | exact hz _ (by decide) _ | (rw [ts_up_na (by decide)]; exact hz _ (by decide) _)) rfl (by decide +kernel) ?_
  refine ev_dup i93_75 rfl ?_
  refine ev_aloadn_0 i93_76 ?_
  refine ev_getA (q := 2) i93_77 g93_77 (by decide +kernel) (by decide +kernel) (by decide) ?_
  refine ec_spec1 (q := 2) i93_80 g93_80 (Or.inl rfl) (by decide) (Nat.le_of_ble_eq_true rfl) (by decide +kernel) (ct_9 ((fun x hx k => by first | exact hz x (by omega) k | (rw [ts_up_na (by omega)]; exact hz x (by omega) k))) ?_)
  refine ev_putF (P' := tp_73) i93_83 g93_83 (by decide +kernel) (by decide +kernel) (by decide +kernel) (by decide) (by decide) rfl ?_
  refine ev_aloadn_0 i93_86 ?_
  refine ec_new (ci := 1) (a := 44) (c := 2) (P' := tp_74) (S' := (ts_S0.take 44)) i93_87 (by decide +kernel) rfl (by decide +kernel) rfl (fun k => by first | rfl | exact hz _ (by decide) _ | (rw [ts_up_na (by decide)]; exact hz _ (by decide) _) | (rw [ts_up_na (by decide), ts_up_na (by decide)]; exact hz _ (by decide) _)) rfl (by decide +kernel) ?_
  refine ev_dup i93_90 rfl ?_
  refine ec_spec0 (q := 4) i93_91 g93_91 (Or.inr rfl) (by decide) (Nat.le_of_ble_eq_true rfl) (by decide +kernel) (ct_10 ((fun x hx k => by first | exact hz x (by omega) k | (rw [ts_up_na (by omega)]; exact hz x (by omega) k) | (rw [ts_up_na (by omega), ts_up_na (by omega)]; exact hz x (by omega) k))) ?_)
  refine ev_putF (P' := tp_79) i93_94 g93_94 (by decide +kernel) (by decide +kernel) (by decide +kernel) (by decide) (by decide) rfl ?_
  refine ev_aloadn_0 i93_97 ?_
  refine ec_new (ci := 1) (a := 47) (c := 2) (P' := tp_80) (S' := (ts_S0.take 47)) i93_98 (by decide +kernel) rfl (by decide +kernel) rfl (fun k => by first | rfl | exact hz _ (by decide) _ | (rw [ts_up_na (by decide)]; exact hz _ (by decide) _) | (rw [ts_up_na (by decide), ts_up_na (by decide)]; exact hz _ (by decide) _)) rfl (by decide +kernel) ?_
  refine ev_dup i93_101 rfl ?_
  refine ec_spec0 (q := 4) i93_102 g93_102 (Or.inr rfl) (by decide) (Nat.le_of_ble_eq_true rfl) (by decide +kernel) (ct_11 ((fun x hx k => by first | exact hz x (by omega) k | (rw [ts_up_na (by omega)]; exact hz x (by omega) k) | (rw [ts_up_na (by omega), ts_up_na (by omega)]; exact hz x (by omega) k))) ?_)
  refine ev_putF (P' := tp_85) i93_105 g93_105 (by decide +kernel) (by decide +kernel) (by decide +kernel) (by decide) (by decide) rfl ?_
  refine ev_aloadn_0 i93_108 ?_
  refine ew_bipush i93_109 (by decide) ?_
  refine ec_arrI (a := 50) (c := 16) (P' := tp_86) (S' := (ts_S0.take 50)) i93_111 (by decide) rfl (by decide) (by decide +kernel) rfl (fun k => by first | rfl | exact hz _ (by decide) _ | (rw [ts_up_na (by decide)]; exact hz _ (by decide) _) | (rw [ts_up_na (by decide), ts_up_na (by decide)]; exact hz _ (by decide) _)) rfl (by decide +kernel) ?_
  refine ev_putF (P' := tp_87) i93_113 g93_113 (by decide +kernel) (by decide +kernel) (by decide +kernel) (by decide) (by decide) rfl ?_
  refine ev_aloadn_0 i93_116 ?_
  refine ew_iconst i93_117 ?_
  refine ec_putZ0 i93_118 g93_118 (by decide +kernel) (by first | rfl | exact hz _ (by decide) _ | (rw [ts_up_na (by decide)]; exact hz _ (by decide) _) | (rw [ts_up_na (by decide), ts_up_na (by decide)]; exact hz _ (by decide) _)) ?_
  refine ev_aloadn_0 i93_121 ?_
  refine ec_new (ci := 0) (a := 51) (c := 6) (P' := tp_88) (S' := (ts_S0.take 51)) i93_122 (by decide +kernel) rfl (by decide +kernel) rfl (fun k => by first | rfl | exact hz _ (by decide) _ | (rw [ts_up_na (by decide)]; exact hz _ (by decide) _) | (rw [ts_up_na (by decide), ts_up_na (by decide)]; exact hz _ (by decide) _)) rfl (by decide +kernel) ?_
  refine ev_dup i93_125 rfl ?_
  refine ec_spec0 (q := 4) i93_126 g93_126 (Or.inr rfl) (by decide) (Nat.le_of_ble_eq_true rfl) (by decide +kernel) (ct_12 ((fun x hx k => by first | exact hz x (by omega) k | (rw [ts_up_na (by omega)]; exact hz x (by omega) k) | (rw [ts_up_na (by omega), ts_up_na (by omega)]; exact hz x (by omega) k))) ?_)
  refine ev_putF (P' := tp_97) i93_129 g93_129 (by decide +kernel) (by decide +kernel) (by decide +kernel) (by decide) (by decide) rfl ?_
  refine ev_aloadn_0 i93_132 ?_
  refine ec_new (ci := 2) (a := 56) (c := 5) (P' := tp_98) (S' := (ts_S0.take 56)) i93_133 (by decide +kernel) rfl (by decide +kernel) rfl (fun k => by first | rfl | exact hz _ (by decide) _ | (rw [ts_up_na (by decide)]; exact hz _ (by decide) _) | (rw [ts_up_na (by decide), ts_up_na (by decide)]; exact hz _ (by decide) _)) rfl (by decide +kernel) ?_
  refine ev_dup i93_136 rfl ?_
  refine ec_spec0 (q := 4) i93_137 g93_137 (Or.inr rfl) (by decide) (Nat.le_of_ble_eq_true rfl) (by decide +kernel) (ct_13 ((fun x hx k => by first | exact hz x (by omega) k | (rw [ts_up_na (by omega)]; exact hz x (by omega) k) | (rw [ts_up_na (by omega), ts_up_na (by omega)]; exact hz x (by omega) k))) ?_)
  refine ev_putF (P' := tp_103) i93_140 g93_140 (by decide +kernel) (by decide +kernel) (by decide +kernel) (by decide) (by decide) rfl ?_
  refine ev_aloadn_0 i93_143 ?_
  refine ew_bipush i93_144 (by decide) ?_
  refine ec_anew (a := 59) (c := 6) (P' := tp_104) (S' := (ts_S0.take 59)) i93_146 rfl (by decide) rfl (by decide) (by decide +kernel) (by decide +kernel) rfl (fun k => by first | rfl | exact hz _ (by decide) _ | (rw [ts_up_na (by decide)]; exact hz _ (by decide) _) | (rw [ts_up_na (by decide), ts_up_na (by decide)]; exact hz _ (by decide) _)) rfl (by decide +kernel) ?_
  refine ev_putF (P' := tp_105) i93_149 g93_149 (by decide +kernel) (by decide +kernel) (by decide +kernel) (by decide) (by decide) rfl ?_
  refine ew_iconst i93_152 ?_
  refine ev_istoren_1 i93_153 rfl ?_
  refine ev_iloadn_1 i93_154 ?_
  refine ew_bipush i93_155 (by decide) ?_
  refine ew_icmpge i93_157 (by omega) (fun cq => absurd cq (by omega)) (fun cq => ?_)
  refine ev_aloadn_0 i93_160 ?_
  refine ev_getA (q := 59) i93_161 g93_161 (by decide +kernel) (by decide +kernel) (by decide) ?_
  refine ev_iloadn_1 i93_164 ?_
  refine ec_new (ci := 7) (a := 60) (c := 5) (P' := tp_106) (S' := (ts_S0.take 60)) i93_165 (by decide +kernel) rfl (by decide +kernel) rfl (fun k => by first | rfl | exact hz _ (by decide) _ | (rw [ts_up_na (by decide)]; exact hz _ (by decide) _) | (rw [ts_up_na (by decide), ts_up_na (by decide)]; exact hz _ (by decide) _)) rfl (by decide +kernel) ?_
  refine ev_dup i93_168 rfl ?_
  refine ec_spec0 (q := 4) i93_169 g93_169 (Or.inr rfl) (by decide) (Nat.le_of_ble_eq_true rfl) (by decide +kernel) (ct_14 ((fun x hx k => by first | exact hz x (by omega) k | (rw [ts_up_na (by omega)]; exact hz x (by omega) k) | (rw [ts_up_na (by omega), ts_up_na (by omega)]; exact hz x (by omega) k))) ?_)
  refine ev_aastore (n := 6) (P' := tp_109) i93_172 (by decide +kernel) (by decide +kernel) (by decide +kernel) (zI_in (by omega) (by omega) (by omega)) (by decide +kernel) ?_
  refine ew_iinc_1 i93_173 rfl ?_
  refine ev_goto i93_176 ?_
  refine ev_iloadn_1 i93_154 ?_
  refine ew_bipush i93_155 (by decide) ?_
  refine ew_icmpge i93_157 (by omega) (fun cq => absurd cq (by omega)) (fun cq => ?_)
  refine ev_aloadn_0 i93_160 ?_
  refine ev_getA (q := 59) i93_161 g93_161 (by decide +kernel) (by decide +kernel) (by decide) ?_
  refine ev_iloadn_1 i93_164 ?_
  refine ec_new (ci := 7) (a := 62) (c := 5) (P' := tp_110) (S' := (ts_S0.take 62)) i93_165 (by decide +kernel) rfl (by decide +kernel) rfl (fun k => by first | rfl | exact hz _ (by decide) _ | (rw [ts_up_na (by decide)]; exact hz _ (by decide) _) | (rw [ts_up_na (by decide), ts_up_na (by decide)]; exact hz _ (by decide) _)) rfl (by decide +kernel) ?_
  refine ev_dup i93_168 rfl ?_
  refine ec_spec0 (q := 4) i93_169 g93_169 (Or.inr rfl) (by decide) (Nat.le_of_ble_eq_true rfl) (by decide +kernel) (ct_15 ((fun x hx k => by first | exact hz x (by omega) k | (rw [ts_up_na (by omega)]; exact hz x (by omega) k) | (rw [ts_up_na (by omega), ts_up_na (by omega)]; exact hz x (by omega) k))) ?_)
  refine ev_aastore (n := 6) (P' := tp_113) i93_172 (by decide +kernel) (by decide +kernel) (by decide +kernel) (zI_in (by omega) (by omega) (by omega)) (by decide +kernel) ?_
  refine ew_iinc_1 i93_173 rfl ?_
  refine ev_goto i93_176 ?_
  refine ev_iloadn_1 i93_154 ?_
  refine ew_bipush i93_155 (by decide) ?_
  refine ew_icmpge i93_157 (by omega) (fun cq => absurd cq (by omega)) (fun cq => ?_)
  refine ev_aloadn_0 i93_160 ?_
  refine ev_getA (q := 59) i93_161 g93_161 (by decide +kernel) (by decide +kernel) (by decide) ?_
  refine ev_iloadn_1 i93_164 ?_
  refine ec_new (ci := 7) (a := 64) (c := 5) (P' := tp_114) (S' := (ts_S0.take 64)) i93_165 (by decide +kernel) rfl (by decide +kernel) rfl (fun k => by first | rfl | exact hz _ (by decide) _ | (rw [ts_up_na (by decide)]; exact hz _ (by decide) _) | (rw [ts_up_na (by decide), ts_up_na (by decide)]; exact hz _ (by decide) _)) rfl (by decide +kernel) ?_
  refine ev_dup i93_168 rfl ?_
  refine ec_spec0 (q := 4) i93_169 g93_169 (Or.inr rfl) (by decide) (Nat.le_of_ble_eq_true rfl) (by decide +kernel) (ct_16 ((fun x hx k => by first | exact hz x (by omega) k | (rw [ts_up_na (by omega)]; exact hz x (by omega) k) | (rw [ts_up_na (by omega), ts_up_na (by omega)]; exact hz x (by omega) k))) ?_)
  refine ev_aastore (n := 6) (P' := tp_117) i93_172 (by decide +kernel) (by decide +kernel) (by decide +kernel) (zI_in (by omega) (by omega) (by omega)) (by decide +kernel) ?_
  refine ew_iinc_1 i93_173 rfl ?_
  refine ev_goto i93_176 ?_
  refine ev_iloadn_1 i93_154 ?_
  refine ew_bipush i93_155 (by decide) ?_
  refine ew_icmpge i93_157 (by omega) (fun cq => absurd cq (by omega)) (fun cq => ?_)
  refine ev_aloadn_0 i93_160 ?_
  refine ev_getA (q := 59) i93_161 g93_161 (by decide +kernel) (by decide +kernel) (by decide) ?_
  refine ev_iloadn_1 i93_164 ?_
  refine ec_new (ci := 7) (a := 66) (c := 5) (P' := tp_118) (S' := (ts_S0.take 66)) i93_165 (by decide +kernel) rfl (by decide +kernel) rfl (fun k => by first | rfl | exact hz _ (by decide) _ | (rw [ts_up_na (by decide)]; exact hz _ (by decide) _) | (rw [ts_up_na (by decide), ts_up_na (by decide)]; exact hz _ (by decide) _)) rfl (by decide +kernel) ?_
  refine ev_dup i93_168 rfl ?_
  refine ec_spec0 (q := 4) i93_169 g93_169 (Or.inr rfl) (by decide) (Nat.le_of_ble_eq_true rfl) (by decide +kernel) (ct_17 ((fun x hx k => by first | exact hz x (by omega) k | (rw [ts_up_na (by omega)]; exact hz x (by omega) k) | (rw [ts_up_na (by omega), ts_up_na (by omega)]; exact hz x (by omega) k))) ?_)
  refine ev_aastore (n := 6) (P' := tp_121) i93_172 (by decide +kernel) (by decide +kernel) (by decide +kernel) (zI_in (by omega) (by omega) (by omega)) (by decide +kernel) ?_
  refine ew_iinc_1 i93_173 rfl ?_
  refine ev_goto i93_176 ?_
  refine ev_iloadn_1 i93_154 ?_
  refine ew_bipush i93_155 (by decide) ?_
  refine ew_icmpge i93_157 (by omega) (fun cq => absurd cq (by omega)) (fun cq => ?_)
  refine ev_aloadn_0 i93_160 ?_
  refine ev_getA (q := 59) i93_161 g93_161 (by decide +kernel) (by decide +kernel) (by decide) ?_
  refine ev_iloadn_1 i93_164 ?_
  refine ec_new (ci := 7) (a := 68) (c := 5) (P' := tp_122) (S' := (ts_S0.take 68)) i93_165 (by decide +kernel) rfl (by decide +kernel) rfl (fun k => by first | rfl | exact hz _ (by decide) _ | (rw [ts_up_na (by decide)]; exact hz _ (by decide) _) | (rw [ts_up_na (by decide), ts_up_na (by decide)]; exact hz _ (by decide) _)) rfl (by decide +kernel) ?_
  refine ev_dup i93_168 rfl ?_
  refine ec_spec0 (q := 4) i93_169 g93_169 (Or.inr rfl) (by decide) (Nat.le_of_ble_eq_true rfl) (by decide +kernel) (ct_18 ((fun x hx k => by first | exact hz x (by omega) k | (rw [ts_up_na (by omega)]; exact hz x (by omega) k) | (rw [ts_up_na (by omega), ts_up_na (by omega)]; exact hz x (by omega) k))) ?_)
  refine ev_aastore (n := 6) (P' := tp_125) i93_172 (by decide +kernel) (by decide +kernel) (by decide +kernel) (zI_in (by omega) (by omega) (by omega)) (by decide +kernel) ?_
  refine ew_iinc_1 i93_173 rfl ?_
  refine ev_goto i93_176 ?_
  refine ev_iloadn_1 i93_154 ?_
  refine ew_bipush i93_155 (by decide) ?_
  refine ew_icmpge i93_157 (by omega) (fun cq => absurd cq (by omega)) (fun cq => ?_)
  refine ev_aloadn_0 i93_160 ?_
  refine ev_getA (q := 59) i93_161 g93_161 (by decide +kernel) (by decide +kernel) (by decide) ?_
  refine ev_iloadn_1 i93_164 ?_
  refine ec_new (ci := 7) (a := 70) (c := 5) (P' := tp_126) (S' := (ts_S0.take 70)) i93_165 (by decide +kernel) rfl (by decide +kernel) rfl (fun k => by first | rfl | exact hz _ (by decide) _ | (rw [ts_up_na (by decide)]; exact hz _ (by decide) _) | (rw [ts_up_na (by decide), ts_up_na (by decide)]; exact hz _ (by decide) _)) rfl (by decide +kernel) ?_
  refine ev_dup i93_168 rfl ?_
  refine ec_spec0 (q := 4) i93_169 g93_169 (Or.inr rfl) (by decide) (Nat.le_of_ble_eq_true rfl) (by decide +kernel) (ct_19 ((fun x hx k => by first | exact hz x (by omega) k | (rw [ts_up_na (by omega)]; exact hz x (by omega) k) | (rw [ts_up_na (by omega), ts_up_na (by omega)]; exact hz x (by omega) k))) ?_)
  refine ev_aastore (n := 6) (P' := tp_129) i93_172 (by decide +kernel) (by decide +kernel) (by decide +kernel) (zI_in (by omega) (by omega) (by omega)) (by decide +kernel) ?_
  refine ew_iinc_1 i93_173 rfl ?_
  refine ev_goto i93_176 ?_
  refine ev_iloadn_1 i93_154 ?_
  refine ew_bipush i93_155 (by decide) ?_
  refine ew_icmpge i93_157 (by omega) (fun cq => ?_) (fun cq => absurd cq (by omega))
  refine ec_ret i93_179 rfl (by decide +kernel) (by decide +kernel) ?_
  exact hK
theorem i144_0 : ts_ins 144 0 = some (.aload_n 0, 1, 0) := by decide +kernel
theorem i144_1 : ts_ins 144 1 = some (.invokespecial 3, 4, 0) := by decide +kernel
theorem g144_1 : ts_cal (ts_mc 144) 3 = some (8, 0, 0) := by decide +kernel
theorem i144_4 : ts_ins 144 4 = some (.aload_n 0, 5, 0) := by decide +kernel
theorem i144_5 : ts_ins 144 5 = some (.bipush 97, 7, 0) := by decide +kernel
theorem i144_7 : ts_ins 144 7 = some (.newarray .int, 9, 0) := by decide +kernel
theorem i144_9 : ts_ins 144 9 = some (.putfield 9, 12, 0) := by decide +kernel
theorem g144_9 : ts_fmm 144 9 = some (12, 0, 2, true) := by decide +kernel
theorem i144_12 : ts_ins 144 12 = some (.aload_n 0, 13, 0) := by decide +kernel
theorem i144_13 : ts_ins 144 13 = some (.bipush 40, 15, 0) := by decide +kernel
theorem i144_15 : ts_ins 144 15 = some (.newarray .int, 17, 0) := by decide +kernel
theorem i144_17 : ts_ins 144 17 = some (.putfield 13, 20, 0) := by decide +kernel
theorem g144_17 : ts_fmm 144 13 = some (12, 1, 2, true) := by decide +kernel
theorem i144_20 : ts_ins 144 20 = some (.aload_n 0, 21, 0) := by decide +kernel
theorem i144_21 : ts_ins 144 21 = some (.bipush 40, 23, 0) := by decide +kernel
theorem i144_23 : ts_ins 144 23 = some (.newarray .int, 25, 0) := by decide +kernel
theorem i144_25 : ts_ins 144 25 = some (.putfield 16, 28, 0) := by decide +kernel
theorem g144_25 : ts_fmm 144 16 = some (12, 2, 2, true) := by decide +kernel
theorem i144_28 : ts_ins 144 28 = some (.aload_n 0, 29, 0) := by decide +kernel
theorem i144_29 : ts_ins 144 29 = some (.bipush 40, 31, 0) := by decide +kernel
theorem i144_31 : ts_ins 144 31 = some (.newarray .int, 33, 0) := by decide +kernel
theorem i144_33 : ts_ins 144 33 = some (.putfield 19, 36, 0) := by decide +kernel
theorem g144_33 : ts_fmm 144 19 = some (12, 3, 2, true) := by decide +kernel
theorem i144_36 : ts_ins 144 36 = some (.aload_n 0, 37, 0) := by decide +kernel
theorem i144_37 : ts_ins 144 37 = some (.bipush 8, 39, 0) := by decide +kernel
theorem i144_39 : ts_ins 144 39 = some (.newarray .int, 41, 0) := by decide +kernel
theorem i144_41 : ts_ins 144 41 = some (.putfield 22, 44, 0) := by decide +kernel
theorem g144_41 : ts_fmm 144 22 = some (12, 8, 2, true) := by decide +kernel
theorem i144_44 : ts_ins 144 44 = some (.aload_n 0, 45, 0) := by decide +kernel
theorem i144_45 : ts_ins 144 45 = some (.bipush 120, 47, 0) := by decide +kernel
theorem i144_47 : ts_ins 144 47 = some (.newarray .int, 49, 0) := by decide +kernel
theorem i144_49 : ts_ins 144 49 = some (.putfield 25, 52, 0) := by decide +kernel
theorem g144_49 : ts_fmm 144 25 = some (12, 9, 2, true) := by decide +kernel
theorem i144_52 : ts_ins 144 52 = some (.aload_n 0, 53, 0) := by decide +kernel
theorem i144_53 : ts_ins 144 53 = some (.bipush 120, 55, 0) := by decide +kernel
theorem i144_55 : ts_ins 144 55 = some (.newarray .int, 57, 0) := by decide +kernel
theorem i144_57 : ts_ins 144 57 = some (.putfield 28, 60, 0) := by decide +kernel
theorem g144_57 : ts_fmm 144 28 = some (12, 11, 2, true) := by decide +kernel
theorem i144_60 : ts_ins 144 60 = some (.aload_n 0, 61, 0) := by decide +kernel
theorem i144_61 : ts_ins 144 61 = some (.bipush 6, 63, 0) := by decide +kernel
theorem i144_63 : ts_ins 144 63 = some (.newarray .int, 65, 0) := by decide +kernel
theorem i144_65 : ts_ins 144 65 = some (.putfield 31, 68, 0) := by decide +kernel
theorem g144_65 : ts_fmm 144 31 = some (12, 18, 2, true) := by decide +kernel
theorem i144_68 : ts_ins 144 68 = some (.aload_n 0, 69, 0) := by decide +kernel
theorem i144_69 : ts_ins 144 69 = some (.bipush 16, 71, 0) := by decide +kernel
theorem i144_71 : ts_ins 144 71 = some (.newarray .int, 73, 0) := by decide +kernel
theorem i144_73 : ts_ins 144 73 = some (.putfield 34, 76, 0) := by decide +kernel
theorem g144_73 : ts_fmm 144 34 = some (12, 19, 2, true) := by decide +kernel
theorem i144_76 : ts_ins 144 76 = some (.aload_n 0, 77, 0) := by decide +kernel
theorem i144_77 : ts_ins 144 77 = some (.bipush 40, 79, 0) := by decide +kernel
theorem i144_79 : ts_ins 144 79 = some (.newarray .int, 81, 0) := by decide +kernel
theorem i144_81 : ts_ins 144 81 = some (.putfield 37, 84, 0) := by decide +kernel
theorem g144_81 : ts_fmm 144 37 = some (12, 20, 2, true) := by decide +kernel
theorem i144_84 : ts_ins 144 84 = some (.aload_n 0, 85, 0) := by decide +kernel
theorem i144_85 : ts_ins 144 85 = some (.bipush 41, 87, 0) := by decide +kernel
theorem i144_87 : ts_ins 144 87 = some (.newarray .int, 89, 0) := by decide +kernel
theorem i144_89 : ts_ins 144 89 = some (.putfield 40, 92, 0) := by decide +kernel
theorem g144_89 : ts_fmm 144 40 = some (12, 21, 2, true) := by decide +kernel
theorem i144_92 : ts_ins 144 92 = some (.aload_n 0, 93, 0) := by decide +kernel
theorem i144_93 : ts_ins 144 93 = some (.bipush 6, 95, 0) := by decide +kernel
theorem i144_95 : ts_ins 144 95 = some (.newarray .int, 97, 0) := by decide +kernel
theorem i144_97 : ts_ins 144 97 = some (.putfield 43, 100, 0) := by decide +kernel
theorem g144_97 : ts_fmm 144 43 = some (12, 23, 2, true) := by decide +kernel
theorem i144_100 : ts_ins 144 100 = some (.aload_n 0, 101, 0) := by decide +kernel
theorem i144_101 : ts_ins 144 101 = some (.bipush 6, 103, 0) := by decide +kernel
theorem i144_103 : ts_ins 144 103 = some (.newarray .int, 105, 0) := by decide +kernel
theorem i144_105 : ts_ins 144 105 = some (.putfield 46, 108, 0) := by decide +kernel
theorem g144_105 : ts_fmm 144 46 = some (12, 24, 2, true) := by decide +kernel
theorem i144_108 : ts_ins 144 108 = some (.aload_n 0, 109, 0) := by decide +kernel
theorem i144_109 : ts_ins 144 109 = some (.iconst 5, 110, 0) := by decide +kernel
theorem i144_110 : ts_ins 144 110 = some (.newarray .int, 112, 0) := by decide +kernel
theorem i144_112 : ts_ins 144 112 = some (.putfield 49, 115, 0) := by decide +kernel
theorem g144_112 : ts_fmm 144 49 = some (12, 26, 2, true) := by decide +kernel
theorem i144_115 : ts_ins 144 115 = some (.aload_n 0, 116, 0) := by decide +kernel
theorem i144_116 : ts_ins 144 116 = some (.bipush 6, 118, 0) := by decide +kernel
theorem i144_118 : ts_ins 144 118 = some (.newarray .int, 120, 0) := by decide +kernel
theorem i144_120 : ts_ins 144 120 = some (.putfield 52, 123, 0) := by decide +kernel
theorem g144_120 : ts_fmm 144 52 = some (12, 27, 2, true) := by decide +kernel
theorem i144_123 : ts_ins 144 123 = some (.aload_n 0, 124, 0) := by decide +kernel
theorem i144_124 : ts_ins 144 124 = some (.bipush 16, 126, 0) := by decide +kernel
theorem i144_126 : ts_ins 144 126 = some (.newarray .int, 128, 0) := by decide +kernel
theorem i144_128 : ts_ins 144 128 = some (.putfield 55, 131, 0) := by decide +kernel
theorem g144_128 : ts_fmm 144 55 = some (12, 29, 2, true) := by decide +kernel
theorem i144_131 : ts_ins 144 131 = some (.aload_n 0, 132, 0) := by decide +kernel
theorem i144_132 : ts_ins 144 132 = some (.iconst 5, 133, 0) := by decide +kernel
theorem i144_133 : ts_ins 144 133 = some (.newarray .int, 135, 0) := by decide +kernel
theorem i144_135 : ts_ins 144 135 = some (.putfield 58, 138, 0) := by decide +kernel
theorem g144_135 : ts_fmm 144 58 = some (12, 30, 2, true) := by decide +kernel
theorem i144_138 : ts_ins 144 138 = some (.aload_n 0, 139, 0) := by decide +kernel
theorem i144_139 : ts_ins 144 139 = some (.bipush 6, 141, 0) := by decide +kernel
theorem i144_141 : ts_ins 144 141 = some (.newarray .int, 143, 0) := by decide +kernel
theorem i144_143 : ts_ins 144 143 = some (.putfield 61, 146, 0) := by decide +kernel
theorem g144_143 : ts_fmm 144 61 = some (12, 31, 2, true) := by decide +kernel
theorem i144_146 : ts_ins 144 146 = some (.aload_n 0, 147, 0) := by decide +kernel
theorem i144_147 : ts_ins 144 147 = some (.bipush 50, 149, 0) := by decide +kernel
theorem i144_149 : ts_ins 144 149 = some (.newarray .int, 151, 0) := by decide +kernel
theorem i144_151 : ts_ins 144 151 = some (.putfield 64, 154, 0) := by decide +kernel
theorem g144_151 : ts_fmm 144 64 = some (12, 33, 2, true) := by decide +kernel
theorem i144_154 : ts_ins 144 154 = some (.aload_n 0, 155, 0) := by decide +kernel
theorem i144_155 : ts_ins 144 155 = some (.bipush 24, 157, 0) := by decide +kernel
theorem i144_157 : ts_ins 144 157 = some (.newarray .int, 159, 0) := by decide +kernel
theorem i144_159 : ts_ins 144 159 = some (.putfield 67, 162, 0) := by decide +kernel
theorem g144_159 : ts_fmm 144 67 = some (12, 34, 2, true) := by decide +kernel
theorem i144_162 : ts_ins 144 162 = some (.aload_n 0, 163, 0) := by decide +kernel
theorem i144_163 : ts_ins 144 163 = some (.bipush 6, 165, 0) := by decide +kernel
theorem i144_165 : ts_ins 144 165 = some (.newarray .int, 167, 0) := by decide +kernel
theorem i144_167 : ts_ins 144 167 = some (.putfield 70, 170, 0) := by decide +kernel
theorem g144_167 : ts_fmm 144 70 = some (12, 38, 2, true) := by decide +kernel
theorem i144_170 : ts_ins 144 170 = some (.aload_n 0, 171, 0) := by decide +kernel
theorem i144_171 : ts_ins 144 171 = some (.bipush 6, 173, 0) := by decide +kernel
theorem i144_173 : ts_ins 144 173 = some (.newarray .int, 175, 0) := by decide +kernel
theorem i144_175 : ts_ins 144 175 = some (.putfield 73, 178, 0) := by decide +kernel
theorem g144_175 : ts_fmm 144 73 = some (12, 39, 2, true) := by decide +kernel
theorem i144_178 : ts_ins 144 178 = some (.aload_n 0, 179, 0) := by decide +kernel
theorem i144_179 : ts_ins 144 179 = some (.sipush 360, 182, 0) := by decide +kernel
theorem i144_182 : ts_ins 144 182 = some (.newarray .long, 184, 0) := by decide +kernel
theorem i144_184 : ts_ins 144 184 = some (.putfield 76, 187, 0) := by decide +kernel
theorem g144_184 : ts_fmm 144 76 = some (12, 40, 2, true) := by decide +kernel
theorem i144_187 : ts_ins 144 187 = some (.aload_n 0, 188, 0) := by decide +kernel
theorem i144_188 : ts_ins 144 188 = some (.bipush 60, 190, 0) := by decide +kernel
theorem i144_190 : ts_ins 144 190 = some (.newarray .long, 192, 0) := by decide +kernel
theorem i144_192 : ts_ins 144 192 = some (.putfield 80, 195, 0) := by decide +kernel
theorem g144_192 : ts_fmm 144 80 = some (12, 41, 2, true) := by decide +kernel
theorem i144_195 : ts_ins 144 195 = some (.iconst 0, 196, 0) := by decide +kernel
theorem i144_196 : ts_ins 144 196 = some (.istore_n 1, 197, 0) := by decide +kernel
theorem i144_197 : ts_ins 144 197 = some (.iload_n 1, 198, 0) := by decide +kernel
theorem i144_198 : ts_ins 144 198 = some (.bipush 6, 200, 0) := by decide +kernel
theorem i144_200 : ts_ins 144 200 = some (.if_icmp .ge 16, 203, 216) := by decide +kernel
theorem i144_203 : ts_ins 144 203 = some (.aload_n 0, 204, 0) := by decide +kernel
theorem i144_204 : ts_ins 144 204 = some (.getfield 70, 207, 0) := by decide +kernel
theorem g144_204 : ts_fm 144 70 = some (12, 38, 2) := by decide +kernel
theorem i144_207 : ts_ins 144 207 = some (.iload_n 1, 208, 0) := by decide +kernel
theorem i144_208 : ts_ins 144 208 = some (.iconst (-1), 209, 0) := by decide +kernel
theorem i144_209 : ts_ins 144 209 = some (.iastore, 210, 0) := by decide +kernel
theorem i144_210 : ts_ins 144 210 = some (.iinc 1 1, 213, 0) := by decide +kernel
theorem i144_213 : ts_ins 144 213 = some (.goto (-16), 216, 197) := by decide +kernel
theorem i144_216 : ts_ins 144 216 = some (.aload_n 0, 217, 0) := by decide +kernel
theorem i144_217 : ts_ins 144 217 = some (.iconst (-1), 218, 0) := by decide +kernel
theorem i144_218 : ts_ins 144 218 = some (.putfield 83, 221, 0) := by decide +kernel
theorem g144_218 : ts_fmm 144 83 = some (12, 12, 0, false) := by decide +kernel
theorem i144_221 : ts_ins 144 221 = some (.return_, 222, 0) := by decide +kernel
theorem r144 : ts_rt 144 = (none, 24, 1124) := by decide +kernel
theorem l144 : ts_ml 144 = 2 := by decide +kernel
theorem ct_20 {X : ts_X} {d : Nat} {I : Nat → Nat → Int32} {K : Option Value → ts_H → Prop} (hz : ∀ x, 72 ≤ x → ∀ k, I x k = 0) (hK : K none ((ts_up (ts_up (ts_up (ts_up (ts_up (ts_up (ts_up I 93 ((0 : Int)).toNat (zI (-1))) 93 ((0 : Int) + 1).toNat (zI (-1))) 93 ((0 : Int) + 1 + 1).toNat (zI (-1))) 93 ((0 : Int) + 1 + 1 + 1).toNat (zI (-1))) 93 ((0 : Int) + 1 + 1 + 1 + 1).toNat (zI (-1))) 93 ((0 : Int) + 1 + 1 + 1 + 1 + 1).toNat (zI (-1))) 72 12 (zI (-1))), zzL, tp_178, (ts_S0.take 96))) : ts_Cal X (d + 1) 144 [.ref 72] (I, zzL, tp_130, (ts_S0.take 72)) K := by
  refine ev_enter (lv := [.ref 72, .null]) l144 rfl (Nat.le_of_ble_eq_true rfl) ?_
  refine ev_aloadn_0 i144_0 ?_
  refine ec_obj i144_1 g144_1 (Nat.le_of_ble_eq_true rfl) ?_
  refine ev_aloadn_0 i144_4 ?_
  refine ew_bipush i144_5 (by decide) ?_
  refine ec_arrI (a := 73) (c := 97) (P' := tp_131) (S' := (ts_S0.take 73)) i144_7 (by decide) rfl (by decide) (by decide +kernel) rfl (fun k => by first | rfl | exact hz _ (by decide) _) rfl (by decide +kernel) ?_
  refine ev_putF (P' := tp_132) i144_9 g144_9 (by decide +kernel) (by decide +kernel) (by decide +kernel) (by decide) (by decide) rfl ?_
  refine ev_aloadn_0 i144_12 ?_
  refine ew_bipush i144_13 (by decide) ?_
  refine ec_arrI (a := 74) (c := 40) (P' := tp_133) (S' := (ts_S0.take 74)) i144_15 (by decide) rfl (by decide) (by decide +kernel) rfl (fun k => by first | rfl | exact hz _ (by decide) _) rfl (by decide +kernel) ?_
  refine ev_putF (P' := tp_134) i144_17 g144_17 (by decide +kernel) (by decide +kernel) (by decide +kernel) (by decide) (by decide) rfl ?_
  refine ev_aloadn_0 i144_20 ?_
  refine ew_bipush i144_21 (by decide) ?_
  refine ec_arrI (a := 75) (c := 40) (P' := tp_135) (S' := (ts_S0.take 75)) i144_23 (by decide) rfl (by decide) (by decide +kernel) rfl (fun k => by first | rfl | exact hz _ (by decide) _) rfl (by decide +kernel) ?_
  refine ev_putF (P' := tp_136) i144_25 g144_25 (by decide +kernel) (by decide +kernel) (by decide +kernel) (by decide) (by decide) rfl ?_
  refine ev_aloadn_0 i144_28 ?_
  refine ew_bipush i144_29 (by decide) ?_
  refine ec_arrI (a := 76) (c := 40) (P' := tp_137) (S' := (ts_S0.take 76)) i144_31 (by decide) rfl (by decide) (by decide +kernel) rfl (fun k => by first | rfl | exact hz _ (by decide) _) rfl (by decide +kernel) ?_
  refine ev_putF (P' := tp_138) i144_33 g144_33 (by decide +kernel) (by decide +kernel) (by decide +kernel) (by decide) (by decide) rfl ?_
  refine ev_aloadn_0 i144_36 ?_
  refine ew_bipush i144_37 (by decide) ?_
  refine ec_arrI (a := 77) (c := 8) (P' := tp_139) (S' := (ts_S0.take 77)) i144_39 (by decide) rfl (by decide) (by decide +kernel) rfl (fun k => by first | rfl | exact hz _ (by decide) _) rfl (by decide +kernel) ?_
  refine ev_putF (P' := tp_140) i144_41 g144_41 (by decide +kernel) (by decide +kernel) (by decide +kernel) (by decide) (by decide) rfl ?_
  refine ev_aloadn_0 i144_44 ?_
  refine ew_bipush i144_45 (by decide) ?_
  refine ec_arrI (a := 78) (c := 120) (P' := tp_141) (S' := (ts_S0.take 78)) i144_47 (by decide) rfl (by decide) (by decide +kernel) rfl (fun k => by first | rfl | exact hz _ (by decide) _) rfl (by decide +kernel) ?_
  refine ev_putF (P' := tp_142) i144_49 g144_49 (by decide +kernel) (by decide +kernel) (by decide +kernel) (by decide) (by decide) rfl ?_
  refine ev_aloadn_0 i144_52 ?_
  refine ew_bipush i144_53 (by decide) ?_
  refine ec_arrI (a := 79) (c := 120) (P' := tp_143) (S' := (ts_S0.take 79)) i144_55 (by decide) rfl (by decide) (by decide +kernel) rfl (fun k => by first | rfl | exact hz _ (by decide) _) rfl (by decide +kernel) ?_
  refine ev_putF (P' := tp_144) i144_57 g144_57 (by decide +kernel) (by decide +kernel) (by decide +kernel) (by decide) (by decide) rfl ?_
  refine ev_aloadn_0 i144_60 ?_
  refine ew_bipush i144_61 (by decide) ?_
  refine ec_arrI (a := 80) (c := 6) (P' := tp_145) (S' := (ts_S0.take 80)) i144_63 (by decide) rfl (by decide) (by decide +kernel) rfl (fun k => by first | rfl | exact hz _ (by decide) _) rfl (by decide +kernel) ?_
  refine ev_putF (P' := tp_146) i144_65 g144_65 (by decide +kernel) (by decide +kernel) (by decide +kernel) (by decide) (by decide) rfl ?_
  refine ev_aloadn_0 i144_68 ?_
  refine ew_bipush i144_69 (by decide) ?_
  refine ec_arrI (a := 81) (c := 16) (P' := tp_147) (S' := (ts_S0.take 81)) i144_71 (by decide) rfl (by decide) (by decide +kernel) rfl (fun k => by first | rfl | exact hz _ (by decide) _) rfl (by decide +kernel) ?_
  refine ev_putF (P' := tp_148) i144_73 g144_73 (by decide +kernel) (by decide +kernel) (by decide +kernel) (by decide) (by decide) rfl ?_
  refine ev_aloadn_0 i144_76 ?_
  refine ew_bipush i144_77 (by decide) ?_
  refine ec_arrI (a := 82) (c := 40) (P' := tp_149) (S' := (ts_S0.take 82)) i144_79 (by decide) rfl (by decide) (by decide +kernel) rfl (fun k => by first | rfl | exact hz _ (by decide) _) rfl (by decide +kernel) ?_
  refine ev_putF (P' := tp_150) i144_81 g144_81 (by decide +kernel) (by decide +kernel) (by decide +kernel) (by decide) (by decide) rfl ?_
  refine ev_aloadn_0 i144_84 ?_
  refine ew_bipush i144_85 (by decide) ?_
  refine ec_arrI (a := 83) (c := 41) (P' := tp_151) (S' := (ts_S0.take 83)) i144_87 (by decide) rfl (by decide) (by decide +kernel) rfl (fun k => by first | rfl | exact hz _ (by decide) _) rfl (by decide +kernel) ?_
  refine ev_putF (P' := tp_152) i144_89 g144_89 (by decide +kernel) (by decide +kernel) (by decide +kernel) (by decide) (by decide) rfl ?_
  refine ev_aloadn_0 i144_92 ?_
  refine ew_bipush i144_93 (by decide) ?_
  refine ec_arrI (a := 84) (c := 6) (P' := tp_153) (S' := (ts_S0.take 84)) i144_95 (by decide) rfl (by decide) (by decide +kernel) rfl (fun k => by first | rfl | exact hz _ (by decide) _) rfl (by decide +kernel) ?_
  refine ev_putF (P' := tp_154) i144_97 g144_97 (by decide +kernel) (by decide +kernel) (by decide +kernel) (by decide) (by decide) rfl ?_
  refine ev_aloadn_0 i144_100 ?_
  refine ew_bipush i144_101 (by decide) ?_
  refine ec_arrI (a := 85) (c := 6) (P' := tp_155) (S' := (ts_S0.take 85)) i144_103 (by decide) rfl (by decide) (by decide +kernel) rfl (fun k => by first | rfl | exact hz _ (by decide) _) rfl (by decide +kernel) ?_
  refine ev_putF (P' := tp_156) i144_105 g144_105 (by decide +kernel) (by decide +kernel) (by decide +kernel) (by decide) (by decide) rfl ?_
  refine ev_aloadn_0 i144_108 ?_
  refine ew_iconst i144_109 ?_
  refine ec_arrI (a := 86) (c := 5) (P' := tp_157) (S' := (ts_S0.take 86)) i144_110 (by decide) rfl (by decide) (by decide +kernel) rfl (fun k => by first | rfl | exact hz _ (by decide) _) rfl (by decide +kernel) ?_
  refine ev_putF (P' := tp_158) i144_112 g144_112 (by decide +kernel) (by decide +kernel) (by decide +kernel) (by decide) (by decide) rfl ?_
  refine ev_aloadn_0 i144_115 ?_
  refine ew_bipush i144_116 (by decide) ?_
  refine ec_arrI (a := 87) (c := 6) (P' := tp_159) (S' := (ts_S0.take 87)) i144_118 (by decide) rfl (by decide) (by decide +kernel) rfl (fun k => by first | rfl | exact hz _ (by decide) _) rfl (by decide +kernel) ?_
  refine ev_putF (P' := tp_160) i144_120 g144_120 (by decide +kernel) (by decide +kernel) (by decide +kernel) (by decide) (by decide) rfl ?_
  refine ev_aloadn_0 i144_123 ?_
  refine ew_bipush i144_124 (by decide) ?_
  refine ec_arrI (a := 88) (c := 16) (P' := tp_161) (S' := (ts_S0.take 88)) i144_126 (by decide) rfl (by decide) (by decide +kernel) rfl (fun k => by first | rfl | exact hz _ (by decide) _) rfl (by decide +kernel) ?_
  refine ev_putF (P' := tp_162) i144_128 g144_128 (by decide +kernel) (by decide +kernel) (by decide +kernel) (by decide) (by decide) rfl ?_
  refine ev_aloadn_0 i144_131 ?_
  refine ew_iconst i144_132 ?_
  refine ec_arrI (a := 89) (c := 5) (P' := tp_163) (S' := (ts_S0.take 89)) i144_133 (by decide) rfl (by decide) (by decide +kernel) rfl (fun k => by first | rfl | exact hz _ (by decide) _) rfl (by decide +kernel) ?_
  refine ev_putF (P' := tp_164) i144_135 g144_135 (by decide +kernel) (by decide +kernel) (by decide +kernel) (by decide) (by decide) rfl ?_
  refine ev_aloadn_0 i144_138 ?_
  refine ew_bipush i144_139 (by decide) ?_
  refine ec_arrI (a := 90) (c := 6) (P' := tp_165) (S' := (ts_S0.take 90)) i144_141 (by decide) rfl (by decide) (by decide +kernel) rfl (fun k => by first | rfl | exact hz _ (by decide) _) rfl (by decide +kernel) ?_
  refine ev_putF (P' := tp_166) i144_143 g144_143 (by decide +kernel) (by decide +kernel) (by decide +kernel) (by decide) (by decide) rfl ?_
  refine ev_aloadn_0 i144_146 ?_
  refine ew_bipush i144_147 (by decide) ?_
  refine ec_arrI (a := 91) (c := 50) (P' := tp_167) (S' := (ts_S0.take 91)) i144_149 (by decide) rfl (by decide) (by decide +kernel) rfl (fun k => by first | rfl | exact hz _ (by decide) _) rfl (by decide +kernel) ?_
  refine ev_putF (P' := tp_168) i144_151 g144_151 (by decide +kernel) (by decide +kernel) (by decide +kernel) (by decide) (by decide) rfl ?_
  refine ev_aloadn_0 i144_154 ?_
  refine ew_bipush i144_155 (by decide) ?_
  refine ec_arrI (a := 92) (c := 24) (P' := tp_169) (S' := (ts_S0.take 92)) i144_157 (by decide) rfl (by decide) (by decide +kernel) rfl (fun k => by first | rfl | exact hz _ (by decide) _) rfl (by decide +kernel) ?_
  refine ev_putF (P' := tp_170) i144_159 g144_159 (by decide +kernel) (by decide +kernel) (by decide +kernel) (by decide) (by decide) rfl ?_
  refine ev_aloadn_0 i144_162 ?_
  refine ew_bipush i144_163 (by decide) ?_
  refine ec_arrI (a := 93) (c := 6) (P' := tp_171) (S' := (ts_S0.take 93)) i144_165 (by decide) rfl (by decide) (by decide +kernel) rfl (fun k => by first | rfl | exact hz _ (by decide) _) rfl (by decide +kernel) ?_
  refine ev_putF (P' := tp_172) i144_167 g144_167 (by decide +kernel) (by decide +kernel) (by decide +kernel) (by decide) (by decide) rfl ?_
  refine ev_aloadn_0 i144_170 ?_
  refine ew_bipush i144_171 (by decide) ?_
  refine ec_arrI (a := 94) (c := 6) (P' := tp_173) (S' := (ts_S0.take 94)) i144_173 (by decide) rfl (by decide) (by decide +kernel) rfl (fun k => by first | rfl | exact hz _ (by decide) _) rfl (by decide +kernel) ?_
  refine ev_putF (P' := tp_174) i144_175 g144_175 (by decide +kernel) (by decide +kernel) (by decide +kernel) (by decide) (by decide) rfl ?_
  refine ev_aloadn_0 i144_178 ?_
  refine ew_sipush i144_179 (by decide) ?_
  refine ec_arrL (a := 95) (c := 360) (P' := tp_175) (S' := (ts_S0.take 95)) i144_182 (by decide) rfl (by decide) (by decide +kernel) rfl (fun k => by first | rfl | exact hz _ (by decide) _) rfl (by decide +kernel) ?_
  refine ev_putF (P' := tp_176) i144_184 g144_184 (by decide +kernel) (by decide +kernel) (by decide +kernel) (by decide) (by decide) rfl ?_
  refine ev_aloadn_0 i144_187 ?_
  refine ew_bipush i144_188 (by decide) ?_
  refine ec_arrL (a := 96) (c := 60) (P' := tp_177) (S' := (ts_S0.take 96)) i144_190 (by decide) rfl (by decide) (by decide +kernel) rfl (fun k => by first | rfl | exact hz _ (by decide) _) rfl (by decide +kernel) ?_
  refine ev_putF (P' := tp_178) i144_192 g144_192 (by decide +kernel) (by decide +kernel) (by decide +kernel) (by decide) (by decide) rfl ?_
  refine ew_iconst i144_195 ?_
  refine ev_istoren_1 i144_196 rfl ?_
  refine ev_iloadn_1 i144_197 ?_
  refine ew_bipush i144_198 (by decide) ?_
  refine ew_icmpge i144_200 (by omega) (fun cq => absurd cq (by omega)) (fun cq => ?_)
  refine ev_aloadn_0 i144_203 ?_
  refine ev_getA (q := 93) i144_204 g144_204 (by decide +kernel) (by decide +kernel) (by decide) ?_
  refine ev_iloadn_1 i144_207 ?_
  refine ew_iconst i144_208 ?_
  refine ew_iastore (n := 6) i144_209 (by decide +kernel) (by omega) (by omega) (by omega) ?_
  refine ew_iinc_1 i144_210 rfl ?_
  refine ev_goto i144_213 ?_
  refine ev_iloadn_1 i144_197 ?_
  refine ew_bipush i144_198 (by decide) ?_
  refine ew_icmpge i144_200 (by omega) (fun cq => absurd cq (by omega)) (fun cq => ?_)
  refine ev_aloadn_0 i144_203 ?_
  refine ev_getA (q := 93) i144_204 g144_204 (by decide +kernel) (by decide +kernel) (by decide) ?_
  refine ev_iloadn_1 i144_207 ?_
  refine ew_iconst i144_208 ?_
  refine ew_iastore (n := 6) i144_209 (by decide +kernel) (by omega) (by omega) (by omega) ?_
  refine ew_iinc_1 i144_210 rfl ?_
  refine ev_goto i144_213 ?_
  refine ev_iloadn_1 i144_197 ?_
  refine ew_bipush i144_198 (by decide) ?_
  refine ew_icmpge i144_200 (by omega) (fun cq => absurd cq (by omega)) (fun cq => ?_)
  refine ev_aloadn_0 i144_203 ?_
  refine ev_getA (q := 93) i144_204 g144_204 (by decide +kernel) (by decide +kernel) (by decide) ?_
  refine ev_iloadn_1 i144_207 ?_
  refine ew_iconst i144_208 ?_
  refine ew_iastore (n := 6) i144_209 (by decide +kernel) (by omega) (by omega) (by omega) ?_
  refine ew_iinc_1 i144_210 rfl ?_
  refine ev_goto i144_213 ?_
  refine ev_iloadn_1 i144_197 ?_
  refine ew_bipush i144_198 (by decide) ?_
  refine ew_icmpge i144_200 (by omega) (fun cq => absurd cq (by omega)) (fun cq => ?_)
  refine ev_aloadn_0 i144_203 ?_
  refine ev_getA (q := 93) i144_204 g144_204 (by decide +kernel) (by decide +kernel) (by decide) ?_
  refine ev_iloadn_1 i144_207 ?_
  refine ew_iconst i144_208 ?_
  refine ew_iastore (n := 6) i144_209 (by decide +kernel) (by omega) (by omega) (by omega) ?_
  refine ew_iinc_1 i144_210 rfl ?_
  refine ev_goto i144_213 ?_
  refine ev_iloadn_1 i144_197 ?_
  refine ew_bipush i144_198 (by decide) ?_
  refine ew_icmpge i144_200 (by omega) (fun cq => absurd cq (by omega)) (fun cq => ?_)
  refine ev_aloadn_0 i144_203 ?_
  refine ev_getA (q := 93) i144_204 g144_204 (by decide +kernel) (by decide +kernel) (by decide) ?_
  refine ev_iloadn_1 i144_207 ?_
  refine ew_iconst i144_208 ?_
  refine ew_iastore (n := 6) i144_209 (by decide +kernel) (by omega) (by omega) (by omega) ?_
  refine ew_iinc_1 i144_210 rfl ?_
  refine ev_goto i144_213 ?_
  refine ev_iloadn_1 i144_197 ?_
  refine ew_bipush i144_198 (by decide) ?_
  refine ew_icmpge i144_200 (by omega) (fun cq => absurd cq (by omega)) (fun cq => ?_)
  refine ev_aloadn_0 i144_203 ?_
  refine ev_getA (q := 93) i144_204 g144_204 (by decide +kernel) (by decide +kernel) (by decide) ?_
  refine ev_iloadn_1 i144_207 ?_
  refine ew_iconst i144_208 ?_
  refine ew_iastore (n := 6) i144_209 (by decide +kernel) (by omega) (by omega) (by omega) ?_
  refine ew_iinc_1 i144_210 rfl ?_
  refine ev_goto i144_213 ?_
  refine ev_iloadn_1 i144_197 ?_
  refine ew_bipush i144_198 (by decide) ?_
  refine ew_icmpge i144_200 (by omega) (fun cq => ?_) (fun cq => absurd cq (by omega))
  refine ev_aloadn_0 i144_216 ?_
  refine ew_iconst i144_217 ?_
  refine ev_putI i144_218 g144_218 (by decide +kernel) ?_
  refine ec_ret i144_221 rfl (by decide +kernel) (by decide +kernel) ?_
  exact hK
theorem tp_end : tp_178 = ts_P0 false := by decide +kernel
theorem tS_end : ts_S0.take 96 = ts_S0 := by decide +kernel
