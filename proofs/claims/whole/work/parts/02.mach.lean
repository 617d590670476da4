/-! THE SIMPLE MACHINE: a heap of ints, longs and references by cell and slot; one step as a predicate transformer; its least fixed point; calls by depth -/
abbrev ts_S : Type := List (Nat × Nat)
/-- ints and longs by cell and slot; references by cell and slot (0: null); shapes of the cells 1, 2 ..: (0, n) ints, (1, n) longs, (2, n) Shelves, (3, n) rows of ints, (10 + class, fields) -/
abbrev ts_H : Type := (Nat → Nat → Int32) × (Nat → Nat → Int64) × List (List Nat) × ts_S
/-- the script: its length and its ints -/
abbrev ts_X : Type := Nat × (Nat → Int32)
def ts_up {α : Type} (f : Nat → Nat → α) (a j : Nat) (v : α) : Nat → Nat → α := fun b k => if b = a then (if k = j then v else f b k) else f b k
def ts_rz {α : Type} (f : Nat → Nat → α) (z : α) (lo hi : Nat) : Nat → Nat → α := fun b k => if lo ≤ b ∧ b < hi then z else f b k
/-- row a of f copied to row b: n elements from i to j -/
def ts_cp {α : Type} (f : Nat → Nat → α) (a i b j n : Nat) : Nat → Nat → α := fun c k => if c = b then (if j ≤ k ∧ k < j + n then f a (i + (k - j)) else f c k) else f c k
def ts_sh (S : ts_S) (a : Nat) : Option (Nat × Nat) := match a with
  | 0 => none
  | a + 1 => S[a]?
def ts_pg (P : List (List Nat)) (a j : Nat) : Option Nat := match a with
  | 0 => none
  | a + 1 => match P[a]? with
    | some r => r[j]?
    | none => none
def ts_ps (P : List (List Nat)) (a j v : Nat) : List (List Nat) := match a with
  | 0 => P
  | a + 1 => match P[a]? with
    | some r => P.set a (r.set j v)
    | none => P
def ts_ca (a : Nat) : List Int32 := bif Nat.beq a 1001 then [7, 9, 15, 6, 12, 9, 20, 7] else bif Nat.beq a 1002 then [-1, 0, 0, 2, 1, 3, 0, 4] else bif Nat.beq a 1003 then [1, 20, 0, 0, 0, 0, 70, 0, 10, 0, 30, 41, 0, 0, 0, 80, 11, 0, 0, 40, 50, 0, 0, 0, 2, 0, 0, 0, 0, 60, 0, 81] else []
def ts_tx : List Int32 := [116, 99, 114, 109, 97, 98]
/-- an array of ints: its length and what it holds -/
def ts_ai (X : ts_X) (I : Nat → Nat → Int32) (S : ts_S) (a : Nat) : Option (Nat × (Nat → Int32)) :=
  bif Nat.blt a 1000 then (match ts_sh S a with
    | some (0, n) => some (n, I a)
    | _ => none)
  else bif Nat.beq a 1000 then some X else bif Nat.ble a 1003 then some ((ts_ca a).length, fun j => (ts_ca a).getD j 0) else none
/-- an array's length -/
def ts_al (X : ts_X) (S : ts_S) (a : Nat) : Option Nat :=
  bif Nat.blt a 1000 then (match ts_sh S a with
    | some (k, n) => bif Nat.blt k 4 then some n else none
    | _ => none)
  else bif Nat.beq a 1000 then some X.1 else bif Nat.beq a 1005 then some 6 else none
def ts_kl (lv : List Value) (k : Nat) : List Value := match k with
  | 0 => lv
  | j + 1 => match lv[j]? with
    | some v => bif Nat.beq v.category 2 then lv.set j .null else lv
    | none => lv
def ts_s1 (lv : List Value) (k : Nat) (v : Value) : List Value := (ts_kl lv k).set k v
def ts_cat (st : List Value) : Nat := (st.map fun v => v.category).sum
def ts_vv (n : Nat) (v : Value) : Bool := match v with
  | .ref k => Nat.ble k n || Nat.ble 1000 k
  | _ => true
def ts_vl (n : Nat) (l : List Value) : Bool := l.all (ts_vv n)
def ts_vp (n : Nat) (P : List (List Nat)) : Bool := P.all (fun r => r.all (fun k => Nat.ble k n))
def ts_sz (S : ts_S) : Nat := (S.map fun q => q.2).sum
def ts_alL : List (Nat × Nat × Nat) := [(0, 4, 160), (3, 2, 11), (7, 2, 74), (16, 21, 507), (34, 4, 390), (39, 6, 515), (50, 2, 56), (56, 1, 60), (68, 1, 6), (77, 5, 516), (84, 1, 16), (93, 70, 2336), (144, 24, 1124), (238, 96, 3515)]
/-- how many cells and slots a method makes -/
def ts_mk (m : Nat) : Nat × Nat := (ts_alL.lookup m).getD (0, 0)
def ts_rem (x y : Int32) : Int32 := x - x / y * y
def ts_lrem (x y : Int64) : Int64 := x - x / y * y
def ts_ushr (x y : Int32) : Int32 := (x.toUInt32 >>> (y.toUInt32 &&& Int32.toUInt32 31)).toInt32
def ts_i2c (x : Int32) : Int32 := (x.toUInt32 % 65536).toInt32
/-- where a comparison goes -/
def ts_cmp (c : Jvm.ClassFile.Cond) (x y : Int32) : Prop := match c with
  | .eq => x = y
  | .ne => ¬ x = y
  | .lt => x < y
  | .ge => y ≤ x
  | .gt => y < x
  | .le => x ≤ y
/-- where a switch goes -/
def ts_sw (i : Instr) (pc : Nat) (x : Int32) : Option Nat := match i with
  | .tableswitch d lo hi offs => if x.toInt < lo ∨ hi < x.toInt then some ((pc : Int) + d).toNat else (match offs[(x.toInt - lo).toNat]? with
    | some o => some ((pc : Int) + o).toNat
    | none => none)
  | .lookupswitch d ps => some ((pc : Int) + Op.lookupswitch.offset ps.toList d x.toInt).toNat
  | _ => none
abbrev ts_C : Type := Nat → List Value → ts_H → (Option Value → ts_H → Prop) → Prop
abbrev ts_R : Type := Nat → List Value → List Value → ts_H → Prop
abbrev ts_push (r : Option Value) (st : List Value) : List Value := match r with
  | some v => v :: st
  | none => st
/-- a return: the answer fits its type, the cells made are as many as are told -/
def ts_ret (m : Nat) (E : ts_S) (r : Option Value) (h : ts_H) : Prop :=
  (match r with
    | some (.int v) => ∃ ty, (ts_mi.getD m ts_mx).2.2.2.1 = some ty ∧ narrow ty (.int v) = .int v
    | some (.long _) => (ts_mi.getD m ts_mx).2.2.2.1 = some .long
    | some (.ref _) => ∃ ty, (ts_mi.getD m ts_mx).2.2.2.1 = some ty ∧ ((∃ n, ty = .object n) ∨ ∃ t, ty = .array t)
    | some _ => False
    | none => (ts_mi.getD m ts_mx).2.2.2.1 = none) ∧ h.2.2.2.length = E.length + (ts_mk m).1 ∧ ts_sz h.2.2.2 = ts_sz E + (ts_mk m).2
/-- new cells: there is room, and what is there names no cell that isn't -/
def ts_room (m : Nat) (E : ts_S) (lv st : List Value) (h : ts_H) (c n : Nat) : Prop :=
  h.2.2.2.length + c ≤ E.length + (ts_mk m).1 ∧ ts_sz h.2.2.2 + n ≤ ts_sz E + (ts_mk m).2 ∧ ts_vl h.2.2.2.length lv = true ∧ ts_vl h.2.2.2.length st = true ∧ ts_vp h.2.2.2.length h.2.2.1 = true ∧ h.2.2.1.length = h.2.2.2.length ∧ h.2.2.2.length + c < 1000
def ts_call (C : ts_C) (m : Nat) (E : ts_S) (R : ts_R) (nx : Nat) (lv : List Value) (y : Nat) (as rest : List Value) (h : ts_H) : Prop :=
  ts_cat rest ≤ 8 ∧ (ts_mk y = (0, 0) ∨ ts_room m E lv rest h (ts_mk y).1 (ts_mk y).2) ∧ C y as h (fun r h' => R nx lv (ts_push r rest) h')
/-- an object of a class -/
def ts_isI (S : ts_S) (a ci : Nat) : Bool := Nat.blt a 1000 && (match ts_sh S a with
  | some (k, _) => Nat.beq k (10 + ci)
  | none => false)
/-- a receiver of method y -/
def ts_rcv (S : ts_S) (a y : Nat) : Bool := ts_isI S a (ts_mc y) && Nat.blt (ts_mc y) 13
/-- the shape of an array's cell -/
def ts_sA (S : ts_S) (a : Nat) : Option (Nat × Nat) := bif Nat.blt a 1000 then ts_sh S a else none
def ts_Fi (X : ts_X) (C : ts_C) (m : Nat) (E : ts_S) (Q : Option Value → ts_H → Prop) (R : ts_R) (i : Instr) (nx tg pc : Nat) (lv st : List Value) (h : ts_H) : Prop := match i with
  | .iconst n => R nx lv (.int (Int32.ofInt n) :: st) h
  | .bipush n => R nx lv (.int (Int8.ofInt n).toInt32 :: st) h
  | .sipush n => R nx lv (.int (Int16.ofInt n).toInt32 :: st) h
  | .lconst n => R nx lv (.long (Int64.ofNat (n : Nat)) :: st) h
  | .ldc k => match ts_lc (ts_mc m) k with
    | some (.int v) => R nx lv (.int v :: st) h
    | some (.ref v) => R nx lv (.ref v :: st) h
    | _ => False
  | .ldc_w k => match ts_lc (ts_mc m) k with
    | some (.int v) => R nx lv (.int v :: st) h
    | _ => False
  | .ldc2_w k => match ts_lc (ts_mc m) k with
    | some (.long v) => R nx lv (.long v :: st) h
    | _ => False
  | .iload_n k => match lv[(k : Nat)]? with
    | some (.int v) => R nx lv (.int v :: st) h
    | _ => False
  | .iload k => match lv[k]? with
    | some (.int v) => R nx lv (.int v :: st) h
    | _ => False
  | .lload_n k => match lv[(k : Nat)]? with
    | some (.long v) => R nx lv (.long v :: st) h
    | _ => False
  | .lload k => match lv[k]? with
    | some (.long v) => R nx lv (.long v :: st) h
    | _ => False
  | .aload_n k => match lv[(k : Nat)]? with
    | some (.ref v) => R nx lv (.ref v :: st) h
    | _ => False
  | .aload k => match lv[k]? with
    | some (.ref v) => R nx lv (.ref v :: st) h
    | _ => False
  | .istore_n k => match st with
    | .int v :: st => (k : Nat) < lv.length ∧ R nx (ts_s1 lv k (.int v)) st h
    | _ => False
  | .istore k => match st with
    | .int v :: st => k < lv.length ∧ R nx (ts_s1 lv k (.int v)) st h
    | _ => False
  | .lstore_n k => match st with
    | .long v :: st => (k : Nat) + 1 < lv.length ∧ R nx ((ts_s1 lv k (.long v)).set (k + 1) .null) st h
    | _ => False
  | .lstore k => match st with
    | .long v :: st => k + 1 < lv.length ∧ R nx ((ts_s1 lv k (.long v)).set (k + 1) .null) st h
    | _ => False
  | .astore_n k => match st with
    | .ref v :: st => (k : Nat) < lv.length ∧ R nx (ts_s1 lv k (.ref v)) st h
    | _ => False
  | .astore k => match st with
    | .ref v :: st => k < lv.length ∧ R nx (ts_s1 lv k (.ref v)) st h
    | _ => False
  | .iinc k n => match lv[k]? with
    | some (.int v) => R nx (ts_s1 lv k (.int (v + Int32.ofInt n))) st h
    | _ => False
  | .iadd => match st with
    | .int b :: .int a :: st => R nx lv (.int (a + b) :: st) h
    | _ => False
  | .isub => match st with
    | .int b :: .int a :: st => R nx lv (.int (a - b) :: st) h
    | _ => False
  | .imul => match st with
    | .int b :: .int a :: st => R nx lv (.int (a * b) :: st) h
    | _ => False
  | .idiv => match st with
    | .int b :: .int a :: st => ¬ b = 0 ∧ R nx lv (.int (a / b) :: st) h
    | _ => False
  | .irem => match st with
    | .int b :: .int a :: st => ¬ b = 0 ∧ R nx lv (.int (ts_rem a b) :: st) h
    | _ => False
  | .ineg => match st with
    | .int a :: st => R nx lv (.int (-a) :: st) h
    | _ => False
  | .iand => match st with
    | .int b :: .int a :: st => R nx lv (.int (a &&& b) :: st) h
    | _ => False
  | .ior => match st with
    | .int b :: .int a :: st => R nx lv (.int (a ||| b) :: st) h
    | _ => False
  | .ixor => match st with
    | .int b :: .int a :: st => R nx lv (.int (a ^^^ b) :: st) h
    | _ => False
  | .ishl => match st with
    | .int b :: .int a :: st => R nx lv (.int (a <<< (b &&& 31)) :: st) h
    | _ => False
  | .ishr => match st with
    | .int b :: .int a :: st => R nx lv (.int (a >>> (b &&& 31)) :: st) h
    | _ => False
  | .iushr => match st with
    | .int b :: .int a :: st => R nx lv (.int (ts_ushr a b) :: st) h
    | _ => False
  | .ladd => match st with
    | .long b :: .long a :: st => R nx lv (.long (a + b) :: st) h
    | _ => False
  | .lmul => match st with
    | .long b :: .long a :: st => R nx lv (.long (a * b) :: st) h
    | _ => False
  | .ldiv => match st with
    | .long b :: .long a :: st => ¬ b = 0 ∧ R nx lv (.long (a / b) :: st) h
    | _ => False
  | .lrem => match st with
    | .long b :: .long a :: st => ¬ b = 0 ∧ R nx lv (.long (ts_lrem a b) :: st) h
    | _ => False
  | .land => match st with
    | .long b :: .long a :: st => R nx lv (.long (a &&& b) :: st) h
    | _ => False
  | .lor => match st with
    | .long b :: .long a :: st => R nx lv (.long (a ||| b) :: st) h
    | _ => False
  | .lshl => match st with
    | .int b :: .long a :: st => R nx lv (.long (a <<< (b.toInt64 &&& 63)) :: st) h
    | _ => False
  | .lcmp => match st with
    | .long b :: .long a :: st => R nx lv (.int (lg_cmp a b) :: st) h
    | _ => False
  | .i2l => match st with
    | .int a :: st => R nx lv (.long a.toInt64 :: st) h
    | _ => False
  | .l2i => match st with
    | .long a :: st => R nx lv (.int a.toInt32 :: st) h
    | _ => False
  | .i2b => match st with
    | .int a :: st => R nx lv (.int a.toInt8.toInt32 :: st) h
    | _ => False
  | .i2s => match st with
    | .int a :: st => R nx lv (.int a.toInt16.toInt32 :: st) h
    | _ => False
  | .i2c => match st with
    | .int a :: st => R nx lv (.int (ts_i2c a) :: st) h
    | _ => False
  | .dup => match st with
    | v :: st => v.category = 1 ∧ R nx lv (v :: v :: st) h
    | _ => False
  | .dup2 => match st with
    | .long v :: st => R nx lv (.long v :: .long v :: st) h
    | v :: w :: st => v.category = 1 ∧ w.category = 1 ∧ R nx lv (v :: w :: v :: w :: st) h
    | _ => False
  | .pop => match st with
    | v :: st => v.category = 1 ∧ R nx lv st h
    | _ => False
  | .goto _ => R tg lv st h
  | .ifCond c _ => match st with
    | .int a :: st => (ts_cmp c a 0 → R tg lv st h) ∧ (¬ ts_cmp c a 0 → R nx lv st h)
    | _ => False
  | .if_icmp c _ => match st with
    | .int b :: .int a :: st => (ts_cmp c a b → R tg lv st h) ∧ (¬ ts_cmp c a b → R nx lv st h)
    | _ => False
  | .tableswitch d lo hi offs => match st with
    | .int a :: st => ∃ t, ts_sw (.tableswitch d lo hi offs) pc a = some t ∧ R t lv st h
    | _ => False
  | .lookupswitch d ps => match st with
    | .int a :: st => ∃ t, ts_sw (.lookupswitch d ps) pc a = some t ∧ R t lv st h
    | _ => False
  | .getstatic k => match ts_sg (ts_mc m) k with
    | some v => R nx lv (v :: st) h
    | none => False
  | .getfield k => match st with
    | .ref a :: st => match Nat.beq a 1004 with
      | true => (match ts_sf (ts_mc m) k with
        | some v => R nx lv (v :: st) h
        | none => False)
      | false => match ts_ft (ts_mc m) k with
        | some (ci, j) => ts_isI h.2.2.2 a ci = true ∧ (match (ts_fk.getD ci []).getD j 9 with
          | 0 => R nx lv (.int (h.1 a j) :: st) h
          | 1 => R nx lv (.int (h.1 a j) :: st) h
          | 2 => ∃ r, ts_pg h.2.2.1 a j = some r ∧ ¬ r = 0 ∧ R nx lv (.ref r :: st) h
          | _ => False)
        | none => False
    | _ => False
  | .putfield k => match st with
    | .int v :: .ref a :: st => match ts_ft (ts_mc m) k with
      | some (ci, j) => ts_isI h.2.2.2 a ci = true ∧ (ts_ff.getD ci []).getD j true = false ∧ (match (ts_fk.getD ci []).getD j 9 with
          | 0 => R nx lv st (ts_up h.1 a j v, h.2)
          | 1 => (v = 0 ∨ v = 1) ∧ R nx lv st (ts_up h.1 a j v, h.2)
          | _ => False)
      | none => False
    | .ref v :: .ref a :: st => match ts_ft (ts_mc m) k with
      | some (ci, j) => (ts_isI h.2.2.2 a ci = true ∧ (ts_pg h.2.2.1 a j).isSome = true) ∧ ¬ v = 0 ∧ v < 1000 ∧ ((ts_ff.getD ci []).getD j true = false ∨ ((ts_mi.getD m ts_mx).1.name = "<init>" ∧ ts_mc m = ci ∧ (ts_ff.getD ci []).getD j false = true)) ∧ (match (ts_fk.getD ci []).getD j 9 with
          | 2 => R nx lv st (h.1, h.2.1, ts_ps h.2.2.1 a j v, h.2.2.2)
          | _ => False)
      | none => False
    | _ => False
  | .iaload => match st with
    | .int x :: .ref a :: st => ∃ n f, ts_ai X h.1 h.2.2.2 a = some (n, f) ∧ vp_in x n ∧ R nx lv (.int (f x.toNatClampNeg) :: st) h
    | _ => False
  | .laload => match st with
    | .int x :: .ref a :: st => ∃ n, ts_sA h.2.2.2 a = some (1, n) ∧ vp_in x n ∧ R nx lv (.long (h.2.1 a x.toNatClampNeg) :: st) h
    | _ => False
  | .aaload => match st with
    | .int x :: .ref a :: st => ∃ k n r, ts_sA h.2.2.2 a = some (k, n) ∧ (k = 2 ∨ k = 3) ∧ vp_in x n ∧ ts_pg h.2.2.1 a x.toNatClampNeg = some r ∧ ¬ r = 0 ∧ R nx lv (.ref r :: st) h
    | _ => False
  | .baload => match st with
    | .int x :: .ref a :: st => a = 1005 ∧ vp_in x 6 ∧ R nx lv (.int (ts_tx.getD x.toNatClampNeg 0) :: st) h
    | _ => False
  | .iastore => match st with
    | .int v :: .int x :: .ref a :: st => ∃ n, ts_sA h.2.2.2 a = some (0, n) ∧ vp_in x n ∧ R nx lv st (ts_up h.1 a x.toNatClampNeg v, h.2)
    | _ => False
  | .lastore => match st with
    | .long v :: .int x :: .ref a :: st => ∃ n, ts_sA h.2.2.2 a = some (1, n) ∧ vp_in x n ∧ R nx lv st (h.1, ts_up h.2.1 a x.toNatClampNeg v, h.2.2)
    | _ => False
  | .aastore => match st with
    | .ref v :: .int x :: .ref a :: st => ∃ n, (ts_sA h.2.2.2 a = some (2, n) ∧ (ts_pg h.2.2.1 a x.toNatClampNeg).isSome = true) ∧ ts_isI h.2.2.2 v 7 = true ∧ vp_in x n ∧ R nx lv st (h.1, h.2.1, ts_ps h.2.2.1 a x.toNatClampNeg v, h.2.2.2)
    | _ => False
  | .arraylength => match st with
    | .ref a :: st => ∃ n, ts_al X h.2.2.2 a = some n ∧ R nx lv (.int (Int32.ofNat n) :: st) h
    | _ => False
  | .new k => match ts_nw (ts_mc m) k with
    | some ci => ∃ n, n = (ts_fk.getD ci []).length ∧ ts_room m E lv st h 1 n ∧ R nx lv (.ref (h.2.2.2.length + 1) :: st) (ts_rz h.1 0 (h.2.2.2.length + 1) (h.2.2.2.length + 2), ts_rz h.2.1 0 (h.2.2.2.length + 1) (h.2.2.2.length + 2), h.2.2.1 ++ [List.replicate n 0], h.2.2.2 ++ [(10 + ci, n)])
    | none => False
  | .newarray ty => match st with
    | .int x :: st => ∃ k n, (ty = .int ∧ k = 0 ∨ ty = .long ∧ k = 1) ∧ ¬ x < 0 ∧ x.toNatClampNeg = n ∧ n < 1000 ∧ ts_room m E lv st h 1 n ∧ R nx lv (.ref (h.2.2.2.length + 1) :: st) (ts_rz h.1 0 (h.2.2.2.length + 1) (h.2.2.2.length + 2), ts_rz h.2.1 0 (h.2.2.2.length + 1) (h.2.2.2.length + 2), h.2.2.1 ++ [[]], h.2.2.2 ++ [(k, n)])
    | _ => False
  | .anewarray k => match st with
    | .int x :: st => ts_mc m = 11 ∧ k = 85 ∧ ∃ n, ¬ x < 0 ∧ x.toNatClampNeg = n ∧ n < 1000 ∧ ts_room m E lv st h 1 n ∧ (∀ q ∈ h.2.2.2, ¬ q.1 = 2) ∧ R nx lv (.ref (h.2.2.2.length + 1) :: st) (ts_rz h.1 0 (h.2.2.2.length + 1) (h.2.2.2.length + 2), ts_rz h.2.1 0 (h.2.2.2.length + 1) (h.2.2.2.length + 2), h.2.2.1 ++ [List.replicate n 0], h.2.2.2 ++ [(2, n)])
    | _ => False
  | .multianewarray k d => match st with
    | .int y :: .int x :: st => ts_mc m = 3 ∧ k = 30 ∧ d = 2 ∧ ∃ n z, ¬ x < 0 ∧ ¬ y < 0 ∧ x.toNatClampNeg = n ∧ y.toNatClampNeg = z ∧ n < 100 ∧ z < 100 ∧ ts_room m E lv st h (1 + n) (n + n * z) ∧ (∀ q ∈ h.2.2.2, ¬ q.1 = 3) ∧ R nx lv (.ref (h.2.2.2.length + 1) :: st) (ts_rz h.1 0 (h.2.2.2.length + 1) (h.2.2.2.length + 2 + n), ts_rz h.2.1 0 (h.2.2.2.length + 1) (h.2.2.2.length + 2 + n), h.2.2.1 ++ ((List.range n).map (fun q => h.2.2.2.length + 2 + q)) :: List.replicate n [], h.2.2.2 ++ (3, n) :: List.replicate n (0, z))
    | _ => False
  | .invokevirtual k => match ts_cal (ts_mc m) k with
    | some (0, y, n) => match st.drop n with
      | .ref a :: rest => (a = 1004 ∧ ts_mc y = 17 ∨ ts_rcv h.2.2.2 a y = true) ∧ (st.take n).length = n ∧ ts_call C m E R nx lv y (.ref a :: (st.take n).reverse) rest h
      | _ => False
    | _ => False
  | .invokestatic k => match ts_cal (ts_mc m) k with
    | some (1, y, n) => (st.take n).length = n ∧ ts_call C m E R nx lv y (st.take n).reverse (st.drop n) h
    | some (3, y, n) => (st.take n).length = n ∧ ts_call C m E R nx lv y (st.take n).reverse (st.drop n) h
    | some (5, _, _) => match st with
      | .int b :: .int a :: rest => ts_cat rest ≤ 8 ∧ R nx lv (.int (if a < b then b else a) :: rest) h
      | _ => False
    | some (6, _, _) => match st with
      | .int b :: .int a :: rest => ts_cat rest ≤ 8 ∧ R nx lv (.int (if b < a then b else a) :: rest) h
      | _ => False
    | some (7, _, _) => match st with
      | .int a :: rest => ts_cat rest ≤ 8 ∧ R nx lv (.int (if 0 ≤ a then a else 0 - a) :: rest) h
      | _ => False
    | some (9, _, _) => match st with
      | .int n :: .int dp :: .ref b :: .int sp :: .ref a :: rest => ∃ k na nb, ts_sA h.2.2.2 a = some (k, na) ∧ ts_sA h.2.2.2 b = some (k, nb) ∧ ¬ sp < 0 ∧ ¬ dp < 0 ∧ ¬ n < 0 ∧ sp.toNatClampNeg + n.toNatClampNeg ≤ na ∧ dp.toNatClampNeg + n.toNatClampNeg ≤ nb ∧ ts_cat rest ≤ 8 ∧
        (k = 0 ∧ R nx lv rest (ts_cp h.1 a sp.toNatClampNeg b dp.toNatClampNeg n.toNatClampNeg, h.2) ∨ k = 1 ∧ R nx lv rest (h.1, ts_cp h.2.1 a sp.toNatClampNeg b dp.toNatClampNeg n.toNatClampNeg, h.2.2))
      | _ => False
    | _ => False
  | .invokespecial k => match ts_cal (ts_mc m) k with
    | some (8, _, _) => match st with
      | .ref a :: rest => ts_cat rest ≤ 8 ∧ R nx lv rest h
      | _ => False
    | some (2, y, n) => match st.drop n with
      | .ref a :: rest => a < 1000 ∧ (st.take n).length = n ∧ ts_call C m E R nx lv y (.ref a :: (st.take n).reverse) rest h
      | _ => False
    | some (4, y, n) => match st.drop n with
      | .ref a :: rest => a < 1000 ∧ (st.take n).length = n ∧ ts_call C m E R nx lv y (.ref a :: (st.take n).reverse) rest h
      | _ => False
    | _ => False
  | .ireturn => match st with
    | [.int v] => ts_ret m E (some (.int v)) h ∧ Q (some (.int v)) h
    | _ => False
  | .lreturn => match st with
    | [.long v] => ts_ret m E (some (.long v)) h ∧ Q (some (.long v)) h
    | _ => False
  | .areturn => match st with
    | [.ref v] => v < 1000 ∧ ts_ret m E (some (.ref v)) h ∧ Q (some (.ref v)) h
    | _ => False
  | .return_ => match st with
    | [] => ts_ret m E none h ∧ Q none h
    | _ => False
  | _ => False
def ts_F (X : ts_X) (C : ts_C) (m : Nat) (E : ts_S) (Q : Option Value → ts_H → Prop) (R : ts_R) (pc : Nat) (lv st : List Value) (h : ts_H) : Prop := match ts_ins m pc with
  | none => False
  | some (i, nx, tg) => ts_Fi X C m E Q R i nx tg pc lv st h
/-- the least fixed point: from here the method ends, with Q -/
def ts_Ev (X : ts_X) (C : ts_C) (m : Nat) (E : ts_S) (Q : Option Value → ts_H → Prop) (pc : Nat) (lv st : List Value) (h : ts_H) : Prop :=
  ∀ R : ts_R, (∀ pc lv st h, ts_F X C m E Q R pc lv st h → R pc lv st h) → R pc lv st h
def ts_lay : List Value → List Value
  | [] => []
  | v :: l => if v.category = 2 then v :: .null :: ts_lay l else v :: ts_lay l
def ts_ent (n : Nat) (vs : List Value) : List Value := ts_lay vs ++ List.replicate (n - (ts_lay vs).length) .null
/-- method m called with vs over h comes back, with K; at most d calls deep -/
def ts_Cal (X : ts_X) : Nat → ts_C
  | 0 => fun _ _ _ _ => False
  | d + 1 => fun m vs h K => (ts_lay vs).length ≤ ts_ml m ∧ ts_Ev X (ts_Cal X d) m h.2.2.2 K 0 (ts_ent (ts_ml m) vs) [] h
