/-! A PURE MACHINE over which all methods are proved; part 03 shows once that the JVM of the Statement follows it.
Memory: (number of cells, kind of each cell, references), ints (by whole numbers: the cell holds iI of it), longs. A cell's kind (t, n): 1 an object of class n; 2 int[], 3 long[], 4 byte[], 5 boolean[], 6 Board[] of n places; 8 the script of n ints; 9 the text WORDS; else unknown.
Cell 0 is the script, cell 1 the text, cell k + 2 the k-th that the law makes. -/
abbrev pS : Type := Nat × (Nat → Nat × Nat) × (Nat → Nat → Option Nat)
abbrev pM : Type := pS × (Nat → Nat → Int) × (Nat → Nat → Int64)
abbrev pL : Type := List (Option Value)
abbrev pP : Type := Nat → Nat → Nat → pL → List Value → pM → Prop
abbrev pQ : Type := Option Value → pM → Prop
abbrev pCt : Type := Nat → Nat → MethodName → List Value → pM → pQ → Prop
/-- the int of a whole number -/
def iI (z : Int) : Int32 := Int32.ofInt z
def pU {α : Type} (f : Nat → Nat → α) (a k : Nat) (v : α) : Nat → Nat → α := fun b => if b = a then va_up (f a) k v else f b
def pZ {α : Type} (f : Nat → Nat → α) (a : Nat) (v : α) : Nat → Nat → α := fun b => if b = a then fun _ => v else f b
/-- a new cell -/
def pNew (M : pM) (t n : Nat) : pM := ((M.1.1 + 1, va_up M.1.2.1 M.1.1 (t, n), pZ M.1.2.2 M.1.1 none), pZ M.2.1 M.1.1 0, pZ M.2.2 M.1.1 0)
def pI (M : pM) (a k : Nat) (v : Int) : pM := (M.1, pU M.2.1 a k v, M.2.2)
def pJ (M : pM) (a k : Nat) (v : Int64) : pM := (M.1, M.2.1, pU M.2.2 a k v)
def pR (M : pM) (a k : Nat) (v : Option Nat) : pM := ((M.1.1, M.1.2.1, pU M.1.2.2 a k v), M.2.1, M.2.2)
/-- a run of an array's places is copied -/
def pCpI (M : pM) (a b sp dp n : Nat) : pM := (M.1, (fun c => if c = b then va_cpy (M.2.1 a) (M.2.1 b) sp dp n else M.2.1 c), M.2.2)
def pCpJ (M : pM) (a b sp dp n : Nat) : pM := (M.1, M.2.1, fun c => if c = b then va_cpy (M.2.2 a) (M.2.2 b) sp dp n else M.2.2 c)
def pNc (v : Option Value) : Bool := match v with
  | some (.long _) => false
  | some (.double _) => false
  | _ => true
/-- a local is stored -/
def pSt (ls : pL) (k : Nat) (v : Value) : pL :=
  let l1 : pL := match k with
    | 0 => ls
    | k' + 1 => match ls[k']? with
      | some x => if pNc x then ls else ls.set k' none
      | none => ls
  if v.category = 2 then (l1.set (k + 1) none).set k (some v) else l1.set k (some v)
def pSl (v : Value) : pL := match v with
  | .long x => [some (.long x), none]
  | .double x => [some (.double x), none]
  | v => [some v]
def pSls : List Value → pL
  | [] => []
  | v :: r => pSl v ++ pSls r
def pNo : Nat → pL
  | 0 => []
  | n + 1 => none :: pNo n
def pEnt (as : List Value) (n : Nat) : pL := pSls as ++ pNo (n - (pSls as).length)
/-- the sum of the stack's words -/
def pCat : List Value → Nat
  | [] => 0
  | v :: r => v.category + pCat r

/-! resolved entries of the constant pools -/
def pT (C : String) (k : Nat) (q : String × String × String × Bool) : Prop := True
/-- field k of class ci (q: declarer, name, descriptor, final), of type ty: 0 int, 1 long, 2 reference, 3 boolean -/
def pTy (d : String) : Nat := if d = "I" then 0 else if d = "J" then 1 else if d = "Z" then 3 else 2
def pFld (own : String) (idx ci k ty : Nat) : Prop :=
  ∃ (C : String) (T : u_T) (N : Nat), vwCl[ci]? = some (C, T, N) ∧ k < N ∧ pTy (T k).2.2.1 = ty ∧ (Cond.fieldLink own idx (T k).1 (T k).2.1 (T k).2.2.1 ∈ lw_tbl ∨ ∃ h, Cond.fieldLinkNest own idx (T k).1 (T k).2.1 (T k).2.2.1 h ∈ lw_tbl)
/-- it may be written in method y -/
def pWr (y : MethodName) (ci k : Nat) : Prop :=
  ∃ (C : String) (T : u_T) (N : Nat), vwCl[ci]? = some (C, T, N) ∧ ((T k).2.2.2 = false ∨ ((T k).2.2.2 = true ∧ y.name = "<init>" ∧ (T k).1 = y.cls))
def pCls (own : String) (idx ci N : Nat) : Prop :=
  ∃ (C : String) (T : u_T), vwCl[ci]? = some (C, T, N) ∧ Cond.classLink own idx C ∈ lw_tbl ∧ Cond.instantiable C N ∈ lw_tbl ∧ Cond.initialized C ∈ lw_tbl
def pLk (own : String) (idx : Nat) (y : MethodName) : Prop := Cond.methodLink own idx y ∈ lw_tbl ∨ ∃ h, Cond.methodLinkNest own idx y h ∈ lw_tbl
def pNm (y : MethodName) (n : Nat) : Prop := y.cls ≠ "java/lang/invoke/MethodHandle" ∧ y.cls ≠ "java/lang/invoke/VarHandle" ∧ (parseMethodDescriptor y.desc).map (fun d => d.parameters.length) = some n ∧ Cond.initialized y.cls ∈ lw_tbl
/-- a virtual call on an object of class ci -/
def pVi (own : String) (idx ci n : Nat) (y : MethodName) : Prop :=
  pLk own idx y ∧ pNm y n ∧ Cond.instanceMethod y ∈ lw_tbl ∧ Cond.selects y.cls y y ∈ lw_tbl ∧ ∃ (T : u_T) (N : Nat), vwCl[ci]? = some (y.cls, T, N)
def pSp (own : String) (idx n : Nat) (y : MethodName) : Prop := pLk own idx y ∧ pNm y n ∧ Cond.instanceMethod y ∈ lw_tbl ∧ y.name = "<init>"
def pSs (own : String) (idx n : Nat) (y : MethodName) : Prop := pLk own idx y ∧ pNm y n ∧ Cond.static y ∈ lw_tbl
def pCp (own : String) (idx : Nat) : Prop := Cond.methodLink own idx arraycopyName ∈ lw_tbl
def pOi (own : String) (idx : Nat) : Prop := Cond.methodLink own idx objectInit ∈ lw_tbl
/-- the value that an instruction pushes -/
def pPush (own : String) (i : Instr) (len : Nat) (v : Value) : Prop :=
  (∃ n : Int, i = .iconst n ∧ len = 1 ∧ v = .int (Int32.ofInt n)) ∨ (∃ n : Int, i = .bipush n ∧ len = 2 ∧ v = .int (Int8.ofInt n).toInt32) ∨ (∃ n : Int, i = .sipush n ∧ len = 3 ∧ v = .int (Int16.ofInt n).toInt32) ∨
  (∃ n : Fin 2, i = .lconst n ∧ len = 1 ∧ v = .long (Int64.ofNat n)) ∨ (∃ (k : Nat) (x : Int32), i = .ldc k ∧ len = 2 ∧ v = .int x ∧ Cond.constant own k x ∈ lw_tbl) ∨ (∃ (k : Nat) (x : Int64), i = .ldc2_w k ∧ len = 3 ∧ v = .long x ∧ Cond.constantLong own k x ∈ lw_tbl)
def pLoad (i : Instr) (len k : Nat) (v : Value) : Prop :=
  (∃ x, v = .int x ∧ ((i = .iload k ∧ len = 2) ∨ ∃ q : Fin 4, i = .iload_n q ∧ len = 1 ∧ (q : Nat) = k)) ∨ (∃ x, v = .long x ∧ ((i = .lload k ∧ len = 2) ∨ ∃ q : Fin 4, i = .lload_n q ∧ len = 1 ∧ (q : Nat) = k)) ∨
  (∃ x, v = .ref x ∧ ((i = .aload k ∧ len = 2) ∨ ∃ q : Fin 4, i = .aload_n q ∧ len = 1 ∧ (q : Nat) = k))
def pStore (i : Instr) (len k : Nat) (v : Value) : Prop :=
  (∃ x, v = .int x ∧ ((i = .istore k ∧ len = 2) ∨ ∃ q : Fin 4, i = .istore_n q ∧ len = 1 ∧ (q : Nat) = k)) ∨ (∃ x, v = .long x ∧ ((i = .lstore k ∧ len = 2) ∨ ∃ q : Fin 4, i = .lstore_n q ∧ len = 1 ∧ (q : Nat) = k)) ∨
  (∃ x, v = .ref x ∧ ((i = .astore k ∧ len = 2) ∨ ∃ q : Fin 4, i = .astore_n q ∧ len = 1 ∧ (q : Nat) = k))

def pOp1 (i : Instr) (st st2 : List Value) : Prop :=
  (∃ (x y : Int32) (r : List Value), i = .iadd ∧ st = .int y :: .int x :: r ∧ st2 = .int (x + y) :: r) ∨
  (∃ (x y : Int32) (r : List Value), i = .isub ∧ st = .int y :: .int x :: r ∧ st2 = .int (x - y) :: r) ∨
  (∃ (x y : Int32) (r : List Value), i = .imul ∧ st = .int y :: .int x :: r ∧ st2 = .int (x * y) :: r) ∨
  (∃ (x y : Int32) (r : List Value), i = .iand ∧ st = .int y :: .int x :: r ∧ st2 = .int (x &&& y) :: r) ∨
  (∃ (x y : Int32) (r : List Value), i = .ior ∧ st = .int y :: .int x :: r ∧ st2 = .int (x ||| y) :: r) ∨
  (∃ (x y : Int32) (r : List Value), i = .ixor ∧ st = .int y :: .int x :: r ∧ st2 = .int (x ^^^ y) :: r) ∨
  (∃ (x y : Int32) (r : List Value), i = .ishl ∧ st = .int y :: .int x :: r ∧ st2 = .int (x <<< (y &&& 31)) :: r) ∨
  (∃ (x y : Int32) (r : List Value), i = .ishr ∧ st = .int y :: .int x :: r ∧ st2 = .int (x >>> (y &&& 31)) :: r) ∨
  (∃ (x y : Int32) (r : List Value), i = .idiv ∧ st = .int y :: .int x :: r ∧ st2 = .int (x / y) :: r ∧ ¬ y = 0)
def pOp2 (i : Instr) (st st2 : List Value) : Prop :=
  (∃ (x y : Int32) (r : List Value), i = .irem ∧ st = .int y :: .int x :: r ∧ st2 = .int (x - x / y * y) :: r ∧ ¬ y = 0) ∨
  (∃ (x : Int32) (r : List Value), i = .ineg ∧ st = .int x :: r ∧ st2 = .int (-x) :: r) ∨
  (∃ (x : Int32) (r : List Value), i = .i2l ∧ st = .int x :: r ∧ st2 = .long x.toInt64 :: r) ∨
  (∃ (x : Int64) (r : List Value), i = .l2i ∧ st = .long x :: r ∧ st2 = .int x.toInt32 :: r) ∨
  (∃ (x : Int32) (r : List Value), i = .i2b ∧ st = .int x :: r ∧ st2 = .int x.toInt8.toInt32 :: r) ∨
  (∃ (x y : Int64) (r : List Value), i = .ladd ∧ st = .long y :: .long x :: r ∧ st2 = .long (x + y) :: r) ∨
  (∃ (x y : Int64) (r : List Value), i = .lsub ∧ st = .long y :: .long x :: r ∧ st2 = .long (x - y) :: r) ∨
  (∃ (x y : Int64) (r : List Value), i = .lmul ∧ st = .long y :: .long x :: r ∧ st2 = .long (x * y) :: r) ∨
  (∃ (x y : Int64) (r : List Value), i = .land ∧ st = .long y :: .long x :: r ∧ st2 = .long (x &&& y) :: r)
def pOp3 (i : Instr) (st st2 : List Value) : Prop :=
  (∃ (x y : Int64) (r : List Value), i = .lor ∧ st = .long y :: .long x :: r ∧ st2 = .long (x ||| y) :: r) ∨
  (∃ (x y : Int64) (r : List Value), i = .lxor ∧ st = .long y :: .long x :: r ∧ st2 = .long (x ^^^ y) :: r) ∨
  (∃ (x : Int64) (y : Int32) (r : List Value), i = .lshl ∧ st = .int y :: .long x :: r ∧ st2 = .long (x <<< (y.toInt64 &&& 63)) :: r) ∨
  (∃ (x : Int64) (y : Int32) (r : List Value), i = .lshr ∧ st = .int y :: .long x :: r ∧ st2 = .long (x >>> (y.toInt64 &&& 63)) :: r) ∨
  (∃ (x : Int64) (y : Int32) (r : List Value), i = .lushr ∧ st = .int y :: .long x :: r ∧ st2 = .long (x.toUInt64 >>> (y.toInt64.toUInt64 &&& Int64.toUInt64 63)).toInt64 :: r) ∨
  (∃ (x y : Int64) (r : List Value), i = .lcmp ∧ st = .long y :: .long x :: r ∧ st2 = .int (lg_cmp x y) :: r) ∨
  (∃ (v : Value) (r : List Value), i = .dup ∧ st = v :: r ∧ st2 = v :: v :: r ∧ v.category = 1) ∨
  (∃ (v : Value) (r : List Value), i = .pop ∧ st = v :: r ∧ st2 = r ∧ v.category = 1) ∨
  (∃ (v u : Value) (r : List Value), i = .dup2 ∧ st = v :: u :: r ∧ st2 = v :: u :: v :: u :: r ∧ v.category = 1 ∧ u.category = 1)
/-- a condition of a branch -/
def pB0 (c : ClassFile.Cond) (x : Int32) : Prop := match c with
  | .eq => x = 0
  | .ne => ¬ x = 0
  | .lt => x < 0
  | .ge => 0 ≤ x
  | .gt => 0 < x
  | .le => x ≤ 0
def pB2 (c : ClassFile.Cond) (x y : Int32) : Prop := match c with
  | .eq => x = y
  | .ne => ¬ x = y
  | .lt => x < y
  | .ge => y ≤ x
  | .gt => y < x
  | .le => x ≤ y

theorem pIn_r {ws : List Cond} (ps : List Nat) (hp : ws = ps.filterMap (fun i => tables_1[i]?)) : ∀ w ∈ ws, w ∈ lw_tbl := by
  intro w hw
  rw [hp] at hw
  obtain ⟨i, -, hi⟩ := List.mem_filterMap.mp hw
  exact List.mem_append_right _ (List.mem_of_getElem? hi)
theorem pIn {w : Cond} (i : Nat) (h : tables_1[i]? = some w) : w ∈ lw_tbl := List.mem_append_right _ (List.mem_of_getElem? h)
