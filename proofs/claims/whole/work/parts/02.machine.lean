/-! A FLAT MACHINE. All cells of the system stand in one list of shapes; memory is a function (cell, place) to an int; references are numbers of cells and never change. -/
abbrev hm_V : Type := Int32 ⊕ (Int64 ⊕ Nat)
abbrev hm_M : Type := Nat → Nat → Int32
abbrev hm_S : Type := (Bool × Nat) ⊕ (Nat × List (Option Nat))
abbrev hm_L : Type := List (Option hm_V)
/-- pc, next pc, the instruction; operation, three numbers, a list; place in the tables -/
abbrev hm_I : Type := Nat × Nat × Instr × Nat × Int × Nat × List (Int × Nat) × Nat
/-- name, code, locals, answer, static, arguments, places in the tables, instructions -/
abbrev hm_X : Type := MethodName × ByteArray × Nat × Option FieldType × Bool × Nat × List Nat × List hm_I
def hm_row (M : hm_M) (k : Nat) (f : Nat → Int32) : hm_M := fun q => if q = k then f else M q
def hm_up (M : hm_M) (k j : Nat) (v : Int32) : hm_M := hm_row M k (upd (M k) j v)
/-- the cells, in the order in which they are made -/
def hm_hob (k : Nat) : List hm_S := [.inr (3, [some (k + 1), some (k + 2), some (k + 3), some (k + 4), none, none, none, none, none, none, none]), .inl (false, 7), .inl (false, 7), .inl (false, 7), .inl (false, 7)]
def hm_sh : List hm_S := [
  .inr (7, [some 1, some 5, some 7, some 12, some 17, some 19, some 21, some 28, none]),
  .inr (5, [some 2, some 3, some 4]), .inl (false, 8), .inl (false, 8), .inl (false, 320),
  .inr (6, [some 6, none, none, none, none, none, none]), .inl (false, 90),
  .inr (3, [some 8, some 9, some 10, some 11, none, none, none, none, none, none, none]), .inl (false, 7), .inl (false, 7), .inl (false, 7), .inl (false, 7),
  .inr (3, [some 13, some 14, some 15, some 16, none, none, none, none, none, none, none]), .inl (false, 7), .inl (false, 7), .inl (false, 7), .inl (false, 7),
  .inr (0, [some 18, none, none]), .inl (false, 840),
  .inr (4, [some 20, none]), .inl (false, 70),
  .inr (2, [some 7, some 22, some 27]),
  .inr (3, [some 23, some 24, some 25, some 26, none, none, none, none, none, none, none]), .inl (false, 7), .inl (false, 7), .inl (false, 7), .inl (false, 7),
  .inl (false, 12),
  .inr (1, [some 7, some 29, none]), .inl (false, 16),
  .inr (8, [some 31, some 32, some 33, some 34, none, some 35, none, none, none, none, none, none, none, some 36, some 37, some 38, some 39, none, some 40, some 41, some 42, none]),
  .inl (false, 8), .inl (false, 8), .inl (false, 320), .inl (false, 40), .inl (false, 90), .inl (false, 53), .inl (false, 53), .inl (false, 53), .inl (false, 1272), .inl (false, 106), .inl (true, 2), .inl (false, 16)]
/-- the tables that nobody writes -/
def hm_ros : List (String × String × List Int32) := [
  ("PuddingHobs$Foresight", "LEAST_TRIED", [1, 0, 0, 5, 5]), ("PuddingHobs$Foresight", "MOST_TRIED", [5, 20, 9, 60, 60]),
  ("PuddingHobs$Asks", "PARENT", [-1, 0, 1, 1, 0, 4]), ("PuddingHobs$Asks", "SIZE_BODY", [10, 11, 12, 11, 13, 14]), ("PuddingHobs$Asks", "MARK_BODY", [20, 21, 24, 22, 23, 23])]
/-- an array of ints, or of booleans, that can be read: how long it is, what it holds -/
def hm_arr (M : hm_M) (z : Bool) (k : Nat) : Option (Nat × (Nat → Int32)) :=
  match hm_sh[k]? with
  | some (.inl (z', n)) => if z' = z then some (n, M k) else none
  | some (.inr _) => none
  | none =>
    if z = true then none else if k < 1000 then none else if k = 1005 then some ((M 1006 0).toNatClampNeg, M 1005)
    else match hm_ros[k - 1000]? with
      | some (_, _, l) => some (l.length, fun j => l.getD j 0)
      | none => none
def hm_fld (k : Nat) (ci : Int) (j : Nat) : Option (Option Nat) :=
  match hm_sh[k]? with
  | some (.inr (c, fl)) => if (c : Int) = ci then fl[j]? else none
  | _ => none
def hm_bin (b : Nat) (x y : Int32) : Int32 :=
  match b with
  | 0 => x + y
  | 1 => x - y
  | 2 => x * y
  | 3 => x &&& y
  | 4 => x ||| y
  | 5 => x ^^^ y
  | 6 => x <<< (y &&& 31)
  | 7 => x >>> (y &&& 31)
  | _ => (x.toUInt32 >>> (y.toUInt32 &&& Int32.toUInt32 31)).toInt32
def hm_un (b : Nat) (x : Int32) : Int32 :=
  match b with
  | 0 => -x
  | 1 => x.toInt8.toInt32
  | _ => x.toInt16.toInt32
def hm_cmp (b : Nat) (x y : Int32) : Bool :=
  match b with
  | 0 => decide (x = y)
  | 1 => decide (x ≠ y)
  | 2 => decide (x < y)
  | 3 => decide (y ≤ x)
  | 4 => decide (y < x)
  | _ => decide (x ≤ y)

def hm_swt (l : List (Int × Nat)) (d : Nat) (x : Int) : Nat :=
  match l with
  | [] => d
  | (k, t) :: r => if x = k then t else hm_swt r d x
/-- no long stands just ahead of the place -/
def hm_free (ls : hm_L) (i : Nat) : Bool :=
  match i with
  | 0 => true
  | j + 1 => match ls[j]? with
    | some (some (.inr (.inl _))) => false
    | _ => true
def hm_put (a : Int) (i : Nat) (v : hm_V) (ls : hm_L) : Option hm_L :=
  if i < ls.length then
    if hm_free ls i = true then
      match a, v with
      | 0, .inl x => some (ls.set i (some (.inl x)))
      | 1, .inr (.inr k) => some (ls.set i (some (.inr (.inr k))))
      | 2, .inr (.inl x) => if i + 1 < ls.length then some ((ls.set i (some (.inr (.inl x)))).set (i + 1) none) else none
      | _, _ => none
    else none
  else none
def hm_kind (a : Int) (v : hm_V) : Bool :=
  match a, v with
  | 0, .inl _ => true
  | 1, .inr (.inr _) => true
  | 2, .inr (.inl _) => true
  | _, _ => false
def hm_short (v : hm_V) : Bool :=
  match v with
  | .inr (.inl _) => false
  | _ => true
abbrev hm_R : Type := Nat × hm_L × List hm_V × hm_M
/-- one step that is no call and no answer -/
def hm_step (d nx : Nat) (op : Nat) (a : Int) (b : Nat) (l : List (Int × Nat)) (ls : hm_L) (st : List hm_V) (M : hm_M) : Option hm_R :=
  match op with
  | 0 => some (nx, ls, .inl (nI b) :: st, M)
  | 1 => match ls[b]? with
    | some (some v) => if hm_kind a v = true then some (nx, ls, v :: st, M) else none
    | _ => none
  | 2 => match st with
    | v :: r => match hm_put a b v ls with
      | some ls' => some (nx, ls', r, M)
      | none => none
    | _ => none
  | 3 => match ls[b]? with
    | some (some (.inl x)) => match hm_put 0 b (.inl (x + Int32.ofInt a)) ls with
      | some ls' => some (nx, ls', st, M)
      | none => none
    | _ => none
  | 4 => match st with
    | .inl y :: .inl x :: r => some (nx, ls, .inl (hm_bin b x y) :: r, M)
    | _ => none
  | 5 => match st with
    | .inl y :: .inl x :: r => if y = 0 then none else some (nx, ls, .inl (x / y) :: r, M)
    | _ => none
  | 6 => match st with
    | .inl y :: .inl x :: r => if y = 0 then none else some (nx, ls, .inl (x - x / y * y) :: r, M)
    | _ => none
  | 7 => match st with
    | .inl x :: r => some (nx, ls, .inl (hm_un b x) :: r, M)
    | _ => none
  | 8 => match st with
    | .inl x :: r => some (nx, ls, .inr (.inl x.toInt64) :: r, M)
    | _ => none
  | 9 => match st with
    | .inr (.inl x) :: r => some (nx, ls, .inl x.toInt32 :: r, M)
    | _ => none
  | 10 => some (nx, ls, .inr (.inl (lN b)) :: st, M)
  | 11 => match st with
    | .inr (.inl y) :: .inr (.inl x) :: r => some (nx, ls, .inr (.inl (x * y)) :: r, M)
    | _ => none
  | 12 => match st with
    | .inr (.inl y) :: .inr (.inl x) :: r => if y = 0 then none else some (nx, ls, .inr (.inl (x - x / y * y)) :: r, M)
    | _ => none
  | 13 => match st with
    | .inr (.inl y) :: .inr (.inl x) :: r => some (nx, ls, .inl (lg_cmp x y) :: r, M)
    | _ => none
  | 14 => match st with
    | .inl x :: r => some (if hm_cmp b x 0 = true then a.toNat else nx, ls, r, M)
    | _ => none
  | 15 => match st with
    | .inl y :: .inl x :: r => some (if hm_cmp b x y = true then a.toNat else nx, ls, r, M)
    | _ => none
  | 16 => some (a.toNat, ls, st, M)
  | 17 => match st with
    | .inl x :: r => some (hm_swt l a.toNat x.toInt, ls, r, M)
    | _ => none
  | 18 => match st with
    | .inr (.inr k) :: r => match hm_fld k a b with
      | some none => some (nx, ls, .inl (M k b) :: r, M)
      | some (some q) => some (nx, ls, .inr (.inr q) :: r, M)
      | none => none
    | _ => none
  | 19 => match st with
    | .inl x :: .inr (.inr k) :: r => match hm_fld k a b with
      | some none => some (nx, ls, r, hm_up M k b x)
      | _ => none
    | _ => none
  | 20 => match st with
    | .inl i :: .inr (.inr k) :: r => match hm_arr M (b == 1) k with
      | some (n, f) => if i < 0 ∨ n ≤ i.toNatClampNeg then none else some (nx, ls, .inl (f i.toNatClampNeg) :: r, M)
      | none => none
    | _ => none
  | 21 => match st with
    | .inl x :: .inl i :: .inr (.inr k) :: r => match hm_sh[k]? with
      | some (.inl (z, n)) => if z = (b == 1) then if (b = 1 ∧ ¬ (x = 0 ∨ x = 1)) ∨ i < 0 ∨ n ≤ i.toNatClampNeg then none else some (nx, ls, r, hm_up M k i.toNatClampNeg x) else none
      | _ => none
    | _ => none
  | 22 => match st with
    | .inr (.inr k) :: r => match hm_arr M false k with
      | some (n, _) => some (nx, ls, .inl (nI n) :: r, M)
      | none => none
    | _ => none
  | 23 => if b < 5 then some (nx, ls, .inr (.inr (1000 + b)) :: st, M) else none
  | 24 => match st with
    | v :: r => if hm_short v = true then some (nx, ls, v :: v :: r, M) else none
    | _ => none
  | 25 => match st with
    | v :: r => if hm_short v = true then some (nx, ls, r, M) else none
    | _ => none
  | 26 => match st with
    | v :: w :: r => if hm_short v = true ∧ hm_short w = true then some (nx, ls, v :: w :: v :: w :: r, M) else none
    | _ => none
  | 28 => match d, st with
    | _ + 1, [.inl n, .inl dp, .inr (.inr k1), .inl sp, .inr (.inr k0)] => match hm_sh[k0]?, hm_sh[k1]? with
      | some (.inl (false, n0)), some (.inl (false, n1)) => if sp < 0 ∨ dp < 0 ∨ n < 0 ∨ n0 < sp.toNatClampNeg + n.toNatClampNeg ∨ n1 < dp.toNatClampNeg + n.toNatClampNeg then none
        else some (nx, ls, [], hm_row M k1 (va_cpy (M k0) (M k1) sp.toNatClampNeg dp.toNatClampNeg n.toNatClampNeg))
      | _, _ => none
    | _, _ => none
  | 31 => some (nx, ls, .inl (Int32.ofInt a) :: st, M)
  | 32 => match d, st with
    | _ + 1, .inl y :: .inl x :: r => if r.length ≤ 4 then some (nx, ls, .inl (if x < y then y else x) :: r, M) else none
    | _, _ => none
  | 33 => match d, st with
    | _ + 1, .inl y :: .inl x :: r => if r.length ≤ 4 then some (nx, ls, .inl (if y < x then y else x) :: r, M) else none
    | _, _ => none
  | _ => none
def hm_sl (v : hm_V) : hm_L :=
  match v with
  | .inl x => [some (.inl x)]
  | .inr (.inl x) => [some (.inr (.inl x)), none]
  | .inr (.inr k) => [some (.inr (.inr k))]
def hm_ent (n : Nat) (vs : List hm_V) : hm_L := vs.flatMap hm_sl ++ List.replicate (n - (vs.flatMap hm_sl).length) none
/-- the receiver is of the class that the method is told in -/
def hm_recv (y : MethodName) (st : Bool) (vs : List hm_V) : Bool :=
  if st = true then true else match vs with
    | .inr (.inr k) :: _ => match hm_sh[k]? with
      | some (.inr (c, _)) => match vwCl[c]? with
        | some q => decide (q.1 = y.cls)
        | none => false
      | _ => false
    | _ => false
def hm_fl (own : String) (i : Nat) (q : vw_C) (j lk : Nat) : Bool := decide (j < q.2.2) && (decide (lw_tbl[lk]? = some (.fieldLink own i (q.2.1 j).1 (q.2.1 j).2.1 (q.2.1 j).2.2.1)) || decide (lw_tbl[lk]? = some (.fieldLinkNest own i (q.2.1 j).1 (q.2.1 j).2.1 (q.2.1 j).2.2.1 "PuddingHobs")))
/-- does the operation tell what the instruction does: operation by operation -/
def hm_k0 (own : String) (pc nx : Nat) (ins : Instr) (v : Int32) (lk : Nat) : Bool :=
  match ins with
  | .iconst n => decide (Int32.ofInt n = v) && decide (nx = pc + 1)
  | .bipush n => decide ((Int8.ofInt n).toInt32 = v) && decide (nx = pc + 2)
  | .sipush n => decide ((Int16.ofInt n).toInt32 = v) && decide (nx = pc + 3)
  | .ldc i => decide (lw_tbl[lk]? = some (.constant own i v)) && decide (nx = pc + 2)
  | .ldc_w i => decide (lw_tbl[lk]? = some (.constant own i v)) && decide (nx = pc + 3)
  | _ => false
def hm_k1 (pc nx : Nat) (ins : Instr) (a : Int) (b : Nat) : Bool :=
  match ins with
  | .iload i => decide (i = b) && decide (a = 0) && decide (nx = pc + 2)
  | .iload_n i => decide ((i : Nat) = b) && decide (a = 0) && decide (nx = pc + 1)
  | .aload i => decide (i = b) && decide (a = 1) && decide (nx = pc + 2)
  | .aload_n i => decide ((i : Nat) = b) && decide (a = 1) && decide (nx = pc + 1)
  | .lload i => decide (i = b) && decide (a = 2) && decide (nx = pc + 2)
  | .lload_n i => decide ((i : Nat) = b) && decide (a = 2) && decide (nx = pc + 1)
  | _ => false
def hm_k2 (pc nx : Nat) (ins : Instr) (a : Int) (b : Nat) : Bool :=
  match ins with
  | .istore i => decide (i = b) && decide (a = 0) && decide (nx = pc + 2)
  | .istore_n i => decide ((i : Nat) = b) && decide (a = 0) && decide (nx = pc + 1)
  | .astore i => decide (i = b) && decide (a = 1) && decide (nx = pc + 2)
  | .astore_n i => decide ((i : Nat) = b) && decide (a = 1) && decide (nx = pc + 1)
  | .lstore i => decide (i = b) && decide (a = 2) && decide (nx = pc + 2)
  | .lstore_n i => decide ((i : Nat) = b) && decide (a = 2) && decide (nx = pc + 1)
  | _ => false
def hm_bI (b : Nat) : Instr :=
  match b with
  | 0 => .iadd
  | 1 => .isub
  | 2 => .imul
  | 3 => .iand
  | 4 => .ior
  | 5 => .ixor
  | 6 => .ishl
  | 7 => .ishr
  | _ => .iushr
def hm_uI (b : Nat) : Instr :=
  match b with
  | 0 => .ineg
  | 1 => .i2b
  | _ => .i2s
def hm_cI (b : Nat) : Jvm.ClassFile.Cond :=
  match b with
  | 0 => .eq
  | 1 => .ne
  | 2 => .lt
  | 3 => .ge
  | 4 => .gt
  | _ => .le
def hm_k10 (own : String) (pc nx : Nat) (ins : Instr) (b lk : Nat) : Bool :=
  match ins with
  | .lconst n => decide (Int64.ofNat (n : Nat) = lN b) && decide (nx = pc + 1)
  | .ldc2_w i => decide (lw_tbl[lk]? = some (.constantLong own i (lN b))) && decide (nx = pc + 3)
  | _ => false
def hm_k17 (pc : Nat) (ins : Instr) (a : Int) (l : List (Int × Nat)) : Bool :=
  match ins with
  | .lookupswitch df ps => decide ((pc : Int) + df = (a.toNat : Int)) && decide (l.map (fun q => (q.1, (q.2 : Int))) = ps.toList.map (fun q => (q.1, (pc : Int) + q.2))) && (ps.toList.zip (ps.toList.drop 1)).all (fun (x, y) => x.1 < y.1)
  | .tableswitch df lo hi os => decide ((pc : Int) + df = (a.toNat : Int)) && decide (l.map (fun q => (q.1, (q.2 : Int))) = os.toList.zipIdx.map (fun q => (lo + (q.2 : Int), (pc : Int) + q.1))) && decide (hi = lo + (os.size : Int) - 1)
  | _ => false
def hm_k18 (own : String) (ins : Instr) (a : Int) (b lk : Nat) : Bool :=
  match ins with
  | .getfield i => (match vwCl[a.toNat]? with
    | some q => decide ((a.toNat : Int) = a) && hm_fl own i q b lk
    | none => false)
  | _ => false
def hm_k19 (own : String) (ins : Instr) (a : Int) (b lk : Nat) : Bool :=
  match ins with
  | .putfield i => (match vwCl[a.toNat]? with
    | some q => decide ((a.toNat : Int) = a) && hm_fl own i q b lk && decide ((q.2.1 b).2.2.2 = false) && decide ((q.2.1 b).2.2.1 = "I")
    | none => false)
  | _ => false
def hm_k23 (own : String) (ins : Instr) (b lk : Nat) : Bool :=
  match ins with
  | .getstatic i => (match hm_ros[b]? with
    | some (C, n, _) => decide (lw_tbl[lk]? = some (.fieldLink own i C n "[I"))
    | none => false)
  | _ => false
def hm_k27 (tb : List (MethodName × Nat × Bool)) (own : String) (ins : Instr) (b lk : Nat) : Bool :=
  match tb[b]? with
  | none => false
  | some (y, _, s) => match ins with
    | .invokevirtual i => decide (s = false) && decide (lw_tbl[lk]? = some (.methodLink own i y))
    | .invokestatic i => decide (s = true) && decide (lw_tbl[lk]? = some (.methodLink own i y))
    | _ => false
def hm_k28 (own : String) (ins : Instr) (y : MethodName) (lk : Nat) : Bool :=
  match ins with
  | .invokestatic i => decide (lw_tbl[lk]? = some (.methodLink own i y))
  | _ => false
def hm_lk (tb : List (MethodName × Nat × Bool)) (own : String) (pc nx : Nat) (ins : Instr) (op : Nat) (a : Int) (b : Nat) (l : List (Int × Nat)) (lk : Nat) : Bool :=
  match op with
  | 0 => hm_k0 own pc nx ins (nI b) lk
  | 1 => hm_k1 pc nx ins a b
  | 2 => hm_k2 pc nx ins a b
  | 3 => decide (ins = .iinc b a) && decide (nx = pc + 3)
  | 4 => decide (ins = hm_bI b) && decide (b ≤ 8) && decide (nx = pc + 1)
  | 5 => decide (ins = .idiv) && decide (nx = pc + 1)
  | 6 => decide (ins = .irem) && decide (nx = pc + 1)
  | 7 => decide (ins = hm_uI b) && decide (b ≤ 2) && decide (nx = pc + 1)
  | 8 => decide (ins = .i2l) && decide (nx = pc + 1)
  | 9 => decide (ins = .l2i) && decide (nx = pc + 1)
  | 10 => hm_k10 own pc nx ins b lk
  | 11 => decide (ins = .lmul) && decide (nx = pc + 1)
  | 12 => decide (ins = .lrem) && decide (nx = pc + 1)
  | 13 => decide (ins = .lcmp) && decide (nx = pc + 1)
  | 14 => decide (ins = .ifCond (hm_cI b) ((a.toNat : Int) - (pc : Int))) && decide (b ≤ 5) && decide (nx = pc + 3)
  | 15 => decide (ins = .if_icmp (hm_cI b) ((a.toNat : Int) - (pc : Int))) && decide (b ≤ 5) && decide (nx = pc + 3)
  | 16 => decide (ins = .goto ((a.toNat : Int) - (pc : Int))) && decide (nx = pc + 3)
  | 17 => hm_k17 pc ins a l
  | 18 => hm_k18 own ins a b lk && decide (nx = pc + 3)
  | 19 => hm_k19 own ins a b lk && decide (nx = pc + 3)
  | 20 => decide (ins = if b = 1 then .baload else .iaload) && decide (nx = pc + 1)
  | 21 => decide (ins = if b = 1 then .bastore else .iastore) && decide (nx = pc + 1)
  | 22 => decide (ins = .arraylength) && decide (nx = pc + 1)
  | 23 => hm_k23 own ins b lk && decide (nx = pc + 3)
  | 24 => decide (ins = .dup) && decide (nx = pc + 1)
  | 25 => decide (ins = .pop) && decide (nx = pc + 1)
  | 26 => decide (ins = .dup2) && decide (nx = pc + 1)
  | 27 => hm_k27 tb own ins b lk && decide (nx = pc + 3)
  | 28 => hm_k28 own ins arraycopyName lk && decide (nx = pc + 3)
  | 29 => decide (ins = .ireturn) && decide (nx = pc + 1)
  | 30 => decide (ins = .return_) && decide (nx = pc + 1)
  | 31 => hm_k0 own pc nx ins (Int32.ofInt a) lk
  | 32 => hm_k28 own ins Lib.Math.max.name lk && decide (nx = pc + 3)
  | 33 => hm_k28 own ins Lib.Math.min.name lk && decide (nx = pc + 3)
  | _ => false
def hm_chkI (tb : List (MethodName × Nat × Bool)) (own : String) (cc : ByteArray) (r : Option FieldType) (q : hm_I) : Bool :=
  match q with
  | (pc, nx, ins, op, a, b, l, lk) => decide (decode cc pc = .ok (ins, nx - pc)) && hm_lk tb own pc nx ins op a b l lk && (match op with
    | 29 => (match b with | 0 => decide (r = some .int) | 1 => decide (r = some .boolean) | _ => false)
    | 30 => decide (r = none)
    | _ => true)
/-- a method's own words stand in the tables -/
def hm_chkM (t : hm_X) : Bool :=
  match t with
  | (y, cc, mx, r, st, n, [kc, ki, km, ks], _) => decide (lw_tbl[kc]? = some (.code y cc mx r)) && decide (lw_tbl[ki]? = some (.initialized y.cls)) && decide (lw_tbl[km]? = some (if st = true then .static y else .instanceMethod y)) && (st || decide (lw_tbl[ks]? = some (.selects y.cls y y)))
    && plainName y.cls && decide (y.cls ≠ "java/lang/invoke/MethodHandle") && decide (y.cls ≠ "java/lang/invoke/VarHandle") && decide ((parseMethodDescriptor y.desc).map (fun d => d.parameters.length) = some (if st = true then n else n - 1)) && decide (mx ≤ 20) && (st || decide (0 < n))
  | _ => false
