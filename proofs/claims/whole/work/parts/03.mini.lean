/-! A SMALL MACHINE of my own over the claim's bytecode: its cells are a list (address = base + place), its objects' fields are functions of a field's global number.
    mj_run is a plain function; part 05 shows once, for all methods, that the kit's machine does what mj_run says. -/
abbrev mj_E : Type := (Nat × vp_A) ⊕ (Nat × (Nat → Value))
abbrev mj_H : Type := Nat × List mj_E
abbrev mj_V : Type := Nat × (Nat → Nat) × (Nat → Option (Nat × (Nat → Int32)))
abbrev mj_L : Type := List (Option Value)
abbrev mj_M : Type := Nat × MethodName × ByteArray × Nat × Option FieldType × List Nat × Nat × Nat
abbrev mj_N : Type := Nat × mj_L × List Value × mj_H
abbrev mj_A : Type := Option (mj_N ⊕ ((Nat × List Value × List Value) ⊕ Option Value))
/-- the cell at an address -/
def mj_get (V : mj_V) (h : mj_H) (a : Nat) : Option mj_E := if V.1 ≤ a then h.2[a - V.1]? else none
def mj_set (V : mj_V) (h : mj_H) (a : Nat) (e : mj_E) : mj_H := (h.1, h.2.set (a - V.1) e)
/-- what an array of ints (bytes, booleans: by its tag) holds; tag 0 also the arrays that nobody writes, below the base -/
def mj_ai (V : mj_V) (h : mj_H) (t a : Nat) : Option (Nat × (Nat → Int32)) :=
  if V.1 ≤ a then (match h.2[a - V.1]? with
    | some (.inl (t', n, .inl f)) => if t' = t then some (n, f) else none
    | _ => none)
  else if t = 0 then V.2.2 a else none
def mj_tg (pc : Nat) (off : Int) : Option Nat := if 0 ≤ (pc : Int) + off then some ((pc : Int) + off).toNat else none
def mj_nx (pc : Nat) (loc : mj_L) (st : List Value) (h : mj_H) : mj_A := some (.inl (pc, loc, st, h))
/-- what a store at i leaves of a long at i - 1 -/
def mj_pre (lg : List Nat) (loc : mj_L) (i : Nat) : mj_L := match i with
  | 0 => loc
  | j + 1 => if lg.contains j then loc.set j none else loc
/-- a value's store: of one slot, of two -/
def mj_st1 (lg : List Nat) (loc : mj_L) (i : Nat) (v : Value) : Option mj_L :=
  if i < loc.length then some ((mj_pre lg loc i).set i (some v)) else none
def mj_st2 (lg : List Nat) (loc : mj_L) (i : Nat) (v : Value) : Option mj_L :=
  if i + 1 < loc.length ∧ lg.contains i = true then some (((mj_pre lg loc i).set i (some v)).set (i + 1) none) else none
/-- the locals of a call -/
def mj_sl : List Value → mj_L
  | [] => []
  | v :: vs => (match v with
    | .long x => [some (.long x), none]
    | .double x => [some (.double x), none]
    | w => [some w]) ++ mj_sl vs
def mj_lgok (lg : List Nat) : Nat → List Value → Bool
  | _, [] => true
  | i, v :: vs => match v with
    | .long _ => lg.contains i && mj_lgok lg (i + 2) vs
    | .double _ => lg.contains i && mj_lgok lg (i + 2) vs
    | _ => mj_lgok lg (i + 1) vs
def mj_ent (lg : List Nat) (n : Nat) (as : List Value) : Option mj_L :=
  if mj_lgok lg 0 as = true ∧ (mj_sl as).length ≤ n then some (mj_sl as ++ List.replicate (n - (mj_sl as).length) none) else none
def mj_cat : List Value → Nat
  | [] => 0
  | v :: vs => v.category + mj_cat vs
/-- may a field of a type hold the value as it is -/
def mj_fit (ty : FieldType) (v : Value) : Bool := match ty, v with
  | .int, .int _ => true
  | .long, .long _ => true
  | .boolean, .int x => x == 0 || x == 1
  | .object _, .null => true
  | .object _, .ref _ => true
  | .array _, .null => true
  | .array _, .ref _ => true
  | _, _ => false
def mj_ret (ty : Option FieldType) (i : Instr) (st : List Value) : Option (Option Value) := match ty, i, st with
  | none, .return_, [] => some none
  | some .int, .ireturn, [.int x] => some (some (.int x))
  | some .boolean, .ireturn, [.int x] => if x = 0 ∨ x = 1 then some (some (.int x)) else none
  | some .long, .lreturn, [.long x] => some (some (.long x))
  | some (.object _), .areturn, [.ref a] => some (some (.ref a))
  | some (.object _), .areturn, [.null] => some (some .null)
  | _, _, _ => none
def mj_ld (loc : mj_L) (i : Nat) : Option Value := match loc[i]? with
  | some (some v) => some v
  | _ => none
def mj_tag (t : ArrayType) : Option (Nat × FieldType) := match t with
  | .int => some (0, .int)
  | .byte => some (1, .byte)
  | .boolean => some (2, .boolean)
  | _ => none
def mj_isub (i : Int32) (n : Nat) : Bool := decide (¬ (i < 0 ∨ n ≤ i.toNatClampNeg))
/-- loads, constants, arithmetic, jumps: no heap -/
def mj_ac1 (lg : List Nat) (pc : Nat) (i : Instr) (len : Nat) (loc : mj_L) (st : List Value) (h : mj_H) : mj_A := match i with
  | .iload_n k => if len = 1 then (match mj_ld loc (k : Nat) with | some (.int x) => mj_nx (pc + 1) loc (.int x :: st) h | _ => none) else none
  | .iload k => if len = 2 then (match mj_ld loc k with | some (.int x) => mj_nx (pc + 2) loc (.int x :: st) h | _ => none) else none
  | .lload_n k => if len = 1 then (match mj_ld loc (k : Nat) with | some (.long x) => mj_nx (pc + 1) loc (.long x :: st) h | _ => none) else none
  | .lload k => if len = 2 then (match mj_ld loc k with | some (.long x) => mj_nx (pc + 2) loc (.long x :: st) h | _ => none) else none
  | .aload_n k => if len = 1 then (match mj_ld loc (k : Nat) with | some (.ref x) => mj_nx (pc + 1) loc (.ref x :: st) h | some .null => mj_nx (pc + 1) loc (.null :: st) h | _ => none) else none
  | .aload k => if len = 2 then (match mj_ld loc k with | some (.ref x) => mj_nx (pc + 2) loc (.ref x :: st) h | some .null => mj_nx (pc + 2) loc (.null :: st) h | _ => none) else none
  | .istore_n k => if len = 1 then (match st with | .int x :: r => (mj_st1 lg loc (k : Nat) (.int x)).bind (fun l => mj_nx (pc + 1) l r h) | _ => none) else none
  | .istore k => if len = 2 then (match st with | .int x :: r => (mj_st1 lg loc k (.int x)).bind (fun l => mj_nx (pc + 2) l r h) | _ => none) else none
  | .lstore_n k => if len = 1 then (match st with | .long x :: r => (mj_st2 lg loc (k : Nat) (.long x)).bind (fun l => mj_nx (pc + 1) l r h) | _ => none) else none
  | .lstore k => if len = 2 then (match st with | .long x :: r => (mj_st2 lg loc k (.long x)).bind (fun l => mj_nx (pc + 2) l r h) | _ => none) else none
  | .astore_n k => if len = 1 then (match st with | .ref x :: r => (mj_st1 lg loc (k : Nat) (.ref x)).bind (fun l => mj_nx (pc + 1) l r h) | .null :: r => (mj_st1 lg loc (k : Nat) .null).bind (fun l => mj_nx (pc + 1) l r h) | _ => none) else none
  | .astore k => if len = 2 then (match st with | .ref x :: r => (mj_st1 lg loc k (.ref x)).bind (fun l => mj_nx (pc + 2) l r h) | .null :: r => (mj_st1 lg loc k .null).bind (fun l => mj_nx (pc + 2) l r h) | _ => none) else none
  | .iinc k n => if len = 3 then (match mj_ld loc k with | some (.int x) => (mj_st1 lg loc k (.int (x + Int32.ofInt n))).bind (fun l => mj_nx (pc + 3) l st h) | _ => none) else none
  | .iconst n => if len = 1 then mj_nx (pc + 1) loc (.int (Int32.ofInt n) :: st) h else none
  | .bipush n => if len = 2 then mj_nx (pc + 2) loc (.int (Int8.ofInt n).toInt32 :: st) h else none
  | .sipush n => if len = 3 then mj_nx (pc + 3) loc (.int (Int16.ofInt n).toInt32 :: st) h else none
  | .lconst n => if len = 1 then mj_nx (pc + 1) loc (.long (Int64.ofNat (n : Nat)) :: st) h else none
  | .aconst_null => if len = 1 then mj_nx (pc + 1) loc (.null :: st) h else none
  | .iadd => if len = 1 then (match st with | .int y :: .int x :: r => mj_nx (pc + 1) loc (.int (x + y) :: r) h | _ => none) else none
  | .isub => if len = 1 then (match st with | .int y :: .int x :: r => mj_nx (pc + 1) loc (.int (x - y) :: r) h | _ => none) else none
  | .imul => if len = 1 then (match st with | .int y :: .int x :: r => mj_nx (pc + 1) loc (.int (x * y) :: r) h | _ => none) else none
  | .iand => if len = 1 then (match st with | .int y :: .int x :: r => mj_nx (pc + 1) loc (.int (x &&& y) :: r) h | _ => none) else none
  | .ior => if len = 1 then (match st with | .int y :: .int x :: r => mj_nx (pc + 1) loc (.int (x ||| y) :: r) h | _ => none) else none
  | .ishl => if len = 1 then (match st with | .int y :: .int x :: r => mj_nx (pc + 1) loc (.int (x <<< (y &&& 31)) :: r) h | _ => none) else none
  | .ishr => if len = 1 then (match st with | .int y :: .int x :: r => mj_nx (pc + 1) loc (.int (x >>> (y &&& 31)) :: r) h | _ => none) else none
  | .iushr => if len = 1 then (match st with | .int y :: .int x :: r => mj_nx (pc + 1) loc (.int (x.toUInt32 >>> (y.toUInt32 &&& Int32.toUInt32 31)).toInt32 :: r) h | _ => none) else none
  | .idiv => if len = 1 then (match st with | .int y :: .int x :: r => if y = 0 then none else mj_nx (pc + 1) loc (.int (x / y) :: r) h | _ => none) else none
  | .irem => if len = 1 then (match st with | .int y :: .int x :: r => if y = 0 then none else mj_nx (pc + 1) loc (.int (x - x / y * y) :: r) h | _ => none) else none
  | .ladd => if len = 1 then (match st with | .long y :: .long x :: r => mj_nx (pc + 1) loc (.long (x + y) :: r) h | _ => none) else none
  | .lsub => if len = 1 then (match st with | .long y :: .long x :: r => mj_nx (pc + 1) loc (.long (x - y) :: r) h | _ => none) else none
  | .lmul => if len = 1 then (match st with | .long y :: .long x :: r => mj_nx (pc + 1) loc (.long (x * y) :: r) h | _ => none) else none
  | .ldiv => if len = 1 then (match st with | .long y :: .long x :: r => if y = 0 then none else mj_nx (pc + 1) loc (.long (x / y) :: r) h | _ => none) else none
  | .lcmp => if len = 1 then (match st with | .long y :: .long x :: r => mj_nx (pc + 1) loc (.int (lg_cmp x y) :: r) h | _ => none) else none
  | .i2l => if len = 1 then (match st with | .int x :: r => mj_nx (pc + 1) loc (.long x.toInt64 :: r) h | _ => none) else none
  | .l2i => if len = 1 then (match st with | .long x :: r => mj_nx (pc + 1) loc (.int x.toInt32 :: r) h | _ => none) else none
  | .i2b => if len = 1 then (match st with | .int x :: r => mj_nx (pc + 1) loc (.int x.toInt8.toInt32 :: r) h | _ => none) else none
  | .dup => if len = 1 then (match st with | .int x :: r => mj_nx (pc + 1) loc (.int x :: .int x :: r) h | .ref x :: r => mj_nx (pc + 1) loc (.ref x :: .ref x :: r) h | _ => none) else none
  | .dup2 => if len = 1 then (match st with | .int x :: .ref y :: r => mj_nx (pc + 1) loc (.int x :: .ref y :: .int x :: .ref y :: r) h | _ => none) else none
  | .ifCond .eq off => if len = 3 then (match st with | .int x :: r => (mj_tg pc off).bind (fun t => mj_nx (if x = 0 then t else pc + 3) loc r h) | _ => none) else none
  | .ifCond .ne off => if len = 3 then (match st with | .int x :: r => (mj_tg pc off).bind (fun t => mj_nx (if ¬ x = 0 then t else pc + 3) loc r h) | _ => none) else none
  | .ifCond .lt off => if len = 3 then (match st with | .int x :: r => (mj_tg pc off).bind (fun t => mj_nx (if x < 0 then t else pc + 3) loc r h) | _ => none) else none
  | .ifCond .ge off => if len = 3 then (match st with | .int x :: r => (mj_tg pc off).bind (fun t => mj_nx (if 0 ≤ x then t else pc + 3) loc r h) | _ => none) else none
  | .ifCond .gt off => if len = 3 then (match st with | .int x :: r => (mj_tg pc off).bind (fun t => mj_nx (if 0 < x then t else pc + 3) loc r h) | _ => none) else none
  | .ifCond .le off => if len = 3 then (match st with | .int x :: r => (mj_tg pc off).bind (fun t => mj_nx (if x ≤ 0 then t else pc + 3) loc r h) | _ => none) else none
  | .if_icmp .eq off => if len = 3 then (match st with | .int y :: .int x :: r => (mj_tg pc off).bind (fun t => mj_nx (if x = y then t else pc + 3) loc r h) | _ => none) else none
  | .if_icmp .ne off => if len = 3 then (match st with | .int y :: .int x :: r => (mj_tg pc off).bind (fun t => mj_nx (if ¬ x = y then t else pc + 3) loc r h) | _ => none) else none
  | .if_icmp .lt off => if len = 3 then (match st with | .int y :: .int x :: r => (mj_tg pc off).bind (fun t => mj_nx (if x < y then t else pc + 3) loc r h) | _ => none) else none
  | .if_icmp .ge off => if len = 3 then (match st with | .int y :: .int x :: r => (mj_tg pc off).bind (fun t => mj_nx (if y ≤ x then t else pc + 3) loc r h) | _ => none) else none
  | .if_icmp .gt off => if len = 3 then (match st with | .int y :: .int x :: r => (mj_tg pc off).bind (fun t => mj_nx (if y < x then t else pc + 3) loc r h) | _ => none) else none
  | .if_icmp .le off => if len = 3 then (match st with | .int y :: .int x :: r => (mj_tg pc off).bind (fun t => mj_nx (if x ≤ y then t else pc + 3) loc r h) | _ => none) else none
  | .ifnull off => if len = 3 then (match st with | .null :: r => (mj_tg pc off).bind (fun t => mj_nx t loc r h) | .ref _ :: r => mj_nx (pc + 3) loc r h | _ => none) else none
  | .ifnonnull off => if len = 3 then (match st with | .ref _ :: r => (mj_tg pc off).bind (fun t => mj_nx t loc r h) | .null :: r => mj_nx (pc + 3) loc r h | _ => none) else none
  | .goto off => if len = 3 then (mj_tg pc off).bind (fun t => mj_nx t loc st h) else none
  | .tableswitch d lo hi offs => (match st with
    | .int x :: r => if x.toInt < lo ∨ hi < x.toInt then (mj_tg pc d).bind (fun t => mj_nx t loc r h) else (offs[(x.toInt - lo).toNat]?).bind (fun o => (mj_tg pc o).bind (fun t => mj_nx t loc r h))
    | _ => none)
  | .lookupswitch d ps => (match st with
    | .int x :: r => if (ps.toList.zip (ps.toList.drop 1)).all (fun (a, next) => a.1 < next.1) = true then (mj_tg pc (Op.lookupswitch.offset ps.toList d x.toInt)).bind (fun t => mj_nx t loc r h) else none
    | _ => none)
  | _ => none
