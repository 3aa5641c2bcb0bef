/-! one instruction -/
def xbin (i : ClassFile.Instr) (x y : Int32) : Option Int32 := match i with
  | .iadd => some (x + y)
  | .isub => some (x - y)
  | .imul => some (x * y)
  | .iand => some (x &&& y)
  | .ior => some (x ||| y)
  | .ixor => some (x ^^^ y)
  | .ishl => some (x <<< (y &&& 31))
  | .ishr => some (x >>> (y &&& 31))
  | .iushr => some (x.toUInt32 >>> (y.toUInt32 &&& Int32.toUInt32 31)).toInt32
  | .idiv => if y = 0 then none else some (x / y)
  | .irem => if y = 0 then none else some (x - x / y * y)
  | _ => none
def xiun (i : ClassFile.Instr) (x : Int32) : Option Value := match i with
  | .ineg => some (.int (-x))
  | .i2l => some (.long x.toInt64)
  | .i2b => some (.int x.toInt8.toInt32)
  | .i2s => some (.int x.toInt16.toInt32)
  | _ => none
def xlbin (i : ClassFile.Instr) (x y : Int64) : Option Value := match i with
  | .ladd => some (.long (x + y))
  | .land => some (.long (x &&& y))
  | .lor => some (.long (x ||| y))
  | .lcmp => some (.int (lg_cmp x y))
  | _ => none
def xlsh (i : ClassFile.Instr) (x : Int64) (y : Int32) : Option Int64 := match i with
  | .lshl => some (x <<< (y.toInt64 &&& 63))
  | .lshr => some (x >>> (y.toInt64 &&& 63))
  | .lushr => some (x.toUInt64 >>> (y.toInt64.toUInt64 &&& Int64.toUInt64 63)).toInt64
  | _ => none
/-- constants -/
def xcon (o : Nat) (i : ClassFile.Instr) : Option Value := match i with
  | .iconst n => some (.int (Int32.ofInt n))
  | .bipush n => some (.int (Int8.ofInt n).toInt32)
  | .sipush n => some (.int (Int16.ofInt n).toInt32)
  | .lconst n => some (.long (Int64.ofNat (n : Nat)))
  | .aconst_null => some .null
  | .ldc k => xldc o k
  | .ldc_w k => xldcw o k
  | .ldc2_w k => xldc2 o k
  | _ => none
/-- loads: which local, and of what kind -/
def xloa (i : ClassFile.Instr) : Option (Nat × Nat) := match i with
  | .iload k => some (k, 0)
  | .iload_n k => some (k, 0)
  | .lload k => some (k, 1)
  | .lload_n k => some (k, 1)
  | .aload k => some (k, 2)
  | .aload_n k => some (k, 2)
  | _ => none
def xknd (v : Value) : Nat := match v with
  | .int _ => 0
  | .long _ => 1
  | .ref _ => 2
  | .null => 2
  | _ => 9
def xstr0 (i : ClassFile.Instr) : Option (Nat × Nat) := match i with
  | .istore k => some (k, 0)
  | .istore_n k => some (k, 0)
  | .astore k => some (k, 2)
  | .astore_n k => some (k, 2)
  | _ => none
/-- a field of an object -/
def xgf (c : Option xE) (F : Nat → Option Nat) : Option Value := match c with
  | some (.inl (ci, fs)) => (match F ci with
    | some k => fs[k]?
    | none => none)
  | _ => none
def xtyp (t : Nat) (v : Value) : Bool := match v with
  | .int _ => t == 0
  | .long _ => t == 1
  | .ref _ => t == 2
  | .null => t == 2
  | _ => false
def xpf (c : Option xE) (F : Nat → Option Nat) (o : Nat) (ini : Bool) (v : Value) : Option xE := match c with
  | some (.inl (ci, fs)) => (match F ci with
    | some k => if xtyp (xfty ci k) v = true ∧ k < fs.length ∧ (xffin ci k = none ∨ (ini = true ∧ xffin ci k = some o)) then some (.inl (ci, fs.set k v)) else none
    | none => none)
  | _ => none
def xrv (r : Option Nat) : Value := match r with
  | none => .null
  | some a => .ref a
/-- an element of an array -/
def xal (i : ClassFile.Instr) (c : Option xE) (j : Int32) : Option Value := match c with
  | some (.inr ((t, n), .inl f)) => if xin j n = true ∧ ((i = .iaload ∧ t = 0) ∨ (i = .baload ∧ (t = 1 ∨ t = 2))) then some (.int (f j.toNatClampNeg)) else none
  | some (.inr ((t, n), .inr g)) => if xin j n = true ∧ i = .aaload ∧ 3 ≤ t ∧ t ≤ 5 then some (xrv (g j.toNatClampNeg)) else none
  | _ => none
def xas (i : ClassFile.Instr) (c : Option xE) (j : Int32) (v : Value) (kind : Nat → Option Nat) : Option xE := match c with
  | some (.inr ((t, n), .inl f)) => (match v with
    | .int x => if xin j n = true then
        (if i = .iastore ∧ t = 0 then some (.inr ((t, n), .inl (upd f j.toNatClampNeg x)))
         else if i = .bastore ∧ t = 1 then some (.inr ((t, n), .inl (upd f j.toNatClampNeg x.toInt8.toInt32)))
         else if i = .bastore ∧ t = 2 ∧ (x = 0 ∨ x = 1) then some (.inr ((t, n), .inl (upd f j.toNatClampNeg x)))
         else none) else none
    | _ => none)
  | some (.inr ((t, n), .inr g)) => (match v with
    | .ref b => (match kind b with
      | some ci => if xin j n = true ∧ i = .aastore ∧ xelm t ci = true then some (.inr ((t, n), .inr (fun k => if k = j.toNatClampNeg then some b else g k))) else none
      | none => none)
    | _ => none)
  | _ => none
def xkind (c : Option xE) : Option Nat := match c with
  | some (.inl (ci, _)) => some ci
  | _ => none
def xcpy (f g : Nat → Int32) (sp dp n : Nat) : Nat → Int32 := va_cpy f g sp dp n
def xini (m : xMd) : Bool := m.2.1.name == "<init>"
/-- what the JDK does itself -/
def xprim (X : xS) (k : Nat) (pc : Nat) (ls st : List Value) (h : xH) : Option xA := match k, st with
  | 1, .ref _ :: r => if r.length ≤ 4 then xgo pc ls r h else none
  | 2, .int y :: .int x :: r => if r.length ≤ 4 then xgo pc ls (.int (if x < y then y else x) :: r) h else none
  | 3, .int y :: .int x :: r => if r.length ≤ 4 then xgo pc ls (.int (if y < x then y else x) :: r) h else none
  | 4, .int n :: .int dp :: .ref b :: .int sp :: .ref a :: r => (match xget X h a, xget X h b with
    | some (.inr ((0, n0), .inl f)), some (.inr ((0, n1), .inl g)) =>
      if 16 ≤ a ∧ 16 ≤ b ∧ r.length ≤ 4 ∧ ¬ sp < 0 ∧ ¬ dp < 0 ∧ ¬ n < 0 ∧ sp.toNatClampNeg + n.toNatClampNeg ≤ n0 ∧ dp.toNatClampNeg + n.toNatClampNeg ≤ n1
      then xgo pc ls r (xset h b (.inr ((0, n1), .inl (xcpy f g sp.toNatClampNeg dp.toNatClampNeg n.toNatClampNeg)))) else none
    | _, _ => none)
  | 5, .ref a :: r => if 1 ≤ a ∧ a ≤ 7 ∧ r.length ≤ 4 then xgo pc ls (.int (nI (xtxt a).length) :: r) h else none
  | 6, .int i :: .ref a :: r => if 1 ≤ a ∧ a ≤ 7 ∧ r.length ≤ 4 ∧ xin i (xtxt a).length = true then xgo pc ls (.int ((xtxt a).getD i.toNatClampNeg 0) :: r) h else none
  | _, _ => none
def xcalO (X : xS) (m : xMd) (n : Nat) (T : Nat → Option xMd) (pc : Nat) (ls st : List Value) (h : xH) : Option xA := match st.drop n with
  | .ref a :: r => (match xkind (xget X h a) with
    | some ci => (match T ci with
      | some m' => xcal m m' (.ref a :: (st.take n).reverse) pc ls r h
      | none => none)
    | none => none)
  | _ => none
def xop (X : xS) (m : xMd) (pc len : Nat) (i : ClassFile.Instr) (ls st : List Value) (h : xH) : Option xA := match i with
  | .iinc k n => (match ls[k]? with
    | some (.int x) => (match xsto ls k (.int (x + Int32.ofInt n)) with
      | some ls' => xgo (pc + len) ls' st h
      | none => none)
    | _ => none)
  | .dup => (match st with
    | v :: r => if xknd v = 0 ∨ xknd v = 2 then xgo (pc + len) ls (v :: v :: r) h else none
    | _ => none)
  | .dup2 => (match st with
    | v :: w :: r => if (xknd v = 0 ∨ xknd v = 2) ∧ (xknd w = 0 ∨ xknd w = 2) then xgo (pc + len) ls (v :: w :: v :: w :: r) h else none
    | _ => none)
  | .pop => (match st with
    | v :: r => if xknd v = 0 ∨ xknd v = 2 then xgo (pc + len) ls r h else none
    | _ => none)
  | .ifCond c off => (match st with
    | .int x :: r => if ((((pc : Int) + off).toNat : Nat) : Int) = (pc : Int) + off then (if xcnd c x 0 = true then xgo ((pc : Int) + off).toNat ls r h else xgo (pc + len) ls r h) else none
    | _ => none)
  | .if_icmp c off => (match st with
    | .int y :: .int x :: r => if ((((pc : Int) + off).toNat : Nat) : Int) = (pc : Int) + off then (if xcnd c x y = true then xgo ((pc : Int) + off).toNat ls r h else xgo (pc + len) ls r h) else none
    | _ => none)
  | .ifnull off => (match st with
    | .null :: r => xjmp pc off ls r h
    | .ref _ :: r => xgo (pc + len) ls r h
    | _ => none)
  | .ifnonnull off => (match st with
    | .null :: r => xgo (pc + len) ls r h
    | .ref _ :: r => xjmp pc off ls r h
    | _ => none)
  | .goto off => xjmp pc off ls st h
  | .tableswitch d lo hi offs => (match st with
    | .int x :: r => if x.toInt < lo ∨ hi < x.toInt then xjmp pc d ls r h else (match offs[(x.toInt - lo).toNat]? with
      | some off => xjmp pc off ls r h
      | none => none)
    | _ => none)
  | .getfield k => (match st with
    | .ref a :: r => (match xgf (xget X h a) (xfld m.1 k) with
      | some v => xgo (pc + len) ls (v :: r) h
      | none => none)
    | _ => none)
  | .putfield k => (match st with
    | v :: .ref a :: r => (match xpf (xget X h a) (xfld m.1 k) m.1 (xini m) v with
      | some e => xgo (pc + len) ls r (xset h a e)
      | none => none)
    | _ => none)
  | .iaload | .baload | .aaload => (match st with
    | .int j :: .ref a :: r => (match xal i (xget X h a) j with
      | some v => xgo (pc + len) ls (v :: r) h
      | none => none)
    | _ => none)
  | .iastore | .bastore | .aastore => (match st with
    | v :: .int j :: .ref a :: r => if a < 16 then none else (match xas i (xget X h a) j v (fun b => xkind (xget X h b)) with
      | some e => xgo (pc + len) ls r (xset h a e)
      | none => none)
    | _ => none)
  | .arraylength => (match st with
    | .ref a :: r => (match xget X h a with
      | some (.inr ((t, n), _)) => if t ≤ 5 then xgo (pc + len) ls (.int (Int32.ofNat n) :: r) h else none
      | _ => none)
    | _ => none)
  | .new k => (match xnewT m.1 k with
    | some (ci, fs) => xgo (pc + len) ls (.ref (xnw h) :: st) (h ++ [.inl (ci, fs)])
    | none => none)
  | .newarray t => (match st with
    | .int n :: r => (match xnar t with
      | some a => if ¬ n < 0 ∧ n.toNatClampNeg ≤ 100000 then xgo (pc + len) ls (.ref (xnw h) :: r) (h ++ [.inr ((a, n.toNatClampNeg), .inl (fun _ => 0))]) else none
      | none => none)
    | _ => none)
  | .anewarray k => (match st with
    | .int n :: r => (match xanew m.1 k with
      | some a => if ¬ n < 0 ∧ n.toNatClampNeg ≤ 100000 then xgo (pc + len) ls (.ref (xnw h) :: r) (h ++ [.inr ((a, n.toNatClampNeg), .inr (fun _ => none))]) else none
      | none => none)
    | _ => none)
  | .multianewarray k d => (match st with
    | .int n :: .int q :: r => if xmna m.1 k = true ∧ d = 2 ∧ n = 40 ∧ q = 8 then xgo (pc + len) ls (.ref (xnw h) :: r) (h ++ ((.inr ((3, 8), .inr (fun j => if j < 8 then some (xnw h + 1 + j) else none))) :: List.replicate 8 (.inr ((0, 40), .inl (fun _ => 0))))) else none
    | _ => none)
  | .instanceof k => (match st with
    | .ref a :: r => (match xkind (xget X h a) with
      | some ci => (match xins m.1 k ci with
        | some v => xgo (pc + len) ls (.int v :: r) h
        | none => none)
      | none => none)
    | _ => none)
  | .invokevirtual k => (match xpr m.1 k with
    | some q => if xprh q ≤ m.2.2.2.2.2 ∧ (q = 5 ∨ q = 6) then xprim X q (pc + len) ls st h else none
    | none => (match xnp m.1 k with
      | some n => xcalO X m n (fun ci => xcv m.1 k ci) (pc + len) ls st h
      | none => none))
  | .invokespecial k => (match xpr m.1 k with
    | some q => if xprh q ≤ m.2.2.2.2.2 ∧ q = 1 then xprim X q (pc + len) ls st h else none
    | none => (match xnp m.1 k with
      | some n => xcalO X m n (fun ci => xci m.1 k ci) (pc + len) ls st h
      | none => none))
  | .invokestatic k => (match xpr m.1 k with
    | some q => if xprh q ≤ m.2.2.2.2.2 ∧ (q = 2 ∨ q = 3 ∨ q = 4) then xprim X q (pc + len) ls st h else none
    | none => (match xcs m.1 k with
      | some (n, m') => if n ≤ st.length then xcal m m' (st.take n).reverse (pc + len) ls (st.drop n) h else none
      | none => none))
  | .ireturn => (match st with
    | [.int x] => if m.2.2.2.2.1 = some .int ∨ (m.2.2.2.2.1 = some .boolean ∧ (x = 0 ∨ x = 1)) then some (.inl (some (.int x), h)) else none
    | _ => none)
  | .areturn => (match st with
    | [v] => if xrty m.2.2.2.2.1 = true ∧ xknd v = 2 then some (.inl (some v, h)) else none
    | _ => none)
  | .return_ => (match st with
    | [] => if m.2.2.2.2.1 = none then some (.inl (none, h)) else none
    | _ => none)
  | _ => none
def xcls (i : ClassFile.Instr) : Nat := match i with
  | .iconst _ | .bipush _ | .sipush _ | .lconst _ | .aconst_null | .ldc _ | .ldc_w _ | .ldc2_w _ => 1
  | .iload _ | .iload_n _ | .lload _ | .lload_n _ | .aload _ | .aload_n _ => 2
  | .istore _ | .istore_n _ | .astore _ | .astore_n _ => 3
  | .iadd | .isub | .imul | .iand | .ior | .ixor | .ishl | .ishr | .iushr | .idiv | .irem => 4
  | .ineg | .i2l | .i2b | .i2s => 5
  | .ladd | .land | .lor | .lcmp => 6
  | .lshl | .lshr | .lushr => 7
  | .l2i => 8
  | _ => 0
def xstep (X : xS) (m : xMd) (pc len : Nat) (i : ClassFile.Instr) (ls st : List Value) (h : xH) : Option xA :=
  if len = xlen i len then (match xcls i with
    | 1 => (match xcon m.1 i with
      | some v => xgo (pc + len) ls (v :: st) h
      | none => none)
    | 2 => (match xloa i with
      | some (k, t) => (match ls[k]? with
        | some v => if xknd v = t then xgo (pc + len) ls (v :: st) h else none
        | none => none)
      | none => none)
    | 3 => (match xstr0 i with
      | some (k, t) => (match st with
        | v :: r => if xknd v = t then (match xsto ls k v with
          | some ls' => xgo (pc + len) ls' r h
          | none => none) else none
        | _ => none)
      | none => none)
    | 4 => (match st with
      | .int y :: .int x :: r => (match xbin i x y with
        | some v => xgo (pc + len) ls (.int v :: r) h
        | none => none)
      | _ => none)
    | 5 => (match st with
      | .int x :: r => (match xiun i x with
        | some v => xgo (pc + len) ls (v :: r) h
        | none => none)
      | _ => none)
    | 6 => (match st with
      | .long y :: .long x :: r => (match xlbin i x y with
        | some v => xgo (pc + len) ls (v :: r) h
        | none => none)
      | _ => none)
    | 7 => (match st with
      | .int y :: .long x :: r => (match xlsh i x y with
        | some v => xgo (pc + len) ls (.long v :: r) h
        | none => none)
      | _ => none)
    | 8 => (match st with
      | .long x :: r => xgo (pc + len) ls (.int x.toInt32 :: r) h
      | _ => none)
    | _ => xop X m pc len i ls st h) else none
def xact (X : xS) (m : xMd) (pc : Nat) (ls st : List Value) (h : xH) : Option xA := match decode m.2.2.1 pc with
  | .ok (i, len) => xstep X m pc len i ls st h
  | _ => none
