/-! THE x MACHINE: a small interpreter of the instructions that the claim's methods use, over a heap that is a list of cells (cell k has the address 16 + k; addresses below 16: 0 the script, 1.. the String constants). It knows no Jvm.State; part 06 shows that the Jvm does what it does. -/
/-- a method: its class's number, its name, its code, its locals, what it returns, how deep its calls go -/
abbrev xMd : Type := Nat × MethodName × ByteArray × Nat × Option FieldType × Nat
abbrev xE : Type := (Nat × List Value) ⊕ ((Nat × Nat) × ((Nat → Int32) ⊕ (Nat → Option Nat)))
abbrev xH : Type := List xE
abbrev xS : Type := Nat × (Nat → Int32)
abbrev xA : Type := (Option Value × xH) ⊕ ((Nat × List Value × List Value × xH) ⊕ (xMd × List Value × Nat × List Value × List Value × xH))
def xget (X : xS) (h : xH) (a : Nat) : Option xE := if a = 0 then some (.inr ((0, X.1), .inl X.2)) else if a < 16 then none else h[a - 16]?
def xset (h : xH) (a : Nat) (e : xE) : xH := h.set (a - 16) e
def xnw (h : xH) : Nat := h.length + 16
/-- a local that nobody set -/
abbrev xU : Value := .retAddr 0
def xin (i : Int32) (n : Nat) : Bool := decide (¬ i < 0) && decide (i.toNatClampNeg < n)
def xcnd (c : ClassFile.Cond) (x y : Int32) : Bool := match c with
  | .eq => decide (x = y)
  | .ne => decide (¬ x = y)
  | .lt => decide (x < y)
  | .ge => decide (y ≤ x)
  | .gt => decide (y < x)
  | .le => decide (x ≤ y)
/-- a store into a local, not over a long's second half -/
def xsto (ls : List Value) (i : Nat) (v : Value) : Option (List Value) := match ls[i - 1]? with
  | some (.long _) => none
  | some (.double _) => none
  | _ => if i < ls.length then some (ls.set i v) else none
/-- the locals of a method at its start -/
def xent0 : List Value → List Value
  | [] => []
  | .long x :: t => .long x :: xU :: xent0 t
  | .double x :: t => .double x :: xU :: xent0 t
  | v :: t => v :: xent0 t
def xent (n : Nat) (as : List Value) : List Value := xent0 as ++ List.replicate (n - (xent0 as).length) xU
def xgo (pc : Nat) (ls st : List Value) (h : xH) : Option xA := some (.inr (.inl (pc, ls, st, h)))
def xjmp (pc : Nat) (off : Int) (ls st : List Value) (h : xH) : Option xA := if ((((pc : Int) + off).toNat : Nat) : Int) = (pc : Int) + off then xgo ((pc : Int) + off).toNat ls st h else none
def xcal (m m' : xMd) (as : List Value) (pc : Nat) (ls st : List Value) (h : xH) : Option xA := if m'.2.2.2.2.2 < m.2.2.2.2.2 ∧ st.length ≤ 4 ∧ m'.2.2.2.1 ≤ 11 ∧ (xent0 as).length ≤ m'.2.2.2.1 then some (.inr (.inr (m', xent m'.2.2.2.1 as, pc, ls, st, h))) else none
def xnar (i : ClassFile.ArrayType) : Option Nat := match i with
  | .int => some 0
  | .byte => some 1
  | .boolean => some 2
  | _ => none
/-- the length of an instruction -/
def xlen (i : ClassFile.Instr) (len : Nat) : Nat := match i with
  | .bipush _ => 2
  | .sipush _ => 3
  | .ldc _ => 2
  | .ldc_w _ => 3
  | .ldc2_w _ => 3
  | .iload _ => 2
  | .istore _ => 2
  | .aload _ => 2
  | .astore _ => 2
  | .lload _ => 2
  | .iinc _ _ => 3
  | .ifCond _ _ => 3
  | .if_icmp _ _ => 3
  | .ifnull _ => 3
  | .ifnonnull _ => 3
  | .goto _ => 3
  | .tableswitch _ _ _ _ => len
  | .getfield _ => 3
  | .putfield _ => 3
  | .new _ => 3
  | .newarray _ => 2
  | .anewarray _ => 3
  | .multianewarray _ _ => 4
  | .instanceof _ => 3
  | .invokevirtual _ => 3
  | .invokespecial _ => 3
  | .invokestatic _ => 3
  | _ => 1
