/-! EQUATIONS of the x machine: tools -/
theorem xact_of {X : xS} {m : xMd} {pc : Nat} {i : ClassFile.Instr} {len : Nat} {ls st : List Value} {h : xH} (hd : decode m.2.2.1 pc = .ok (i, len)) : xact X m pc ls st h = xstep X m pc len i ls st h := by
  unfold xact
  rw [hd]
/-- not a long -/
def xnl (v : Value) : Bool := match v with
  | .long _ => false
  | .double _ => false
  | _ => true
theorem xnl_i (x : Int32) : xnl (.int x) = true := rfl
theorem xnl_r (x : Nat) : xnl (.ref x) = true := rfl
theorem xnl_n : xnl .null = true := rfl
theorem xnl_u (x : Nat) : xnl (.retAddr x) = true := rfl
theorem xsto_nl {ls : List Value} {i : Nat} {v w : Value} (h1 : ls[i - 1]? = some w) (h2 : xnl w = true) (h3 : i < ls.length) : xsto ls i v = some (ls.set i v) := by
  unfold xsto
  rw [h1]
  cases w <;> first | (cases h2; done) | exact if_pos h3
section XEQ
variable {X : xS} {m : xMd} {pc tgt : Nat} {ls st : List Value} {h : xH} {off : Int}
theorem q_sto {i : ClassFile.Instr} {len j t : Nat} {v w : Value} (hd : decode m.2.2.1 pc = .ok (i, len)) (hl : len = xlen i len) (hc : xcls i = 3) (hi : xstr0 i = some (j, t)) (ht : xknd v = t) (h1 : ls[j - 1]? = some w) (h2 : xnl w = true) (h3 : j < ls.length) : xR X m pc ls (v :: st) h = xR X m (pc + len) (ls.set j v) st h := by
  refine xR_go ?_
  rw [xact_of hd]
  unfold xstep
  rw [if_pos hl, hc]
  dsimp only
  rw [hi]
  dsimp only
  rw [if_pos ht, xsto_nl h1 h2 h3]
  rfl
theorem q_inc {j : Nat} {n : Int} {x : Int32} {w : Value} (hd : decode m.2.2.1 pc = .ok (.iinc j n, 3)) (hx : ls[j]? = some (.int x)) (h1 : ls[j - 1]? = some w) (h2 : xnl w = true) (h3 : j < ls.length) : xR X m pc ls st h = xR X m (pc + 3) (ls.set j (.int (x + Int32.ofInt n))) st h := by
  refine xR_go ?_
  rw [xact_of hd]
  unfold xstep
  rw [if_pos (show 3 = xlen (.iinc j n) 3 from rfl)]
  dsimp only [xcls]
  unfold xop
  dsimp only
  rw [hx]
  dsimp only
  rw [xsto_nl h1 h2 h3]
  rfl
theorem q_if {cd : ClassFile.Cond} {x : Int32} (hd : decode m.2.2.1 pc = .ok (.ifCond cd off, 3)) (ht : (pc : Int) + off = (tgt : Int)) : xR X m pc ls (.int x :: st) h = if xcnd cd x 0 = true then xR X m tgt ls st h else xR X m (pc + 3) ls st h := by
  have e : xact X m pc ls (.int x :: st) h = if xcnd cd x 0 = true then xgo tgt ls st h else xgo (pc + 3) ls st h := by
    rw [xact_of hd]
    show (if ((((pc : Int) + off).toNat : Nat) : Int) = (pc : Int) + off then (if xcnd cd x 0 = true then xgo ((pc : Int) + off).toNat ls st h else xgo (pc + 3) ls st h) else none) = _
    rw [ht, Int.toNat_natCast, if_pos rfl]
  by_cases hc : xcnd cd x 0 = true
  · rw [if_pos hc] at e ⊢
    exact xR_go e
  · rw [if_neg hc] at e ⊢
    exact xR_go e
theorem q_icmp {cd : ClassFile.Cond} {x y : Int32} (hd : decode m.2.2.1 pc = .ok (.if_icmp cd off, 3)) (ht : (pc : Int) + off = (tgt : Int)) : xR X m pc ls (.int y :: .int x :: st) h = if xcnd cd x y = true then xR X m tgt ls st h else xR X m (pc + 3) ls st h := by
  have e : xact X m pc ls (.int y :: .int x :: st) h = if xcnd cd x y = true then xgo tgt ls st h else xgo (pc + 3) ls st h := by
    rw [xact_of hd]
    show (if ((((pc : Int) + off).toNat : Nat) : Int) = (pc : Int) + off then (if xcnd cd x y = true then xgo ((pc : Int) + off).toNat ls st h else xgo (pc + 3) ls st h) else none) = _
    rw [ht, Int.toNat_natCast, if_pos rfl]
  by_cases hc : xcnd cd x y = true
  · rw [if_pos hc] at e ⊢
    exact xR_go e
  · rw [if_neg hc] at e ⊢
    exact xR_go e
theorem xc_not {α : Sort _} {c d : Prop} [Decidable c] [Decidable d] (h : c ↔ ¬ d) (a b : α) : (if c then a else b) = if d then b else a := by
  by_cases hd : d
  · rw [if_pos hd, if_neg (fun q => (h.mp q) hd)]
  · rw [if_neg hd, if_pos (h.mpr hd)]
theorem xc_iff {α : Sort _} {c d : Prop} [Decidable c] [Decidable d] (h : c ↔ d) (a b : α) : (if c then a else b) = if d then a else b := by
  by_cases hd : d
  · rw [if_pos hd, if_pos (h.mpr hd)]
  · rw [if_neg hd, if_neg (fun q => hd (h.mp q))]
theorem q_if_eq {x : Int32} (hd : decode m.2.2.1 pc = .ok (.ifCond .eq off, 3)) (ht : (pc : Int) + off = (tgt : Int)) : xR X m pc ls (.int x :: st) h = if x = 0 then xR X m tgt ls st h else xR X m (pc + 3) ls st h := (q_if hd ht).trans (xc_iff decide_eq_true_iff _ _)
theorem q_if_ne {x : Int32} (hd : decode m.2.2.1 pc = .ok (.ifCond .ne off, 3)) (ht : (pc : Int) + off = (tgt : Int)) : xR X m pc ls (.int x :: st) h = if x = 0 then xR X m (pc + 3) ls st h else xR X m tgt ls st h := (q_if hd ht).trans (xc_not decide_eq_true_iff _ _)
theorem q_if_lt {x : Int32} (hd : decode m.2.2.1 pc = .ok (.ifCond .lt off, 3)) (ht : (pc : Int) + off = (tgt : Int)) : xR X m pc ls (.int x :: st) h = if x < 0 then xR X m tgt ls st h else xR X m (pc + 3) ls st h := (q_if hd ht).trans (xc_iff decide_eq_true_iff _ _)
theorem q_if_ge {x : Int32} (hd : decode m.2.2.1 pc = .ok (.ifCond .ge off, 3)) (ht : (pc : Int) + off = (tgt : Int)) : xR X m pc ls (.int x :: st) h = if x < 0 then xR X m (pc + 3) ls st h else xR X m tgt ls st h := (q_if hd ht).trans (xc_not (decide_eq_true_iff.trans Int32.not_lt.symm) _ _)
theorem q_if_gt {x : Int32} (hd : decode m.2.2.1 pc = .ok (.ifCond .gt off, 3)) (ht : (pc : Int) + off = (tgt : Int)) : xR X m pc ls (.int x :: st) h = if 0 < x then xR X m tgt ls st h else xR X m (pc + 3) ls st h := (q_if hd ht).trans (xc_iff decide_eq_true_iff _ _)
theorem q_if_le {x : Int32} (hd : decode m.2.2.1 pc = .ok (.ifCond .le off, 3)) (ht : (pc : Int) + off = (tgt : Int)) : xR X m pc ls (.int x :: st) h = if 0 < x then xR X m (pc + 3) ls st h else xR X m tgt ls st h := (q_if hd ht).trans (xc_not (decide_eq_true_iff.trans Int32.not_lt.symm) _ _)
theorem q_icmp_eq {x y : Int32} (hd : decode m.2.2.1 pc = .ok (.if_icmp .eq off, 3)) (ht : (pc : Int) + off = (tgt : Int)) : xR X m pc ls (.int y :: .int x :: st) h = if x = y then xR X m tgt ls st h else xR X m (pc + 3) ls st h := (q_icmp hd ht).trans (xc_iff decide_eq_true_iff _ _)
theorem q_icmp_ne {x y : Int32} (hd : decode m.2.2.1 pc = .ok (.if_icmp .ne off, 3)) (ht : (pc : Int) + off = (tgt : Int)) : xR X m pc ls (.int y :: .int x :: st) h = if x = y then xR X m (pc + 3) ls st h else xR X m tgt ls st h := (q_icmp hd ht).trans (xc_not decide_eq_true_iff _ _)
theorem q_icmp_lt {x y : Int32} (hd : decode m.2.2.1 pc = .ok (.if_icmp .lt off, 3)) (ht : (pc : Int) + off = (tgt : Int)) : xR X m pc ls (.int y :: .int x :: st) h = if x < y then xR X m tgt ls st h else xR X m (pc + 3) ls st h := (q_icmp hd ht).trans (xc_iff decide_eq_true_iff _ _)
theorem q_icmp_ge {x y : Int32} (hd : decode m.2.2.1 pc = .ok (.if_icmp .ge off, 3)) (ht : (pc : Int) + off = (tgt : Int)) : xR X m pc ls (.int y :: .int x :: st) h = if x < y then xR X m (pc + 3) ls st h else xR X m tgt ls st h := (q_icmp hd ht).trans (xc_not (decide_eq_true_iff.trans Int32.not_lt.symm) _ _)
theorem q_icmp_gt {x y : Int32} (hd : decode m.2.2.1 pc = .ok (.if_icmp .gt off, 3)) (ht : (pc : Int) + off = (tgt : Int)) : xR X m pc ls (.int y :: .int x :: st) h = if y < x then xR X m tgt ls st h else xR X m (pc + 3) ls st h := (q_icmp hd ht).trans (xc_iff decide_eq_true_iff _ _)
theorem q_icmp_le {x y : Int32} (hd : decode m.2.2.1 pc = .ok (.if_icmp .le off, 3)) (ht : (pc : Int) + off = (tgt : Int)) : xR X m pc ls (.int y :: .int x :: st) h = if y < x then xR X m (pc + 3) ls st h else xR X m tgt ls st h := (q_icmp hd ht).trans (xc_not (decide_eq_true_iff.trans Int32.not_lt.symm) _ _)
/-- a jump that is always taken -/
theorem q_jmp {i : ClassFile.Instr} {len : Nat} {ls' st' : List Value} {h' : xH} (hd : decode m.2.2.1 pc = .ok (i, len)) (hj : xstep X m pc len i ls st h = xjmp pc off ls' st' h') (ht : (pc : Int) + off = (tgt : Int)) : xR X m pc ls st h = xR X m tgt ls' st' h' := by
  refine xR_go ?_
  rw [xact_of hd, hj]
  unfold xjmp
  rw [ht, Int.toNat_natCast, if_pos rfl]
  rfl
def xgK (c : Option xE) (F : Nat → Option Nat) (K : Value → Option (Option Value × xH)) : Option (Option Value × xH) := match xgf c F with
  | some v => K v
  | none => none
theorem xR_none (H : xact X m pc ls st h = none) : xR X m pc ls st h = none := by
  cases hr : xR X m pc ls st h with
  | none => rfl
  | some r =>
    obtain ⟨n, hn⟩ := xR_iff.mp hr
    cases n with
    | zero => cases hn
    | succ n =>
      rw [xr, H] at hn
      cases hn
theorem q_get {k a : Nat} (hd : decode m.2.2.1 pc = .ok (.getfield k, 3)) : xR X m pc ls (.ref a :: st) h = xgK (xget X h a) (xfld m.1 k) (fun v => xR X m (pc + 3) ls (v :: st) h) := by
  unfold xgK
  have e : xact X m pc ls (.ref a :: st) h = (match xgf (xget X h a) (xfld m.1 k) with | some v => xgo (pc + 3) ls (v :: st) h | none => none) := xact_of hd
  cases hv : xgf (xget X h a) (xfld m.1 k) with
  | none => rw [hv] at e; exact xR_none e
  | some v => rw [hv] at e; exact xR_go e
def xpK (c : Option xE) (F : Nat → Option Nat) (o : Nat) (ini : Bool) (v : Value) (K : xE → Option (Option Value × xH)) : Option (Option Value × xH) := match xpf c F o ini v with
  | some e => K e
  | none => none
theorem q_put {k a : Nat} {v : Value} (hd : decode m.2.2.1 pc = .ok (.putfield k, 3)) : xR X m pc ls (v :: .ref a :: st) h = xpK (xget X h a) (xfld m.1 k) m.1 (xini m) v (fun e => xR X m (pc + 3) ls st (xset h a e)) := by
  unfold xpK
  have e : xact X m pc ls (v :: .ref a :: st) h = (match xpf (xget X h a) (xfld m.1 k) m.1 (xini m) v with | some e => xgo (pc + 3) ls st (xset h a e) | none => none) := xact_of hd
  cases hv : xpf (xget X h a) (xfld m.1 k) m.1 (xini m) v with
  | none => rw [hv] at e; exact xR_none e
  | some v => rw [hv] at e; exact xR_go e
def xlK (i : ClassFile.Instr) (c : Option xE) (j : Int32) (K : Value → Option (Option Value × xH)) : Option (Option Value × xH) := match xal i c j with
  | some v => K v
  | none => none
theorem q_ald {i : ClassFile.Instr} {a : Nat} {j : Int32} (hi : i = .iaload ∨ i = .baload ∨ i = .aaload) (hd : decode m.2.2.1 pc = .ok (i, 1)) : xR X m pc ls (.int j :: .ref a :: st) h = xlK i (xget X h a) j (fun v => xR X m (pc + 1) ls (v :: st) h) := by
  unfold xlK
  have e : xact X m pc ls (.int j :: .ref a :: st) h = (match xal i (xget X h a) j with | some v => xgo (pc + 1) ls (v :: st) h | none => none) := by
    rw [xact_of hd]
    rcases hi with rfl | rfl | rfl <;> rfl
  cases hv : xal i (xget X h a) j with
  | none => rw [hv] at e; exact xR_none e
  | some v => rw [hv] at e; exact xR_go e
def xsK (i : ClassFile.Instr) (c : Option xE) (a : Nat) (j : Int32) (v : Value) (kd : Nat → Option Nat) (K : xE → Option (Option Value × xH)) : Option (Option Value × xH) := if a < 16 then none else match xas i c j v kd with
  | some e => K e
  | none => none
theorem q_ast {i : ClassFile.Instr} {a : Nat} {j : Int32} {v : Value} (hi : i = .iastore ∨ i = .bastore ∨ i = .aastore) (hd : decode m.2.2.1 pc = .ok (i, 1)) : xR X m pc ls (v :: .int j :: .ref a :: st) h = xsK i (xget X h a) a j v (fun b => xkind (xget X h b)) (fun e => xR X m (pc + 1) ls st (xset h a e)) := by
  unfold xsK
  have e : xact X m pc ls (v :: .int j :: .ref a :: st) h = (if a < 16 then none else match xas i (xget X h a) j v (fun b => xkind (xget X h b)) with | some e => xgo (pc + 1) ls st (xset h a e) | none => none) := by
    rw [xact_of hd]
    rcases hi with rfl | rfl | rfl <;> rfl
  by_cases ha : a < 16
  · rw [if_pos ha] at e ⊢
    exact xR_none e
  · rw [if_neg ha] at e ⊢
    cases hv : xas i (xget X h a) j v (fun b => xkind (xget X h b)) with
    | none => rw [hv] at e; exact xR_none e
    | some v => rw [hv] at e; exact xR_go e
def xnK (c : Option xE) (K : Value → Option (Option Value × xH)) : Option (Option Value × xH) := match c with
  | some (.inr ((t, n), _)) => if t ≤ 5 then K (.int (Int32.ofNat n)) else none
  | _ => none
theorem q_len {a : Nat} (hd : decode m.2.2.1 pc = .ok (.arraylength, 1)) : xR X m pc ls (.ref a :: st) h = xnK (xget X h a) (fun v => xR X m (pc + 1) ls (v :: st) h) := by
  have e : xact X m pc ls (.ref a :: st) h = (match xget X h a with | some (.inr ((t, n), _)) => if t ≤ 5 then xgo (pc + 1) ls (.int (Int32.ofNat n) :: st) h else none | _ => none) := xact_of hd
  unfold xnK
  generalize xget X h a = c at e ⊢
  cases c with
  | none => exact xR_none e
  | some c =>
    obtain ⟨ci, fs⟩ | ⟨⟨t, n⟩, x⟩ := c
    · exact xR_none e
    · dsimp only at e ⊢
      by_cases ht : t ≤ 5
      · rw [if_pos ht] at e ⊢
        exact xR_go e
      · rw [if_neg ht] at e ⊢
        exact xR_none e
def xiK (o k : Nat) (c : Option xE) (K : Value → Option (Option Value × xH)) : Option (Option Value × xH) := match xkind c with
  | some ci => (match xins o k ci with
    | some v => K (.int v)
    | none => none)
  | none => none
theorem q_ins {k a : Nat} (hd : decode m.2.2.1 pc = .ok (.instanceof k, 3)) : xR X m pc ls (.ref a :: st) h = xiK m.1 k (xget X h a) (fun v => xR X m (pc + 3) ls (v :: st) h) := by
  have e : xact X m pc ls (.ref a :: st) h = (match xkind (xget X h a) with | some ci => (match xins m.1 k ci with | some v => xgo (pc + 3) ls (.int v :: st) h | none => none) | none => none) := xact_of hd
  unfold xiK
  cases hk : xkind (xget X h a) with
  | none => rw [hk] at e; exact xR_none e
  | some ci =>
    rw [hk] at e
    dsimp only at e ⊢
    cases hv : xins m.1 k ci with
    | none => rw [hv] at e; exact xR_none e
    | some v => rw [hv] at e; exact xR_go e
/-- a call of an object's method, by the kind of the object -/
noncomputable def xcK (X : xS) (m : xMd) (T : Nat → Option xMd) (c : Option xE) (as : List Value) (st : List Value) (h : xH) (K : List Value → xH → Option (Option Value × xH)) : Option (Option Value × xH) := match xkind c with
  | some ci => (match T ci with
    | some m' => if m'.2.2.2.2.2 < m.2.2.2.2.2 ∧ st.length ≤ 4 ∧ m'.2.2.2.1 ≤ 11 ∧ (xent0 as).length ≤ m'.2.2.2.1 then xbd (xR X m' 0 (xent m'.2.2.2.1 as) [] h) (fun v h1 => K (xpv v st) h1) else none
    | none => none)
  | none => none
theorem q_calO {T : Nat → Option xMd} {a n : Nat} {as : List Value} {pc' : Nat} {st0 : List Value} (H : xact X m pc ls st0 h = xcalO X m n T pc' ls st0 h) (hst : st0 = as.reverse ++ .ref a :: st) (hn : as.length = n) : xR X m pc ls st0 h = xcK X m T (xget X h a) (.ref a :: as) st h (fun st1 h1 => xR X m pc' ls st1 h1) := by
  have e1 : st0.drop n = .ref a :: st := by rw [hst, ← hn, ← List.length_reverse, List.drop_left]
  have e2 : (st0.take n).reverse = as := by rw [hst, ← hn, ← List.length_reverse, List.take_left, List.reverse_reverse]
  unfold xcalO at H
  rw [e1, e2] at H
  dsimp only at H
  unfold xcK
  cases hk : xkind (xget X h a) with
  | none => rw [hk] at H; exact xR_none H
  | some ci =>
    rw [hk] at H
    dsimp only at H ⊢
    cases hT : T ci with
    | none => rw [hT] at H; exact xR_none H
    | some m' =>
      rw [hT] at H
      dsimp only at H ⊢
      unfold xcal at H
      split at H
      · rename_i hc
        rw [if_pos hc]
        exact xR_call H
      · rename_i hc
        rw [if_neg hc]
        exact xR_none H
theorem q_cal {m' : xMd} {as : List Value} {pc' : Nat} {st0 : List Value} (H : xact X m pc ls st0 h = xcal m m' as pc' ls st h) (hc : m'.2.2.2.2.2 < m.2.2.2.2.2 ∧ st.length ≤ 4 ∧ m'.2.2.2.1 ≤ 11 ∧ (xent0 as).length ≤ m'.2.2.2.1) : xR X m pc ls st0 h = xbd (xR X m' 0 (xent m'.2.2.2.1 as) [] h) (fun v h1 => xR X m pc' ls (xpv v st) h1) := by
  unfold xcal at H
  rw [if_pos hc] at H
  exact xR_call H
theorem q_swOut {d lo hi : Int} {offs : Array Int} {len : Nat} {x : Int32} (hd : decode m.2.2.1 pc = .ok (.tableswitch d lo hi offs, len)) (hx : x.toInt < lo ∨ hi < x.toInt) (ht : (pc : Int) + d = (tgt : Int)) : xR X m pc ls (.int x :: st) h = xR X m tgt ls st h := by
  refine q_jmp hd (off := d) ?_ ht
  unfold xstep
  rw [if_pos (show len = xlen (.tableswitch d lo hi offs) len from rfl)]
  show (if x.toInt < lo ∨ hi < x.toInt then xjmp pc d ls st h else _) = _
  rw [if_pos hx]
theorem q_swIn {d lo hi : Int} {offs : Array Int} {len : Nat} {x : Int32} {off : Int} (hd : decode m.2.2.1 pc = .ok (.tableswitch d lo hi offs, len)) (hx : ¬ (x.toInt < lo ∨ hi < x.toInt)) (ho : offs[(x.toInt - lo).toNat]? = some off) (ht : (pc : Int) + off = (tgt : Int)) : xR X m pc ls (.int x :: st) h = xR X m tgt ls st h := by
  refine q_jmp hd (off := off) ?_ ht
  unfold xstep
  rw [if_pos (show len = xlen (.tableswitch d lo hi offs) len from rfl)]
  show (if x.toInt < lo ∨ hi < x.toInt then xjmp pc d ls st h else (match offs[(x.toInt - lo).toNat]? with | some off => xjmp pc off ls st h | none => none)) = _
  rw [if_neg hx, ho]
theorem q_cpy {k a b n0 n1 : Nat} {f g : Nat → Int32} {n dp sp : Int32} (hd : decode m.2.2.1 pc = .ok (.invokestatic k, 3)) (hp : xpr m.1 k = some 4) (hh : 1 ≤ m.2.2.2.2.2) (hga : xget X h a = some (.inr ((0, n0), .inl f))) (hgb : xget X h b = some (.inr ((0, n1), .inl g))) (hc : 16 ≤ a ∧ 16 ≤ b ∧ st.length ≤ 4 ∧ ¬ sp < 0 ∧ ¬ dp < 0 ∧ ¬ n < 0 ∧ sp.toNatClampNeg + n.toNatClampNeg ≤ n0 ∧ dp.toNatClampNeg + n.toNatClampNeg ≤ n1) : xR X m pc ls (.int n :: .int dp :: .ref b :: .int sp :: .ref a :: st) h = xR X m (pc + 3) ls st (xset h b (.inr ((0, n1), .inl (xcpy f g sp.toNatClampNeg dp.toNatClampNeg n.toNatClampNeg)))) := by
  refine xR_go ?_
  rw [xact_of hd]
  show (match xpr m.1 k with | some q => if xprh q ≤ m.2.2.2.2.2 ∧ (q = 2 ∨ q = 3 ∨ q = 4) then xprim X q (pc + 3) ls (.int n :: .int dp :: .ref b :: .int sp :: .ref a :: st) h else none | none => _) = _
  rw [hp]
  show (if xprh 4 ≤ m.2.2.2.2.2 ∧ (4 = 2 ∨ 4 = 3 ∨ 4 = 4) then xprim X 4 (pc + 3) ls (.int n :: .int dp :: .ref b :: .int sp :: .ref a :: st) h else none) = _
  rw [if_pos (show xprh 4 ≤ m.2.2.2.2.2 ∧ (4 = 2 ∨ 4 = 3 ∨ 4 = 4) from ⟨hh, Or.inr (Or.inr rfl)⟩)]
  show (match xget X h a, xget X h b with
    | some (.inr ((0, n0), .inl f)), some (.inr ((0, n1), .inl g)) =>
      if 16 ≤ a ∧ 16 ≤ b ∧ st.length ≤ 4 ∧ ¬ sp < 0 ∧ ¬ dp < 0 ∧ ¬ n < 0 ∧ sp.toNatClampNeg + n.toNatClampNeg ≤ n0 ∧ dp.toNatClampNeg + n.toNatClampNeg ≤ n1
      then xgo (pc + 3) ls st (xset h b (.inr ((0, n1), .inl (xcpy f g sp.toNatClampNeg dp.toNatClampNeg n.toNatClampNeg)))) else none
    | _, _ => none) = _
  rw [hga, hgb]
  exact if_pos hc
theorem q_slen {k a : Nat} (hd : decode m.2.2.1 pc = .ok (.invokevirtual k, 3)) (hp : xpr m.1 k = some 5) (hh : 3 ≤ m.2.2.2.2.2) (hc : 1 ≤ a ∧ a ≤ 7 ∧ st.length ≤ 4) : xR X m pc ls (.ref a :: st) h = xR X m (pc + 3) ls (.int (nI (xtxt a).length) :: st) h := by
  refine xR_go ?_
  rw [xact_of hd]
  show (match xpr m.1 k with | some q => if xprh q ≤ m.2.2.2.2.2 ∧ (q = 5 ∨ q = 6) then xprim X q (pc + 3) ls (.ref a :: st) h else none | none => _) = _
  rw [hp]
  show (if xprh 5 ≤ m.2.2.2.2.2 ∧ (5 = 5 ∨ 5 = 6) then (if 1 ≤ a ∧ a ≤ 7 ∧ st.length ≤ 4 then xgo (pc + 3) ls (.int (nI (xtxt a).length) :: st) h else none) else none) = _
  rw [if_pos (show xprh 5 ≤ m.2.2.2.2.2 ∧ (5 = 5 ∨ 5 = 6) from ⟨hh, Or.inl rfl⟩), if_pos hc]
  rfl
theorem q_schar {k a : Nat} {i : Int32} (hd : decode m.2.2.1 pc = .ok (.invokevirtual k, 3)) (hp : xpr m.1 k = some 6) (hh : 6 ≤ m.2.2.2.2.2) (hc : 1 ≤ a ∧ a ≤ 7 ∧ st.length ≤ 4 ∧ xin i (xtxt a).length = true) : xR X m pc ls (.int i :: .ref a :: st) h = xR X m (pc + 3) ls (.int ((xtxt a).getD i.toNatClampNeg 0) :: st) h := by
  refine xR_go ?_
  rw [xact_of hd]
  show (match xpr m.1 k with | some q => if xprh q ≤ m.2.2.2.2.2 ∧ (q = 5 ∨ q = 6) then xprim X q (pc + 3) ls (.int i :: .ref a :: st) h else none | none => _) = _
  rw [hp]
  show (if xprh 6 ≤ m.2.2.2.2.2 ∧ (6 = 5 ∨ 6 = 6) then (if 1 ≤ a ∧ a ≤ 7 ∧ st.length ≤ 4 ∧ xin i (xtxt a).length = true then xgo (pc + 3) ls (.int ((xtxt a).getD i.toNatClampNeg 0) :: st) h else none) else none) = _
  rw [if_pos (show xprh 6 ≤ m.2.2.2.2.2 ∧ (6 = 5 ∨ 6 = 6) from ⟨hh, Or.inr rfl⟩), if_pos hc]
  rfl
theorem q_dv {i : ClassFile.Instr} {x y v : Int32} (hd : decode m.2.2.1 pc = .ok (i, 1)) (hc : xcls i = 4) (hl : xlen i 1 = 1) (hv : xbin i x y = some v) : xR X m pc ls (.int y :: .int x :: st) h = xR X m (pc + 1) ls (.int v :: st) h := by
  refine xR_go ?_
  rw [xact_of hd]
  unfold xstep
  rw [if_pos hl.symm, hc]
  dsimp only
  rw [hv]
  rfl
theorem q_bret {x : Int32} (hd : decode m.2.2.1 pc = .ok (.ireturn, 1)) (hm : m.2.2.2.2.1 = some .boolean) (hx : x = 0 ∨ x = 1) : xR X m pc ls [.int x] h = some (some (.int x), h) := by
  refine xR_ret ?_
  rw [xact_of hd]
  show (if m.2.2.2.2.1 = some .int ∨ (m.2.2.2.2.1 = some .boolean ∧ (x = 0 ∨ x = 1)) then _ else none) = _
  rw [if_pos (Or.inr ⟨hm, hx⟩)]
theorem q_iret {x : Int32} (hd : decode m.2.2.1 pc = .ok (.ireturn, 1)) (hm : m.2.2.2.2.1 = some .int) : xR X m pc ls [.int x] h = some (some (.int x), h) := by
  refine xR_ret ?_
  rw [xact_of hd]
  show (if m.2.2.2.2.1 = some .int ∨ (m.2.2.2.2.1 = some .boolean ∧ (x = 0 ∨ x = 1)) then _ else none) = _
  rw [if_pos (Or.inl hm)]
theorem q_vret (hd : decode m.2.2.1 pc = .ok (.return_, 1)) (hm : m.2.2.2.2.1 = none) : xR X m pc ls [] h = some (none, h) := by
  refine xR_ret ?_
  rw [xact_of hd]
  show (if m.2.2.2.2.1 = none then _ else none) = _
  rw [if_pos hm]
theorem q_aret {v : Value} (hd : decode m.2.2.1 pc = .ok (.areturn, 1)) (hm : xrty m.2.2.2.2.1 = true) (hv : xknd v = 2) : xR X m pc ls [v] h = some (some v, h) := by
  refine xR_ret ?_
  rw [xact_of hd]
  show (if xrty m.2.2.2.2.1 = true ∧ xknd v = 2 then _ else none) = _
  rw [if_pos ⟨hm, hv⟩]
theorem xcK_at {T : Nat → Option xMd} {ci : Nat} {fs as : List Value} {K : List Value → xH → Option (Option Value × xH)} {m' : xMd} (hT : T ci = some m') (hc : m'.2.2.2.2.2 < m.2.2.2.2.2 ∧ st.length ≤ 4 ∧ m'.2.2.2.1 ≤ 11 ∧ (xent0 as).length ≤ m'.2.2.2.1) : xcK X m T (some (.inl (ci, fs))) as st h K = xbd (xR X m' 0 (xent m'.2.2.2.1 as) [] h) (fun v h1 => K (xpv v st) h1) := by
  unfold xcK xkind
  dsimp only
  rw [hT]
  dsimp only
  rw [if_pos hc]
theorem xpK_at {ci k o : Nat} {fs fs2 : List Value} {F : Nat → Option Nat} {ini : Bool} {v : Value} {K : xE → Option (Option Value × xH)} (hF : F ci = some k) (ht : xtyp (xfty ci k) v = true) (hk : k < fs.length) (hf : xffin ci k = none ∨ (ini = true ∧ xffin ci k = some o)) (h2 : fs.set k v = fs2) : xpK (some (.inl (ci, fs))) F o ini v K = K (.inl (ci, fs2)) := by
  unfold xpK xpf
  dsimp only
  rw [hF]
  dsimp only
  rw [if_pos ⟨ht, hk, hf⟩, h2]
end XEQ
