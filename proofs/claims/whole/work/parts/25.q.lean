/-! EQUATIONS of the x machine: one for each kind of instruction (printed by wip/whole/gen_q.py) -/
section XQQ
variable {X : xS} {m : xMd} {pc tgt : Nat} {ls st : List Value} {h : xH} {off : Int}
theorem q_iconst {n : Int} {v : Int32} (hd : decode m.2.2.1 pc = .ok (.iconst n, 1)) (hv : Int32.ofInt n = v) : xR X m pc ls (st) h = xR X m (pc + 1) ls (.int v :: st) h := by subst hv; exact xR_go ((xact_of hd).trans rfl)
theorem q_bipush {n : Int} {v : Int32} (hd : decode m.2.2.1 pc = .ok (.bipush n, 2)) (hv : (Int8.ofInt n).toInt32 = v) : xR X m pc ls (st) h = xR X m (pc + 2) ls (.int v :: st) h := by subst hv; exact xR_go ((xact_of hd).trans rfl)
theorem q_sipush {n : Int} {v : Int32} (hd : decode m.2.2.1 pc = .ok (.sipush n, 3)) (hv : (Int16.ofInt n).toInt32 = v) : xR X m pc ls (st) h = xR X m (pc + 3) ls (.int v :: st) h := by subst hv; exact xR_go ((xact_of hd).trans rfl)
theorem q_lconst {n : Fin 2} {v : Int64} (hd : decode m.2.2.1 pc = .ok (.lconst n, 1)) (hv : Int64.ofNat (n : Nat) = v) : xR X m pc ls (st) h = xR X m (pc + 1) ls (.long v :: st) h := by subst hv; exact xR_go ((xact_of hd).trans rfl)
theorem q_null (hd : decode m.2.2.1 pc = .ok (.aconst_null, 1)) : xR X m pc ls (st) h = xR X m (pc + 1) ls (.null :: st) h := xR_go ((xact_of hd).trans rfl)
theorem q_ldc {k : Nat} {v : Value} (hd : decode m.2.2.1 pc = .ok (.ldc k, 2)) (hv : xldc m.1 k = some v) : xR X m pc ls st h = xR X m (pc + 2) ls (v :: st) h := by
  refine xR_go ((xact_of hd).trans ?_)
  show (match xldc m.1 k with | some v => xgo (pc + 2) ls (v :: st) h | none => none) = _
  rw [hv]
  rfl
theorem q_ldcw {k : Nat} {v : Value} (hd : decode m.2.2.1 pc = .ok (.ldc_w k, 3)) (hv : xldcw m.1 k = some v) : xR X m pc ls st h = xR X m (pc + 3) ls (v :: st) h := by
  refine xR_go ((xact_of hd).trans ?_)
  show (match xldcw m.1 k with | some v => xgo (pc + 3) ls (v :: st) h | none => none) = _
  rw [hv]
  rfl
theorem q_ldc2 {k : Nat} {v : Value} (hd : decode m.2.2.1 pc = .ok (.ldc2_w k, 3)) (hv : xldc2 m.1 k = some v) : xR X m pc ls st h = xR X m (pc + 3) ls (v :: st) h := by
  refine xR_go ((xact_of hd).trans ?_)
  show (match xldc2 m.1 k with | some v => xgo (pc + 3) ls (v :: st) h | none => none) = _
  rw [hv]
  rfl
theorem q_iload {k : Nat} {v : Value} (hd : decode m.2.2.1 pc = .ok (.iload k, 2)) (hv : ls[(k : Nat)]? = some v) (ht : xknd v = 0) : xR X m pc ls st h = xR X m (pc + 2) ls (v :: st) h := by
  refine xR_go ((xact_of hd).trans ?_)
  show (match ls[(k : Nat)]? with | some v => if xknd v = 0 then xgo (pc + 2) ls (v :: st) h else none | none => none) = _
  rw [hv]
  exact if_pos ht
theorem q_iload_n {k : Fin 4} {v : Value} (hd : decode m.2.2.1 pc = .ok (.iload_n k, 1)) (hv : ls[(k : Nat)]? = some v) (ht : xknd v = 0) : xR X m pc ls st h = xR X m (pc + 1) ls (v :: st) h := by
  refine xR_go ((xact_of hd).trans ?_)
  show (match ls[(k : Nat)]? with | some v => if xknd v = 0 then xgo (pc + 1) ls (v :: st) h else none | none => none) = _
  rw [hv]
  exact if_pos ht
theorem q_lload {k : Nat} {v : Value} (hd : decode m.2.2.1 pc = .ok (.lload k, 2)) (hv : ls[(k : Nat)]? = some v) (ht : xknd v = 1) : xR X m pc ls st h = xR X m (pc + 2) ls (v :: st) h := by
  refine xR_go ((xact_of hd).trans ?_)
  show (match ls[(k : Nat)]? with | some v => if xknd v = 1 then xgo (pc + 2) ls (v :: st) h else none | none => none) = _
  rw [hv]
  exact if_pos ht
theorem q_lload_n {k : Fin 4} {v : Value} (hd : decode m.2.2.1 pc = .ok (.lload_n k, 1)) (hv : ls[(k : Nat)]? = some v) (ht : xknd v = 1) : xR X m pc ls st h = xR X m (pc + 1) ls (v :: st) h := by
  refine xR_go ((xact_of hd).trans ?_)
  show (match ls[(k : Nat)]? with | some v => if xknd v = 1 then xgo (pc + 1) ls (v :: st) h else none | none => none) = _
  rw [hv]
  exact if_pos ht
theorem q_aload {k : Nat} {v : Value} (hd : decode m.2.2.1 pc = .ok (.aload k, 2)) (hv : ls[(k : Nat)]? = some v) (ht : xknd v = 2) : xR X m pc ls st h = xR X m (pc + 2) ls (v :: st) h := by
  refine xR_go ((xact_of hd).trans ?_)
  show (match ls[(k : Nat)]? with | some v => if xknd v = 2 then xgo (pc + 2) ls (v :: st) h else none | none => none) = _
  rw [hv]
  exact if_pos ht
theorem q_aload_n {k : Fin 4} {v : Value} (hd : decode m.2.2.1 pc = .ok (.aload_n k, 1)) (hv : ls[(k : Nat)]? = some v) (ht : xknd v = 2) : xR X m pc ls st h = xR X m (pc + 1) ls (v :: st) h := by
  refine xR_go ((xact_of hd).trans ?_)
  show (match ls[(k : Nat)]? with | some v => if xknd v = 2 then xgo (pc + 1) ls (v :: st) h else none | none => none) = _
  rw [hv]
  exact if_pos ht
theorem q_istore {k : Nat} {v w : Value} (j p : Nat) (hd : decode m.2.2.1 pc = .ok (.istore k, 2)) (hj : (k : Nat) = j) (ht : xknd v = 0) (hp : j - 1 = p) (h1 : ls[p]? = some w) (h2 : xnl w = true) (h3 : j < ls.length) {ls2 : List Value} (h4 : ls.set j v = ls2) : xR X m pc ls (v :: st) h = xR X m (pc + 2) ls2 st h := by
  subst hj
  subst h4
  subst hp
  exact q_sto hd rfl rfl rfl ht h1 h2 h3
theorem q_istore_n {k : Fin 4} {v w : Value} (j p : Nat) (hd : decode m.2.2.1 pc = .ok (.istore_n k, 1)) (hj : (k : Nat) = j) (ht : xknd v = 0) (hp : j - 1 = p) (h1 : ls[p]? = some w) (h2 : xnl w = true) (h3 : j < ls.length) {ls2 : List Value} (h4 : ls.set j v = ls2) : xR X m pc ls (v :: st) h = xR X m (pc + 1) ls2 st h := by
  subst hj
  subst h4
  subst hp
  exact q_sto hd rfl rfl rfl ht h1 h2 h3
theorem q_astore {k : Nat} {v w : Value} (j p : Nat) (hd : decode m.2.2.1 pc = .ok (.astore k, 2)) (hj : (k : Nat) = j) (ht : xknd v = 2) (hp : j - 1 = p) (h1 : ls[p]? = some w) (h2 : xnl w = true) (h3 : j < ls.length) {ls2 : List Value} (h4 : ls.set j v = ls2) : xR X m pc ls (v :: st) h = xR X m (pc + 2) ls2 st h := by
  subst hj
  subst h4
  subst hp
  exact q_sto hd rfl rfl rfl ht h1 h2 h3
theorem q_astore_n {k : Fin 4} {v w : Value} (j p : Nat) (hd : decode m.2.2.1 pc = .ok (.astore_n k, 1)) (hj : (k : Nat) = j) (ht : xknd v = 2) (hp : j - 1 = p) (h1 : ls[p]? = some w) (h2 : xnl w = true) (h3 : j < ls.length) {ls2 : List Value} (h4 : ls.set j v = ls2) : xR X m pc ls (v :: st) h = xR X m (pc + 1) ls2 st h := by
  subst hj
  subst h4
  subst hp
  exact q_sto hd rfl rfl rfl ht h1 h2 h3
theorem q_iadd {x y : Int32} (hd : decode m.2.2.1 pc = .ok (.iadd, 1)) : xR X m pc ls (.int y :: .int x :: st) h = xR X m (pc + 1) ls (.int (x + y) :: st) h := xR_go ((xact_of hd).trans rfl)
theorem q_isub {x y : Int32} (hd : decode m.2.2.1 pc = .ok (.isub, 1)) : xR X m pc ls (.int y :: .int x :: st) h = xR X m (pc + 1) ls (.int (x - y) :: st) h := xR_go ((xact_of hd).trans rfl)
theorem q_imul {x y : Int32} (hd : decode m.2.2.1 pc = .ok (.imul, 1)) : xR X m pc ls (.int y :: .int x :: st) h = xR X m (pc + 1) ls (.int (x * y) :: st) h := xR_go ((xact_of hd).trans rfl)
theorem q_iand {x y : Int32} (hd : decode m.2.2.1 pc = .ok (.iand, 1)) : xR X m pc ls (.int y :: .int x :: st) h = xR X m (pc + 1) ls (.int (x &&& y) :: st) h := xR_go ((xact_of hd).trans rfl)
theorem q_ior {x y : Int32} (hd : decode m.2.2.1 pc = .ok (.ior, 1)) : xR X m pc ls (.int y :: .int x :: st) h = xR X m (pc + 1) ls (.int (x ||| y) :: st) h := xR_go ((xact_of hd).trans rfl)
theorem q_ixor {x y : Int32} (hd : decode m.2.2.1 pc = .ok (.ixor, 1)) : xR X m pc ls (.int y :: .int x :: st) h = xR X m (pc + 1) ls (.int (x ^^^ y) :: st) h := xR_go ((xact_of hd).trans rfl)
theorem q_ishl {x y : Int32} (hd : decode m.2.2.1 pc = .ok (.ishl, 1)) : xR X m pc ls (.int y :: .int x :: st) h = xR X m (pc + 1) ls (.int (x <<< (y &&& 31)) :: st) h := xR_go ((xact_of hd).trans rfl)
theorem q_ishr {x y : Int32} (hd : decode m.2.2.1 pc = .ok (.ishr, 1)) : xR X m pc ls (.int y :: .int x :: st) h = xR X m (pc + 1) ls (.int (x >>> (y &&& 31)) :: st) h := xR_go ((xact_of hd).trans rfl)
theorem q_iushr {x y : Int32} (hd : decode m.2.2.1 pc = .ok (.iushr, 1)) : xR X m pc ls (.int y :: .int x :: st) h = xR X m (pc + 1) ls (.int ((x.toUInt32 >>> (y.toUInt32 &&& Int32.toUInt32 31)).toInt32) :: st) h := xR_go ((xact_of hd).trans rfl)
theorem q_idiv {x y : Int32} (hd : decode m.2.2.1 pc = .ok (.idiv, 1)) (hy : ¬ y = 0) : xR X m pc ls (.int y :: .int x :: st) h = xR X m (pc + 1) ls (.int (x / y) :: st) h := q_dv hd rfl rfl (if_neg hy)
theorem q_irem {x y : Int32} (hd : decode m.2.2.1 pc = .ok (.irem, 1)) (hy : ¬ y = 0) : xR X m pc ls (.int y :: .int x :: st) h = xR X m (pc + 1) ls (.int (x - x / y * y) :: st) h := q_dv hd rfl rfl (if_neg hy)
theorem q_ineg {x : Int32} (hd : decode m.2.2.1 pc = .ok (.ineg, 1)) : xR X m pc ls (.int x :: st) h = xR X m (pc + 1) ls (.int (-x) :: st) h := xR_go ((xact_of hd).trans rfl)
theorem q_i2l {x : Int32} (hd : decode m.2.2.1 pc = .ok (.i2l, 1)) : xR X m pc ls (.int x :: st) h = xR X m (pc + 1) ls (.long x.toInt64 :: st) h := xR_go ((xact_of hd).trans rfl)
theorem q_i2b {x : Int32} (hd : decode m.2.2.1 pc = .ok (.i2b, 1)) : xR X m pc ls (.int x :: st) h = xR X m (pc + 1) ls (.int x.toInt8.toInt32 :: st) h := xR_go ((xact_of hd).trans rfl)
theorem q_i2s {x : Int32} (hd : decode m.2.2.1 pc = .ok (.i2s, 1)) : xR X m pc ls (.int x :: st) h = xR X m (pc + 1) ls (.int x.toInt16.toInt32 :: st) h := xR_go ((xact_of hd).trans rfl)
theorem q_l2i {x : Int64} (hd : decode m.2.2.1 pc = .ok (.l2i, 1)) : xR X m pc ls (.long x :: st) h = xR X m (pc + 1) ls (.int x.toInt32 :: st) h := xR_go ((xact_of hd).trans rfl)
theorem q_ladd {x y : Int64} (hd : decode m.2.2.1 pc = .ok (.ladd, 1)) : xR X m pc ls (.long y :: .long x :: st) h = xR X m (pc + 1) ls (.long (x + y) :: st) h := xR_go ((xact_of hd).trans rfl)
theorem q_land {x y : Int64} (hd : decode m.2.2.1 pc = .ok (.land, 1)) : xR X m pc ls (.long y :: .long x :: st) h = xR X m (pc + 1) ls (.long (x &&& y) :: st) h := xR_go ((xact_of hd).trans rfl)
theorem q_lor {x y : Int64} (hd : decode m.2.2.1 pc = .ok (.lor, 1)) : xR X m pc ls (.long y :: .long x :: st) h = xR X m (pc + 1) ls (.long (x ||| y) :: st) h := xR_go ((xact_of hd).trans rfl)
theorem q_lcmp {x y : Int64} (hd : decode m.2.2.1 pc = .ok (.lcmp, 1)) : xR X m pc ls (.long y :: .long x :: st) h = xR X m (pc + 1) ls (.int (lg_cmp x y) :: st) h := xR_go ((xact_of hd).trans rfl)
theorem q_lshl {x : Int64} {y : Int32} (hd : decode m.2.2.1 pc = .ok (.lshl, 1)) : xR X m pc ls (.int y :: .long x :: st) h = xR X m (pc + 1) ls (.long (x <<< (y.toInt64 &&& 63)) :: st) h := xR_go ((xact_of hd).trans rfl)
theorem q_lshr {x : Int64} {y : Int32} (hd : decode m.2.2.1 pc = .ok (.lshr, 1)) : xR X m pc ls (.int y :: .long x :: st) h = xR X m (pc + 1) ls (.long (x >>> (y.toInt64 &&& 63)) :: st) h := xR_go ((xact_of hd).trans rfl)
theorem q_lushr {x : Int64} {y : Int32} (hd : decode m.2.2.1 pc = .ok (.lushr, 1)) : xR X m pc ls (.int y :: .long x :: st) h = xR X m (pc + 1) ls (.long ((x.toUInt64 >>> (y.toInt64.toUInt64 &&& Int64.toUInt64 63)).toInt64) :: st) h := xR_go ((xact_of hd).trans rfl)
theorem q_dup_a {x : Nat} (hd : decode m.2.2.1 pc = .ok (.dup, 1)) : xR X m pc ls (.ref x :: st) h = xR X m (pc + 1) ls (.ref x :: .ref x :: st) h := xR_go ((xact_of hd).trans rfl)
theorem q_dup_i {x : Int32} (hd : decode m.2.2.1 pc = .ok (.dup, 1)) : xR X m pc ls (.int x :: st) h = xR X m (pc + 1) ls (.int x :: .int x :: st) h := xR_go ((xact_of hd).trans rfl)
theorem q_dup2 {x : Nat} {y : Int32} (hd : decode m.2.2.1 pc = .ok (.dup2, 1)) : xR X m pc ls (.int y :: .ref x :: st) h = xR X m (pc + 1) ls (.int y :: .ref x :: .int y :: .ref x :: st) h := xR_go ((xact_of hd).trans rfl)
theorem q_pop_i {x : Int32} (hd : decode m.2.2.1 pc = .ok (.pop, 1)) : xR X m pc ls (.int x :: st) h = xR X m (pc + 1) ls (st) h := xR_go ((xact_of hd).trans rfl)
theorem q_pop_a {x : Nat} (hd : decode m.2.2.1 pc = .ok (.pop, 1)) : xR X m pc ls (.ref x :: st) h = xR X m (pc + 1) ls (st) h := xR_go ((xact_of hd).trans rfl)
theorem q_goto (hd : decode m.2.2.1 pc = .ok (.goto off, 3)) (ht : (pc : Int) + off = (tgt : Int)) : xR X m pc ls (st) h = xR X m tgt ls st h := q_jmp hd rfl ht
theorem q_ifnull_n (hd : decode m.2.2.1 pc = .ok (.ifnull off, 3)) (ht : (pc : Int) + off = (tgt : Int)) : xR X m pc ls (.null :: st) h = xR X m tgt ls st h := q_jmp hd rfl ht
theorem q_ifnull_r {x : Nat} (hd : decode m.2.2.1 pc = .ok (.ifnull off, 3)) : xR X m pc ls (.ref x :: st) h = xR X m (pc + 3) ls (st) h := xR_go ((xact_of hd).trans rfl)
theorem q_ifnonnull_r {x : Nat} (hd : decode m.2.2.1 pc = .ok (.ifnonnull off, 3)) (ht : (pc : Int) + off = (tgt : Int)) : xR X m pc ls (.ref x :: st) h = xR X m tgt ls st h := q_jmp hd rfl ht
theorem q_ifnonnull_n (hd : decode m.2.2.1 pc = .ok (.ifnonnull off, 3)) : xR X m pc ls (.null :: st) h = xR X m (pc + 3) ls (st) h := xR_go ((xact_of hd).trans rfl)
theorem q_iaload {a : Nat} {j : Int32} (hd : decode m.2.2.1 pc = .ok (.iaload, 1)) : xR X m pc ls (.int j :: .ref a :: st) h = xlK .iaload (xget X h a) j (fun v => xR X m (pc + 1) ls (v :: st) h) := q_ald (Or.inl rfl) hd
theorem q_baload {a : Nat} {j : Int32} (hd : decode m.2.2.1 pc = .ok (.baload, 1)) : xR X m pc ls (.int j :: .ref a :: st) h = xlK .baload (xget X h a) j (fun v => xR X m (pc + 1) ls (v :: st) h) := q_ald (Or.inr (Or.inl rfl)) hd
theorem q_aaload {a : Nat} {j : Int32} (hd : decode m.2.2.1 pc = .ok (.aaload, 1)) : xR X m pc ls (.int j :: .ref a :: st) h = xlK .aaload (xget X h a) j (fun v => xR X m (pc + 1) ls (v :: st) h) := q_ald (Or.inr (Or.inr rfl)) hd
theorem q_iastore {a : Nat} {j : Int32} {v : Value} (hd : decode m.2.2.1 pc = .ok (.iastore, 1)) : xR X m pc ls (v :: .int j :: .ref a :: st) h = xsK .iastore (xget X h a) a j v (fun b => xkind (xget X h b)) (fun e => xR X m (pc + 1) ls st (xset h a e)) := q_ast (Or.inl rfl) hd
theorem q_bastore {a : Nat} {j : Int32} {v : Value} (hd : decode m.2.2.1 pc = .ok (.bastore, 1)) : xR X m pc ls (v :: .int j :: .ref a :: st) h = xsK .bastore (xget X h a) a j v (fun b => xkind (xget X h b)) (fun e => xR X m (pc + 1) ls st (xset h a e)) := q_ast (Or.inr (Or.inl rfl)) hd
theorem q_aastore {a : Nat} {j : Int32} {v : Value} (hd : decode m.2.2.1 pc = .ok (.aastore, 1)) : xR X m pc ls (v :: .int j :: .ref a :: st) h = xsK .aastore (xget X h a) a j v (fun b => xkind (xget X h b)) (fun e => xR X m (pc + 1) ls st (xset h a e)) := q_ast (Or.inr (Or.inr rfl)) hd
theorem q_new {k ci : Nat} {fs : List Value} (hd : decode m.2.2.1 pc = .ok (.new k, 3)) (hn : xnewT m.1 k = some (ci, fs)) : xR X m pc ls st h = xR X m (pc + 3) ls (.ref (xnw h) :: st) (h ++ [.inl (ci, fs)]) := by
  refine xR_go ((xact_of hd).trans ?_)
  show (match xnewT m.1 k with | some (ci, fs) => xgo (pc + 3) ls (.ref (xnw h) :: st) (h ++ [Sum.inl (ci, fs)]) | none => none) = _
  rw [hn]
  rfl
theorem q_newa {t : ClassFile.ArrayType} {a n : Nat} (hd : decode m.2.2.1 pc = .ok (.newarray t, 2)) (ht : xnar t = some a) (hn : n ≤ 100000) : xR X m pc ls (.int (nI n) :: st) h = xR X m (pc + 2) ls (.ref (xnw h) :: st) (h ++ [.inr ((a, n), .inl (fun _ => 0))]) := by
  refine xR_go ((xact_of hd).trans ?_)
  show (match xnar t with | some a => if ¬ nI n < 0 ∧ (nI n).toNatClampNeg ≤ 100000 then xgo (pc + 2) ls (.ref (xnw h) :: st) (h ++ [(Sum.inr ((a, (nI n).toNatClampNeg), Sum.inl (fun _ => 0)) : xE)]) else none | none => none) = _
  rw [ht, nI_clamp (by omega)]
  exact if_pos ⟨nI_pos (by omega), hn⟩
theorem q_anewa {k a n : Nat} (hd : decode m.2.2.1 pc = .ok (.anewarray k, 3)) (ht : xanew m.1 k = some a) (hn : n ≤ 100000) : xR X m pc ls (.int (nI n) :: st) h = xR X m (pc + 3) ls (.ref (xnw h) :: st) (h ++ [.inr ((a, n), .inr (fun _ => none))]) := by
  refine xR_go ((xact_of hd).trans ?_)
  show (match xanew m.1 k with | some a => if ¬ nI n < 0 ∧ (nI n).toNatClampNeg ≤ 100000 then xgo (pc + 3) ls (.ref (xnw h) :: st) (h ++ [(Sum.inr ((a, (nI n).toNatClampNeg), Sum.inr (fun _ => none)) : xE)]) else none | none => none) = _
  rw [ht, nI_clamp (by omega)]
  exact if_pos ⟨nI_pos (by omega), hn⟩
theorem q_mna {k : Nat} (hd : decode m.2.2.1 pc = .ok (.multianewarray k 2, 4)) (ht : xmna m.1 k = true) : xR X m pc ls (.int (nI 40) :: .int (nI 8) :: st) h = xR X m (pc + 4) ls (.ref (xnw h) :: st) (h ++ ((.inr ((3, 8), .inr (fun j => if j < 8 then some (xnw h + 1 + j) else none))) :: List.replicate 8 (.inr ((0, 40), .inl (fun _ => 0))))) := by
  refine xR_go ((xact_of hd).trans ?_)
  show (if xmna m.1 k = true ∧ 2 = 2 ∧ nI 40 = 40 ∧ nI 8 = 8 then _ else none) = _
  exact if_pos ⟨ht, rfl, by decide, by decide⟩
theorem q_obj {k a : Nat} (hd : decode m.2.2.1 pc = .ok (.invokespecial k, 3)) (hp : xpr m.1 k = some 1) (hh : 1 ≤ m.2.2.2.2.2) (hs : st.length ≤ 4) : xR X m pc ls (.ref a :: st) h = xR X m (pc + 3) ls st h := by
  refine xR_go ((xact_of hd).trans ?_)
  show (match xpr m.1 k with | some q => if xprh q ≤ m.2.2.2.2.2 ∧ q = 1 then xprim X q (pc + 3) ls (.ref a :: st) h else none | none => _) = _
  rw [hp]
  exact (if_pos (show xprh 1 ≤ m.2.2.2.2.2 ∧ 1 = 1 from ⟨hh, rfl⟩)).trans (if_pos hs)
theorem q_max {k : Nat} {x y : Int32} (hd : decode m.2.2.1 pc = .ok (.invokestatic k, 3)) (hp : xpr m.1 k = some 2) (hh : 1 ≤ m.2.2.2.2.2) (hs : st.length ≤ 4) : xR X m pc ls (.int y :: .int x :: st) h = xR X m (pc + 3) ls (.int (if x < y then y else x) :: st) h := by
  refine xR_go ((xact_of hd).trans ?_)
  show (match xpr m.1 k with | some q => if xprh q ≤ m.2.2.2.2.2 ∧ (q = 2 ∨ q = 3 ∨ q = 4) then xprim X q (pc + 3) ls (.int y :: .int x :: st) h else none | none => _) = _
  rw [hp]
  exact (if_pos (show xprh 2 ≤ m.2.2.2.2.2 ∧ (2 = 2 ∨ 2 = 3 ∨ 2 = 4) from ⟨hh, Or.inl rfl⟩)).trans (if_pos hs)
theorem q_min {k : Nat} {x y : Int32} (hd : decode m.2.2.1 pc = .ok (.invokestatic k, 3)) (hp : xpr m.1 k = some 3) (hh : 1 ≤ m.2.2.2.2.2) (hs : st.length ≤ 4) : xR X m pc ls (.int y :: .int x :: st) h = xR X m (pc + 3) ls (.int (if y < x then y else x) :: st) h := by
  refine xR_go ((xact_of hd).trans ?_)
  show (match xpr m.1 k with | some q => if xprh q ≤ m.2.2.2.2.2 ∧ (q = 2 ∨ q = 3 ∨ q = 4) then xprim X q (pc + 3) ls (.int y :: .int x :: st) h else none | none => _) = _
  rw [hp]
  exact (if_pos (show xprh 3 ≤ m.2.2.2.2.2 ∧ (3 = 2 ∨ 3 = 3 ∨ 3 = 4) from ⟨hh, Or.inr (Or.inl rfl)⟩)).trans (if_pos hs)
theorem q_calV {k n a : Nat} {as st0 : List Value} (hd : decode m.2.2.1 pc = .ok (.invokevirtual k, 3)) (hp : xpr m.1 k = none) (hn : xnp m.1 k = some n) (hst : st0 = as.reverse ++ .ref a :: st) (hl : as.length = n) : xR X m pc ls st0 h = xcK X m (xcv m.1 k) (xget X h a) (.ref a :: as) st h (fun st1 h1 => xR X m (pc + 3) ls st1 h1) := by
  refine q_calO (n := n) (as := as) ?_ hst hl
  refine (xact_of hd).trans ?_
  show (match xpr m.1 k with | some q => if xprh q ≤ m.2.2.2.2.2 ∧ (q = 5 ∨ q = 6) then xprim X q (pc + 3) ls st0 h else none | none => (match xnp m.1 k with | some n => xcalO X m n (fun ci => xcv m.1 k ci) (pc + 3) ls st0 h | none => none)) = _
  rw [hp, hn]
theorem q_calI {k n a : Nat} {as st0 : List Value} (hd : decode m.2.2.1 pc = .ok (.invokespecial k, 3)) (hp : xpr m.1 k = none) (hn : xnp m.1 k = some n) (hst : st0 = as.reverse ++ .ref a :: st) (hl : as.length = n) : xR X m pc ls st0 h = xcK X m (xci m.1 k) (xget X h a) (.ref a :: as) st h (fun st1 h1 => xR X m (pc + 3) ls st1 h1) := by
  refine q_calO (n := n) (as := as) ?_ hst hl
  refine (xact_of hd).trans ?_
  show (match xpr m.1 k with | some q => if xprh q ≤ m.2.2.2.2.2 ∧ q = 1 then xprim X q (pc + 3) ls st0 h else none | none => (match xnp m.1 k with | some n => xcalO X m n (fun ci => xci m.1 k ci) (pc + 3) ls st0 h | none => none)) = _
  rw [hp, hn]
theorem q_calS {k n : Nat} {as st0 : List Value} {m' : xMd} (hd : decode m.2.2.1 pc = .ok (.invokestatic k, 3)) (hp : xpr m.1 k = none) (hn : xcs m.1 k = some (n, m')) (hst : st0 = as.reverse ++ st) (hl : as.length = n) (hc : m'.2.2.2.2.2 < m.2.2.2.2.2 ∧ st.length ≤ 4 ∧ m'.2.2.2.1 ≤ 11 ∧ (xent0 as).length ≤ m'.2.2.2.1) : xR X m pc ls st0 h = xbd (xR X m' 0 (xent m'.2.2.2.1 as) [] h) (fun v h1 => xR X m (pc + 3) ls (xpv v st) h1) := by
  refine q_cal ?_ hc
  refine (xact_of hd).trans ?_
  show (match xpr m.1 k with | some q => if xprh q ≤ m.2.2.2.2.2 ∧ (q = 2 ∨ q = 3 ∨ q = 4) then xprim X q (pc + 3) ls st0 h else none | none => (match xcs m.1 k with | some (n, m') => if n ≤ st0.length then xcal m m' (st0.take n).reverse (pc + 3) ls (st0.drop n) h else none | none => none)) = _
  rw [hp, hn]
  have e1 : st0.drop n = st := by rw [hst, ← hl, ← List.length_reverse, List.drop_left]
  have e2 : (st0.take n).reverse = as := by rw [hst, ← hl, ← List.length_reverse, List.take_left, List.reverse_reverse]
  have e3 : n ≤ st0.length := by rw [hst, List.length_append, List.length_reverse, hl]; omega
  show (if n ≤ st0.length then xcal m m' (st0.take n).reverse (pc + 3) ls (st0.drop n) h else none) = _
  rw [e1, e2]
  exact if_pos e3
theorem q_iinc {n : Int} {x v : Int32} {w : Value} (j p : Nat) (hd : decode m.2.2.1 pc = .ok (.iinc j n, 3)) (hv : Int32.ofInt n = v) (hx : ls[j]? = some (.int x)) (hp : j - 1 = p) (h1 : ls[p]? = some w) (h2 : xnl w = true) (h3 : j < ls.length) {ls2 : List Value} (h4 : ls.set j (.int (x + v)) = ls2) : xR X m pc ls st h = xR X m (pc + 3) ls2 st h := by
  subst hv
  subst h4
  subst hp
  exact q_inc hd hx h1 h2 h3
end XQQ
