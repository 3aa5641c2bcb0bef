/-! THE MACHINE DOES IT: instructions that leave the heap alone -/
/-- what a method's frame stands on -/
def xC (p : Program) (R : Room) (s : State) (mid : MethodId) (args : Array Value) (meth : Method) (c : Code) (m : xMd) : Prop := p.tables.exec = Jvm.exec ∧ c.code = m.2.2.1 ∧ c.maxLocals = m.2.2.2.1 ∧ s.vm.findClass (xown m.1) = some mid.cls ∧ (∀ w ∈ xWg, w.before args s = true) ∧ (xini m = true → meth.name = "<init>") ∧ m.2.2.2.2.2 ≤ R.frames ∧ 30 * m.2.2.2.2.2 ≤ R.locals
section XP
variable {p : Program} {l : Launch} {e : Env} {R : Room} {s : State} {mid : MethodId} {args : Array Value} {below : List Frame} {meth : Method} {c : Code} {H : Heap} {locs : List Loc} {cells slots : Nat} {Q : State → Prop}
variable {B : Nat} {pre : Nat → Nat} {m : xMd} {pc len pc' : Nat} {i : ClassFile.Instr} {al st al' st' : List Value} {h h' : xH} {rl : Array Slot}
/-- what is owed behind an instruction that leaves the heap -/
def xK (p : Program) (l : Launch) (e : Env) (R : Room) (s : State) (mid : MethodId) (args : Array Value) (below : List Frame) (meth : Method) (c : Code) (H : Heap) (locs : List Loc) (cells slots : Nat) (Q : State → Prop) (B : Nat) (pre : Nat → Nat) (nL pc' : Nat) (al' st' : List Value) : Prop := ∀ rl' : Array Slot, lv_has rl' nL (xlv B pre 0 al') → al'.length = nL → W p l e R s mid args below meth c H locs cells slots Q (F0 mid pc' rl' (st'.map (xv B pre)))
theorem xp_con (hC : xC p R s mid args meth c m) (hl : lv_has rl m.2.2.2.1 (xlv B pre 0 al)) (hal : al.length = m.2.2.2.1) (hd : decode m.2.2.1 pc = .ok (i, len)) (hln : len = xlen i len) {v : Value} (hi : xcon m.1 i = some v)
    (hldc : ∀ k, i = .ldc k → (∃ z, v = .int z ∧ (Jvm.Cond.constant (xown m.1) k z).before args s = true) ∨ (∃ (q : Nat) (tx : String), v = .ref q ∧ vk_R (xown m.1) k tx (xa B pre q) s))
    (hldw : ∀ k, i = .ldc_w k → ∃ z, v = .int z ∧ (Jvm.Cond.constant (xown m.1) k z).before args s = true)
    (hld2 : ∀ k, i = .ldc2_w k → ∃ z, v = .long z ∧ (Jvm.Cond.constantLong (xown m.1) k z).before args s = true)
    (k : xK p l e R s mid args below meth c H locs cells slots Q B pre m.2.2.2.1 (pc + len) al (v :: st)) : W p l e R s mid args below meth c H locs cells slots Q (F0 mid pc rl (st.map (xv B pre))) := by
  obtain ⟨hx, hb, hml, hown, hts, -⟩ := hC
  have k := k rl hl hal
  cases i <;> simp only [xcon] at hi <;> try (cases hi; done)
  all_goals dsimp only [xlen] at hln
  case iconst n => cases hi; subst hln; exact lv_iconst hx hb hd rfl k
  case bipush n => cases hi; subst hln; exact lv_bipush hx hb hd rfl k
  case sipush n => cases hi; subst hln; exact lv_sipush hx hb hd rfl k
  case lconst n => cases hi; subst hln; exact lv_lconst hx hb hd rfl k
  case aconst_null => cases hi; subst hln; exact lv_null hx hb hd k
  case ldc n =>
    subst hln
    rcases hldc n rfl with ⟨z, rfl, hz⟩ | ⟨q, tx, rfl, hz⟩
    · exact lv_ldc hx hb hown hz hd k
    · exact va_ldcS hx hb hown hz hd k
  case ldc_w n =>
    subst hln
    obtain ⟨z, rfl, hz⟩ := hldw n rfl
    exact lv_ldcw hx hb hown hz hd k
  case ldc2_w n =>
    subst hln
    obtain ⟨z, rfl, hz⟩ := hld2 n rfl
    exact lv_ldc2 hx hb hown hz hd k
theorem xp_loa (hC : xC p R s mid args meth c m) (hl : lv_has rl m.2.2.2.1 (xlv B pre 0 al)) (hal : al.length = m.2.2.2.1) (hd : decode m.2.2.1 pc = .ok (i, len)) (hln : len = xlen i len) {j t : Nat} (hi : xloa i = some (j, t)) {v : Value} (hv : al[j]? = some v) (ht : xknd v = t)
    (k : xK p l e R s mid args below meth c H locs cells slots Q B pre m.2.2.2.1 (pc + len) al (v :: st)) : W p l e R s mid args below meth c H locs cells slots Q (F0 mid pc rl (st.map (xv B pre))) := by
  obtain ⟨hx, hb, hml, hown, hts, -⟩ := hC
  have k := k rl hl hal
  cases i <;> simp only [xloa] at hi <;> try (cases hi; done)
  all_goals dsimp only [xlen] at hln
  all_goals cases hi
  all_goals subst hln
  all_goals (cases v <;> try (cases ht; done))
  all_goals (have hg := xl_get hl hv (fun z h => by cases h))
  case iload => exact lv_iload hx hb hd hg k
  case iload_n => exact lv_iload_n hx hb hd rfl hg k
  case lload => exact lv_lload hx hb hd hg k
  case lload_n => exact lv_lload_n hx hb hd rfl hg k
  case aload.refl.null => exact lv_aloadN hx hb hd hg k
  case aload.refl.ref => exact lv_aload hx hb hd hg k
  case aload_n.refl.null => exact lv_aload_nN hx hb hd rfl hg k
  case aload_n.refl.ref => exact lv_aload_n hx hb hd rfl hg k
theorem xp_sto (hC : xC p R s mid args meth c m) (hl : lv_has rl m.2.2.2.1 (xlv B pre 0 al)) (hal : al.length = m.2.2.2.1) (hd : decode m.2.2.1 pc = .ok (i, len)) (hln : len = xlen i len) {j t : Nat} (hi : xstr0 i = some (j, t)) {v : Value} (ht : xknd v = t) (hs : xsto al j v = some al')
    (k : xK p l e R s mid args below meth c H locs cells slots Q B pre m.2.2.2.1 (pc + len) al' st) : W p l e R s mid args below meth c H locs cells slots Q (F0 mid pc rl ((v :: st).map (xv B pre))) := by
  obtain ⟨hx, hb, hml, hown, hts, -⟩ := hC
  obtain ⟨hlen, hj⟩ := xsto_len hs
  have hjn : j < m.2.2.2.1 := by rw [← hal]; exact hj
  have k : ∀ rl' : Array Slot, ∀ w', xv B pre v = w' → lv_has rl' m.2.2.2.1 ((j, w') :: (xlv B pre 0 al).filter (fun q => !(q.1 == j) && !(q.1 + 1 == j && q.2.category == 2))) → W p l e R s mid args below meth c H locs cells slots Q (F0 mid (pc + len) rl' (st.map (xv B pre))) := fun rl' w' hw h1 => k rl' (xl_set hw hs h1) (by rw [hlen, hal])
  cases i <;> simp only [xstr0] at hi <;> try (cases hi; done)
  all_goals dsimp only [xlen] at hln
  all_goals cases hi
  all_goals subst hln
  all_goals (cases v <;> try (cases ht; done))
  case istore => exact lv_istore hx hb hd hl hjn rfl (fun rl' h1 => k rl' _ rfl h1)
  case istore_n => exact lv_istore_n hx hb hd rfl hl hjn rfl (fun rl' h1 => k rl' _ rfl h1)
  case astore.refl.null => exact lv_astoreN hx hb hd hl hjn rfl (fun rl' h1 => k rl' _ rfl h1)
  case astore.refl.ref => exact lv_astore hx hb hd hl hjn rfl (fun rl' h1 => k rl' _ rfl h1)
  case astore_n.refl.null => exact lv_astore_nN hx hb hd rfl hl hjn rfl (fun rl' h1 => k rl' _ rfl h1)
  case astore_n.refl.ref => exact lv_astore_n hx hb hd rfl hl hjn rfl (fun rl' h1 => k rl' _ rfl h1)
theorem xp_bin (hC : xC p R s mid args meth c m) (hl : lv_has rl m.2.2.2.1 (xlv B pre 0 al)) (hal : al.length = m.2.2.2.1) (hd : decode m.2.2.1 pc = .ok (i, len)) (hln : len = xlen i len) {x y v : Int32} (hi : xbin i x y = some v)
    (k : xK p l e R s mid args below meth c H locs cells slots Q B pre m.2.2.2.1 (pc + len) al (.int v :: st)) : W p l e R s mid args below meth c H locs cells slots Q (F0 mid pc rl ((.int y :: .int x :: st).map (xv B pre))) := by
  obtain ⟨hx, hb, hml, hown, hts, -⟩ := hC
  have k := k rl hl hal
  cases i <;> simp only [xbin] at hi <;> try (cases hi; done)
  all_goals dsimp only [xlen] at hln
  case iadd => cases hi; subst hln; exact lv_iadd hx hb hd k
  case isub => cases hi; subst hln; exact lv_isub hx hb hd k
  case imul => cases hi; subst hln; exact lv_imul hx hb hd k
  case iand => cases hi; subst hln; exact lv_iand hx hb hd k
  case ior => cases hi; subst hln; exact lv_ior hx hb hd k
  case ixor => cases hi; subst hln; exact lv_ixor hx hb hd k
  case ishl => cases hi; subst hln; exact lv_ishl hx hb hd k
  case ishr => cases hi; subst hln; exact lv_ishr hx hb hd k
  case iushr => cases hi; subst hln; exact lv_iushr hx hb hd rfl k
  case idiv =>
    split at hi
    · cases hi
    · rename_i hne
      cases hi; subst hln; exact lv_idiv hx hb hd hne k
  case irem =>
    split at hi
    · cases hi
    · rename_i hne
      cases hi; subst hln; exact lv_irem hx hb hd hne k
theorem xp_un (hC : xC p R s mid args meth c m) (hl : lv_has rl m.2.2.2.1 (xlv B pre 0 al)) (hal : al.length = m.2.2.2.1) (hd : decode m.2.2.1 pc = .ok (i, len)) (hln : len = xlen i len) {x : Int32} {v : Value} (hi : xiun i x = some v)
    (k : xK p l e R s mid args below meth c H locs cells slots Q B pre m.2.2.2.1 (pc + len) al (v :: st)) : W p l e R s mid args below meth c H locs cells slots Q (F0 mid pc rl ((.int x :: st).map (xv B pre))) := by
  obtain ⟨hx, hb, hml, hown, hts, -⟩ := hC
  have k := k rl hl hal
  cases i <;> simp only [xiun] at hi <;> try (cases hi; done)
  all_goals dsimp only [xlen] at hln
  case ineg => cases hi; subst hln; exact lv_ineg hx hb hd k
  case i2l => cases hi; subst hln; exact lv_i2l hx hb hd rfl k
  case i2b => cases hi; subst hln; exact lv_i2b hx hb hd rfl k
  case i2s => cases hi; subst hln; exact lv_i2s hx hb hd rfl k
theorem xp_lbin (hC : xC p R s mid args meth c m) (hl : lv_has rl m.2.2.2.1 (xlv B pre 0 al)) (hal : al.length = m.2.2.2.1) (hd : decode m.2.2.1 pc = .ok (i, len)) (hln : len = xlen i len) {x y : Int64} {v : Value} (hi : xlbin i x y = some v)
    (k : xK p l e R s mid args below meth c H locs cells slots Q B pre m.2.2.2.1 (pc + len) al (v :: st)) : W p l e R s mid args below meth c H locs cells slots Q (F0 mid pc rl ((.long y :: .long x :: st).map (xv B pre))) := by
  obtain ⟨hx, hb, hml, hown, hts, -⟩ := hC
  have k := k rl hl hal
  cases i <;> simp only [xlbin] at hi <;> try (cases hi; done)
  all_goals dsimp only [xlen] at hln
  case ladd => cases hi; subst hln; exact lv_ladd hx hb hd k
  case land => cases hi; subst hln; exact lv_land hx hb hd k
  case lor => cases hi; subst hln; exact lv_lor hx hb hd k
  case lcmp => cases hi; subst hln; exact W.lcmp hx hb hd k
theorem xp_lsh (hC : xC p R s mid args meth c m) (hl : lv_has rl m.2.2.2.1 (xlv B pre 0 al)) (hal : al.length = m.2.2.2.1) (hd : decode m.2.2.1 pc = .ok (i, len)) (hln : len = xlen i len) {x v : Int64} {y : Int32} (hi : xlsh i x y = some v)
    (k : xK p l e R s mid args below meth c H locs cells slots Q B pre m.2.2.2.1 (pc + len) al (.long v :: st)) : W p l e R s mid args below meth c H locs cells slots Q (F0 mid pc rl ((.int y :: .long x :: st).map (xv B pre))) := by
  obtain ⟨hx, hb, hml, hown, hts, -⟩ := hC
  have k := k rl hl hal
  cases i <;> simp only [xlsh] at hi <;> try (cases hi; done)
  all_goals dsimp only [xlen] at hln
  case lshl => cases hi; subst hln; exact lv_lshl hx hb hd rfl k
  case lshr => cases hi; subst hln; exact lv_lshr hx hb hd rfl k
  case lushr => cases hi; subst hln; exact lv_lushr hx hb hd rfl k
theorem xp_l2i (hC : xC p R s mid args meth c m) (hl : lv_has rl m.2.2.2.1 (xlv B pre 0 al)) (hal : al.length = m.2.2.2.1) (hd : decode m.2.2.1 pc = .ok (.l2i, 1)) {x : Int64}
    (k : xK p l e R s mid args below meth c H locs cells slots Q B pre m.2.2.2.1 (pc + 1) al (.int x.toInt32 :: st)) : W p l e R s mid args below meth c H locs cells slots Q (F0 mid pc rl ((.long x :: st).map (xv B pre))) := by
  obtain ⟨hx, hb, hml, hown, hts, -⟩ := hC
  have k := k rl hl hal
  exact lv_l2i hx hb hd rfl k
theorem xp_if (hC : xC p R s mid args meth c m) {cd : ClassFile.Cond} {off : Int} {tgt : Nat} (hd : decode m.2.2.1 pc = .ok (.ifCond cd off, 3)) {x : Int32} {rs : List Value}
    (kt : xcnd cd x 0 = true → (pc : Int) + off = (tgt : Int) ∧ W p l e R s mid args below meth c H locs cells slots Q (F0 mid tgt rl rs)) (kf : ¬ xcnd cd x 0 = true → W p l e R s mid args below meth c H locs cells slots Q (F0 mid (pc + 3) rl rs)) (h0 : (pc : Int) + off = (tgt : Int)) : W p l e R s mid args below meth c H locs cells slots Q (F0 mid pc rl (.int x :: rs)) := by
  obtain ⟨hx, hb, hml, hown, hts, -⟩ := hC
  cases cd
  case eq => exact lv_if_eq hx hb hd h0 (fun q => (kt (by simp [xcnd, q])).2) (fun q => kf (by simp [xcnd, q]))
  case ne => exact lv_if_ne hx hb hd h0 (fun q => (kt (by simp [xcnd, q])).2) (fun q => kf (by simp [xcnd, q]))
  case lt => exact lv_if_lt hx hb hd h0 (fun q => (kt (by simp [xcnd, q])).2) (fun q => kf (by simp only [xcnd, decide_eq_true_eq]; exact q))
  case ge => exact lv_if_ge hx hb hd h0 (fun q => (kt (by simp [xcnd, q])).2) (fun q => kf (by simp only [xcnd, decide_eq_true_eq]; exact q))
  case gt => exact lv_if_gt hx hb hd h0 (fun q => (kt (by simp [xcnd, q])).2) (fun q => kf (by simp only [xcnd, decide_eq_true_eq]; exact q))
  case le => exact lv_if_le hx hb hd h0 (fun q => (kt (by simp [xcnd, q])).2) (fun q => kf (by simp only [xcnd, decide_eq_true_eq]; exact q))
theorem xp_icmp (hC : xC p R s mid args meth c m) {cd : ClassFile.Cond} {off : Int} {tgt : Nat} (hd : decode m.2.2.1 pc = .ok (.if_icmp cd off, 3)) {x y : Int32} {rs : List Value}
    (kt : xcnd cd x y = true → (pc : Int) + off = (tgt : Int) ∧ W p l e R s mid args below meth c H locs cells slots Q (F0 mid tgt rl rs)) (kf : ¬ xcnd cd x y = true → W p l e R s mid args below meth c H locs cells slots Q (F0 mid (pc + 3) rl rs)) (h0 : (pc : Int) + off = (tgt : Int)) : W p l e R s mid args below meth c H locs cells slots Q (F0 mid pc rl (.int y :: .int x :: rs)) := by
  obtain ⟨hx, hb, hml, hown, hts, -⟩ := hC
  cases cd
  case eq => exact lv_icmp_eq hx hb hd h0 (fun q => (kt (by simp [xcnd, q])).2) (fun q => kf (by simp [xcnd, q]))
  case ne => exact lv_icmp_ne hx hb hd h0 (fun q => (kt (by simp [xcnd, q])).2) (fun q => kf (by simp [xcnd, q]))
  case lt => exact lv_icmp_lt hx hb hd h0 (fun q => (kt (by simp [xcnd, q])).2) (fun q => kf (by simp only [xcnd, decide_eq_true_eq]; exact q))
  case ge => exact lv_icmp_ge hx hb hd h0 (fun q => (kt (by simp [xcnd, q])).2) (fun q => kf (by simp only [xcnd, decide_eq_true_eq]; exact q))
  case gt => exact lv_icmp_gt hx hb hd h0 (fun q => (kt (by simp [xcnd, q])).2) (fun q => kf (by simp only [xcnd, decide_eq_true_eq]; exact q))
  case le => exact lv_icmp_le hx hb hd h0 (fun q => (kt (by simp [xcnd, q])).2) (fun q => kf (by simp only [xcnd, decide_eq_true_eq]; exact q))
end XP
