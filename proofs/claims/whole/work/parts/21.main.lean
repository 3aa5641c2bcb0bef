/-! SOUND: runs -/
/-- what a call is -/
def xCallR (X : xS) (m : xMd) (pc : Nat) (al st : List Value) (h : xH) (m' : xMd) (l0 : List Value) (pc1 : Nat) (al1 st1 : List Value) (h1 : xH) : Prop :=
  pc1 = pc + 3 ∧ al1 = al ∧ h1 = h ∧ m'.2.2.2.2.2 < m.2.2.2.2.2 ∧ st1.length ≤ 4 ∧ m'.2.2.2.1 ≤ 11 ∧ ∃ as : List Value, l0 = xent m'.2.2.2.1 as ∧ (xent0 as).length ≤ m'.2.2.2.1 ∧
    ((∃ k ci fs a n asr op, (op = ClassFile.Instr.invokevirtual ∧ xcv m.1 k ci = some m' ∨ op = ClassFile.Instr.invokespecial ∧ xci m.1 k ci = some m') ∧ decode m.2.2.1 pc = .ok (op k, 3) ∧ xnp m.1 k = some n ∧ as = .ref a :: asr ∧ st = asr.reverse ++ .ref a :: st1 ∧ asr.length = n ∧ xget X h a = some (.inl (ci, fs))) ∨
     (∃ k n, decode m.2.2.1 pc = .ok (.invokestatic k, 3) ∧ xcs m.1 k = some (n, m') ∧ st = as.reverse ++ st1 ∧ as.length = n))
section XCI
variable {X : xS} {m m' : xMd} {pc pc1 len : Nat} {i : ClassFile.Instr} {al st al1 st1 l0 : List Value} {h h1 : xH}
theorem xcal_inv {as : List Value} {pc0 : Nat} {ls st0 : List Value} {m1 : xMd} (H : xcal m m1 as pc0 ls st0 h = some (.inr (.inr (m', l0, pc1, al1, st1, h1)))) : m1 = m' ∧ pc1 = pc0 ∧ al1 = ls ∧ st1 = st0 ∧ h1 = h ∧ l0 = xent m'.2.2.2.1 as ∧ m'.2.2.2.2.2 < m.2.2.2.2.2 ∧ st0.length ≤ 4 ∧ m'.2.2.2.1 ≤ 11 ∧ (xent0 as).length ≤ m'.2.2.2.1 := by
  unfold xcal at H
  split at H
  · rename_i hc
    cases H
    exact ⟨rfl, rfl, rfl, rfl, rfl, rfl, hc.1, hc.2.1, hc.2.2.1, hc.2.2.2⟩
  · cases H
theorem xgo_nc {a : Nat} {b c : List Value} {d : xH} {q : xMd × List Value × Nat × List Value × List Value × xH} (h : xgo a b c d = some (.inr (.inr q))) : False := by
  unfold xgo at h
  cases h
theorem xjmp_nc {a : Nat} {o : Int} {b c : List Value} {d : xH} {q : xMd × List Value × Nat × List Value × List Value × xH} (h : xjmp a o b c d = some (.inr (.inr q))) : False := by
  unfold xjmp at h
  split at h
  · exact xgo_nc h
  · cases h
theorem xprim_nc {k pc : Nat} {ls st : List Value} {q : xMd × List Value × Nat × List Value × List Value × xH} (H : xprim X k pc ls st h = some (.inr (.inr q))) : False := by
  unfold xprim at H
  repeat' split at H
  all_goals first | exact xgo_nc H | cases H
theorem xcalO_inv {n : Nat} {T : Nat → Option xMd} {pc0 : Nat} {ls : List Value} (H : xcalO X m n T pc0 ls st h = some (.inr (.inr (m', l0, pc1, al1, st1, h1)))) : ∃ ci fs a asr, T ci = some m' ∧ xget X h a = some (.inl (ci, fs)) ∧ st = asr.reverse ++ .ref a :: st1 ∧ asr.length = n ∧ pc1 = pc0 ∧ al1 = ls ∧ h1 = h ∧ l0 = xent m'.2.2.2.1 (.ref a :: asr) ∧ m'.2.2.2.2.2 < m.2.2.2.2.2 ∧ st1.length ≤ 4 ∧ m'.2.2.2.1 ≤ 11 ∧ (xent0 (.ref a :: asr)).length ≤ m'.2.2.2.1 := by
  unfold xcalO at H
  split at H
  · rename_i a r hr
    split at H
    · rename_i ci hci
      split at H
      · rename_i m1 hm
        obtain ⟨rfl, rfl, rfl, rfl, rfl, e1, e2, e3, e4, e5⟩ := xcal_inv H
        obtain ⟨fs, hg⟩ := xkind_inv hci
        refine ⟨ci, fs, a, (st.take n).reverse, hm, hg, ?_, ?_, rfl, rfl, rfl, e1, e2, e3, e4, e5⟩
        · rw [List.reverse_reverse, ← hr, List.take_append_drop]
        · have hlt : n < st.length := by
            have : (st.drop n).length = (Value.ref a :: st1).length := by rw [hr]
            rw [List.length_drop, List.length_cons] at this
            omega
          rw [List.length_reverse, List.length_take]
          omega
      · cases H
    · cases H
  · cases H
theorem xop_call (hd : decode m.2.2.1 pc = .ok (i, len)) (hln : len = xlen i len) (hA : xop X m pc len i al st h = some (.inr (.inr (m', l0, pc1, al1, st1, h1)))) : xCallR X m pc al st h m' l0 pc1 al1 st1 h1 := by
  cases i <;> unfold xop at hA <;> try (cases hA; done)
  all_goals dsimp only [xlen] at hA hln
  case invokevirtual k =>
    subst hln
    split at hA
    · exfalso
      split at hA
      · exact xprim_nc hA
      · cases hA
    · split at hA
      · rename_i n hn
        obtain ⟨ci, fs, a, asr, h1, h2, h3, h4, rfl, rfl, rfl, h8, h9, h10, h11, h12⟩ := xcalO_inv hA
        exact ⟨rfl, rfl, rfl, h9, h10, h11, _, h8, h12, Or.inl ⟨k, ci, fs, a, n, asr, _, Or.inl ⟨rfl, h1⟩, hd, hn, rfl, h3, h4, h2⟩⟩
      · cases hA
  case invokespecial k =>
    subst hln
    split at hA
    · exfalso
      split at hA
      · exact xprim_nc hA
      · cases hA
    · split at hA
      · rename_i n hn
        obtain ⟨ci, fs, a, asr, h1, h2, h3, h4, rfl, rfl, rfl, h8, h9, h10, h11, h12⟩ := xcalO_inv hA
        exact ⟨rfl, rfl, rfl, h9, h10, h11, _, h8, h12, Or.inl ⟨k, ci, fs, a, n, asr, _, Or.inr ⟨rfl, h1⟩, hd, hn, rfl, h3, h4, h2⟩⟩
      · cases hA
  case invokestatic k =>
    subst hln
    split at hA
    · exfalso
      split at hA
      · exact xprim_nc hA
      · cases hA
    · split at hA
      · rename_i n m1 hn
        split at hA
        · rename_i hle
          obtain ⟨rfl, rfl, rfl, rfl, rfl, e1, e2, e3, e4, e5⟩ := xcal_inv hA
          refine ⟨rfl, rfl, rfl, e2, e3, e4, _, e1, e5, Or.inr ⟨k, n, hd, hn, ?_, ?_⟩⟩
          · rw [List.reverse_reverse, List.take_append_drop]
          · rw [List.length_reverse, List.length_take]
            omega
        · cases hA
      · cases hA
  all_goals exfalso
  all_goals (repeat' split at hA)
  all_goals first | (cases hA; done) | exact xgo_nc hA | exact xjmp_nc hA
theorem xact_call (hA : xact X m pc al st h = some (.inr (.inr (m', l0, pc1, al1, st1, h1)))) : xCallR X m pc al st h m' l0 pc1 al1 st1 h1 := by
  unfold xact at hA
  split at hA
  · rename_i i len hd
    unfold xstep at hA
    split at hA
    · rename_i hln
      split at hA
      all_goals try (exfalso; (repeat' split at hA) <;> first | (cases hA; done) | exact xgo_nc hA)
      exact xop_call hd hln hA
    · cases hA
  · cases hA
end XCI
theorem xr_grow {X : xS} : ∀ (n : Nat) {m : xMd} {pc : Nat} {al st : List Value} {h : xH} {v : Option Value} {h' : xH}, xr X n m pc al st h = some (v, h') → xLe h h' := by
  intro n
  induction n with
  | zero => intro m pc al st h v h' H; cases H
  | succ n ih =>
    intro m pc al st h v h' H
    rw [xr] at H
    cases hA : xact X m pc al st h with
    | none => rw [hA] at H; cases H
    | some A =>
      rw [hA] at H
      obtain r0 | ⟨pc1, al1, st1, h1⟩ | ⟨m1, l0, pc1, al1, st1, h1⟩ := A
      · dsimp only at H
        cases H
        rw [(xact_retI hA).1]
        exact xLe.refl _
      · exact (xact_le hA).trans (ih H)
      · dsimp only at H
        have e1 : h1 = h := (xact_call hA).2.2.1
        cases hB : xr X n m1 0 l0 [] h1 with
        | none => rw [hB] at H; cases H
        | some q =>
          obtain ⟨v1, h2⟩ := q
          rw [hB] at H
          rw [← e1]
          exact (ih hB).trans (ih H)
/-- a method's start: its arguments, the heap -/
theorem xent0_v (v : Value) (t : List Value) (h : v.category = 1) : xent0 (v :: t) = v :: xent0 t := by
  cases v <;> first | rfl | cases h
theorem xent_len {n : Nat} {as : List Value} (h : (xent0 as).length ≤ n) : (xent n as).length = n := by
  unfold xent
  rw [List.length_append, List.length_replicate]
  omega
theorem xsl_lg (B : Nat) (pre : Nat → Nat) : ∀ as : List Value, (lg_sl (as.map (xv B pre))).length = (xent0 as).length
  | [] => rfl
  | v :: t => by
    have ih := xsl_lg B pre t
    unfold lg_sl at ih ⊢
    rw [List.map_cons, List.flatMap_cons, List.length_append, ih, xv_cat]
    rcases lv_cat v with hc | hc
    · rw [xent0_v v t hc, hc, List.length_cons]
      simp
      omega
    · cases v <;> first | (cases hc; done) | (simp only [xent0, List.length_cons]; rw [if_pos hc]; simp; omega)
theorem xent0_args (B : Nat) (pre : Nat → Nat) : ∀ (as : List Value) (k : Nat) (q : Nat × Value), q ∈ xlv B pre k (xent0 as) → q ∈ lv_args k (as.map (xv B pre))
  | [], _, _, h => h
  | v :: t, k, q, h => by
    rw [List.map_cons, lv_args, xv_cat]
    rcases lv_cat v with hc | hc
    · rw [xent0_v v t hc] at h
      rw [if_neg (by rw [hc]; decide)]
      unfold xlv at h
      split at h
      · exact List.mem_cons_of_mem _ (xent0_args B pre t (k + 1) q h)
      · rcases List.mem_cons.mp h with h | h
        · rw [h]
          exact List.mem_cons_self
        · exact List.mem_cons_of_mem _ (xent0_args B pre t (k + 1) q h)
    · have key : ∀ v : Value, v.category = 2 → ∀ u : List Value, xent0 (v :: u) = v :: xU :: xent0 u := fun v hc u => by
        cases v <;> first | (cases hc; done) | rfl
      rw [key v hc] at h
      rw [if_pos hc]
      unfold xlv at h
      split at h
      · rename_i hu
        cases v <;> first | (cases hu; done) | cases hc
      · rcases List.mem_cons.mp h with h | h
        · rw [h]
          exact List.mem_cons_self
        · unfold xlv at h
          rw [if_pos (show xuns xU = true from rfl)] at h
          exact List.mem_cons_of_mem _ (xent0_args B pre t (k + 2) q h)
theorem xlv_pad (B : Nat) (pre : Nat → Nat) : ∀ (n k : Nat) (l : List Value) (q : Nat × Value), q ∈ xlv B pre k (l ++ List.replicate n xU) → q ∈ xlv B pre k l
  | n, k, [], q, h => by
    rw [List.nil_append] at h
    induction n generalizing k with
    | zero => exact h
    | succ n ih =>
      rw [List.replicate_succ] at h
      unfold xlv at h
      rw [if_pos (show xuns xU = true from rfl)] at h
      have := ih (k + 1) h
      cases this
  | n, k, v :: t, q, h => by
    rw [List.cons_append] at h
    unfold xlv at h ⊢
    split at h
    · rename_i hu
      rw [if_pos hu]
      exact xlv_pad B pre n (k + 1) t q h
    · rename_i hu
      rw [if_neg hu]
      rcases List.mem_cons.mp h with h | h
      · rw [h]
        exact List.mem_cons_self
      · exact List.mem_cons_of_mem _ (xlv_pad B pre n (k + 1) t q h)
def xW (m : xMd) : List Cond := xw m.2.1 m.2.2.1 m.2.2.2.1 m.2.2.2.2.1
def xRm (m : xMd) (mc ms : Nat) : Room := { frames := m.2.2.2.2.2, cells := mc, slots := ms, locals := 30 * m.2.2.2.2.2 }
/-- what the run of a method, from any of its places on, gives -/
def xGoes (l : Launch) (X : xS) (B : Nat) (pre adV : Nat → Nat) (tA : Nat → ClassId) (D : va_G) (n : Nat) : Prop :=
  ∀ (m : xMd) (pc : Nat) (al st : List Value) (h : xH) (v : Option Value) (h' : xH), xr X n m pc al st h = some (v, h') → xMok m →
  ∀ (p : Program) (e : Env) (R : Room) (s : State) (mid : MethodId) (args : Array Value) (below : List Frame) (meth : Method) (c : Code) (H : Heap) (locs : List Loc) (cells slots CC SS : Nat) (rl : Array Slot) (Q : State → Prop),
    xC p R s mid args meth c m → xG B pre adV tA D X s s.heap → xRel B pre tA D h H → va_S (xA0 B) s.heap H locs → lv_has rl m.2.2.2.1 (xlv B pre 0 al) → al.length = m.2.2.2.1 → CC + h.length = cells + h'.length → SS + xsl h = slots + xsl h' → CC ≤ R.cells → SS ≤ R.slots →
    (∀ (pc1 : Nat) (al1 st1 : List Value) (rl1 : Array Slot) (H1 : Heap) (locs1 : List Loc), xact X m pc1 al1 st1 h' = some (.inl (v, h')) → xRel B pre tA D h' H1 → va_S (xA0 B) s.heap H1 locs1 → W p l e R s mid args below meth c H1 locs1 CC SS Q (F0 mid pc1 rl1 (st1.map (xv B pre)))) →
    W p l e R s mid args below meth c H locs cells slots Q (F0 mid pc rl (st.map (xv B pre)))
theorem x_met {l : Launch} {X : xS} {B : Nat} {pre adV : Nat → Nat} {tA : Nat → ClassId} {D : va_G} {n : Nat} (ih : xGoes l X B pre adV tA D n) {m : xMd} (hm : xMok m) {as : List Value} (has : (xent0 as).length ≤ m.2.2.2.1) {h h1 : xH} {v : Option Value} (hr : xr X n m 0 (xent m.2.2.2.1 as) [] h = some (v, h1)) {mc ms : Nat} (hmc : mc + h.length = h1.length) (hms : ms + xsl h = xsl h1) :
    Met l m.2.1 (xW m) (xRm m mc ms) (xPc (as.map (xv B pre)) (fun U Hh => xG B pre adV tA D X U Hh ∧ xRel B pre tA D h Hh)) (xQ B pre tA D v h1) mc ms (xA0 B) := by
  refine Met.ofW (cc := m.2.2.1) (maxL := m.2.2.2.1) (ret := m.2.2.2.2.1) hm.1 rfl ?_
  intro p e s mid args below meth c s₁ Bd hml hv
  obtain ⟨rfl, hG, hR⟩ := hv
  have hb := Bd.bytes
  have hts := xw_in (atoms_spec (ws := xW m) Bd.pre)
  have hown : s.vm.findClass (xown m.1) = some mid.cls := by
    rw [← hm.2]
    exact findClass_of_methodNamed Bd.named
  have hin : xini m = true → meth.name = "<init>" := fun hi => by
    rw [(name_of_methodNamed Bd.named Bd.method).1]
    exact (xini_def m).mp hi
  have hC : xC p (headSpec (xW m) (xRm m mc ms)).room s mid (as.map (xv B pre)).toArray meth c m := ⟨Bd.exec, hb, hml, hown, hts, hin, Nat.le_refl _, Nat.le_refl _⟩
  have hl := lv_entry (as.map (xv B pre)) (n := m.2.2.2.1) (by rw [xsl_lg]; exact has)
  rw [lg_entry_eq]
  generalize (lg_sl (as.map (xv B pre)) ++ List.replicate (m.2.2.2.1 - (lg_sl (as.map (xv B pre))).length) Slot.unset).toArray = ls at hl ⊢
  have hl2 : lv_has ls m.2.2.2.1 (xlv B pre 0 (xent m.2.2.2.1 as)) := lv_mono hl (fun q hq => xent0_args B pre as 0 q (xlv_pad B pre _ 0 _ q hq))
  refine ih m 0 (xent m.2.2.2.1 as) [] h v h1 hr hm p e _ s mid _ below meth c s.heap [] 0 0 mc ms ls _ hC hG hR va_S.rf hl2 (xent_len has) (by omega) (by omega) (Nat.le_refl _) (Nat.le_refl _) (fun pc1 al1 st1 rl1 H1 locs1 hA hR1 hS1 => ?_)
  exact xact_ret hC Bd.notSynchronized Bd.returns hR1 hS1 hA
