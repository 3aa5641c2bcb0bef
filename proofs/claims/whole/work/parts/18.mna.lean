/-! THE MACHINE DOES IT: new int[8][40] -/
def xAO (U : State) : Prop := (Cond.arrayOver (.array .int)).before #[] U = true
theorem xAO.use {A : Array Value} {U : State} (h : xAO U) : (Cond.arrayOver (.array .int)).before A U = true := h
theorem xAO_spec {args : Array Value} {first s : State} {o : Option Outcome} {idx : List Nat} (h : (Cond.arrayOver (.array .int)).holds args first o s idx = true) :
    ∃ comp c k, s.vm.findClass (FieldType.array .int).toString = some comp ∧ (s.vm.classes.findIdx? fun (x : Class) => match x.kind with | .array component _ => component == comp | _ => false) = some c ∧ s.vm.classes[c]? = some k ∧ k.kind = .array comp (.array .int) ∧ s.vm.findClass ("[" ++ (FieldType.array .int).toString) = some c := by
  simp only [Cond.holds, Cond.value, beq_iff_eq] at h
  cases hc : s.vm.findClass (FieldType.array .int).toString with
  | none => simp [hc] at h
  | some comp =>
    simp only [hc, Option.bind_some, Option.bind_eq_some_iff, Option.map_eq_some_iff] at h
    obtain ⟨c, hi, k, hk, hb⟩ := h
    obtain ⟨hlt, hp, -⟩ := Array.findIdx?_eq_some_iff_getElem.mp hi
    have hkk : s.vm.classes[c] = k := (Array.getElem?_eq_some_iff.mp hk).2
    rw [hkk] at hp
    cases hkind : k.kind with
    | array component ty =>
      rw [hkind] at hb hp
      simp at hb hp
      exact ⟨comp, c, k, rfl, hi, hk, by rw [hkind, hp, hb.1], hb.2⟩
    | _ => rw [hkind] at hb; simp at hb
theorem xAO.moved {u U : State} (hvm : u.vm.Alike U.vm) (h : xAO u) : xAO U := by
  obtain ⟨comp, c, k, h1, h2, h3, h4, h5⟩ := xAO_spec h
  obtain ⟨k', hk', he⟩ := hvm.2.2 _ _ h3
  have hi : (U.vm.classes.findIdx? fun (x : Class) => match x.kind with | .array component _ => component == comp | _ => false) = some c := by
    have e : U.vm.bare = u.vm.bare := by first | exact hvm.bare_eq | exact hvm.bare_eq.symm
    have h9 := va_idx_bare U.vm comp
    rw [e] at h9
    exact h9.symm.trans ((va_idx_bare u.vm comp).trans h2)
  have hkind : k'.kind = .array comp (.array .int) := by rw [he]; exact h4
  have f1 : U.vm.findClass (FieldType.array .int).toString = some comp := by rw [hvm.findClass]; exact h1
  have f2 : U.vm.findClass ("[" ++ (FieldType.array .int).toString) = some c := by rw [hvm.findClass]; exact h5
  unfold xAO Cond.before Cond.holds
  simp only [Cond.value]
  rw [f1, Option.bind_some]
  refine (congrArg (fun o : Option Nat => (o.bind (fun c => (U.vm.classes[c]?).map fun (k : Class) => match k.kind with | .array _ ty => decide (ty = FieldType.array .int) && decide (U.vm.findClass ("[" ++ (FieldType.array .int).toString) = some c) | _ => false) == some true)) hi).trans ?_
  simp [hk', hkind, f2]
theorem xmn_outer (c : ClassId) (N h0 : Nat) : ∀ i : Nat, Jvm.Free.Multi.outerC c N h0 i = vp_cell c (N, .inr (.inr (.inr (.inr (fun j => if j < i then some (h0 + 1 + j) else none)))))
  | 0 => by
    show ({ cls := c, slots := Array.replicate N .null, vm := .none } : Cell) = _
    rw [arrV_new, vp_cell_q]
    refine congrArg (arrV c N) (funext fun j => ?_)
    simp [va_rf]
  | i + 1 => by
    show (Jvm.Free.Multi.outerC c N h0 i).setSlot i (.ref (h0 + 1 + i)) = _
    rw [xmn_outer c N h0 i, vp_cell_q, vp_cell_q, arrV_store]
    refine congrArg (arrV c N) (funext fun j => ?_)
    by_cases e : j = i
    · subst e
      simp [updV, va_rf]
    · by_cases h : j < i
      · simp [updV, e, h, Nat.lt_succ_of_lt h]
      · simp [updV, e, h, show ¬ j < i + 1 by omega]
section XMN
variable {p : Program} {l : Launch} {e : Env} {R : Room} {s : State} {mid : MethodId} {args : Array Value} {below : List Frame} {meth : Method} {c : Code} {H : Heap} {locs : List Loc} {cells slots : Nat} {Q : State → Prop}
variable {B : Nat} {pre : Nat → Nat} {tA : Nat → ClassId} {D : va_G} {X : xS} {m : xMd} {pc : Nat} {h : xH} {rl : Array Slot} {rs : List Value}
theorem xrep_get {α : Type} {n j : Nat} {a b : α} (h : (List.replicate n a)[j]? = some b) : b = a ∧ j < n := by
  obtain ⟨h1, h2⟩ := List.getElem?_eq_some_iff.mp h
  rw [List.getElem_replicate] at h2
  exact ⟨h2.symm, by rwa [List.length_replicate] at h1⟩
theorem xp_mna (hC : xC p R s mid args meth c m) (hK : va_K D vwCl (xtys tA) s) (hao : xAO s) (hR : xRel B pre tA D h H) {A : Nat → Prop} {H0 : Heap} (hS : va_S A H0 H locs) {k : Nat} (hw : Cond.classLink (xown m.1) k "[[I" ∈ xWg) (hw2 : Cond.arrayClass .int ∈ xWg) (hcells : cells + 9 ≤ R.cells) (hslots : slots + 328 ≤ R.slots) (hd : decode m.2.2.1 pc = .ok (.multianewarray k 2, 4))
    (kk : ∀ (H1 : Heap), xRel B pre tA D (h ++ ((.inr ((3, 8), .inr (fun j => if j < 8 then some (xnw h + 1 + j) else none))) :: List.replicate 8 (.inr ((0, 40), .inl (fun _ => 0))))) H1 → va_S A H0 H1 locs → W p l e R s mid args below meth c H1 locs (cells + 9) (slots + 328) Q (F0 mid (pc + 4) rl (.ref (xa B pre (xnw h)) :: rs))) : W p l e R s mid args below meth c H locs cells slots Q (F0 mid pc rl (.int 40 :: .int 8 :: rs)) := by
  obtain ⟨hx, hb, hml, hown, hts, -⟩ := hC
  rw [xa_nw hR] at kk
  intro T hT Xs
  have hn8 : (8 : Int32).toNatClampNeg = 8 := by decide
  have hn40 : (40 : Int32).toNatClampNeg = 40 := by decide
  obtain ⟨vm₁, cA, comp, -, fA, fC, hO, -, X', step⟩ := Xs.multianewarray2F (ty := .int) hx hown (hts _ hw) (xAO.use hao) (hts _ hw2) (g := F0 mid pc rl (.int 40 :: .int 8 :: rs)) rfl (by rw [hb]; exact hd) (n := 8) (k := 40) rfl (by decide) (by decide) (by decide) (by decide) (by decide) (by decide) (by decide) (by rw [hn8]; exact hcells) (by rw [hn8, hn40]; exact hslots)
  rw [hn8, hn40] at X' step
  have hcy : s.vm.findClass (FieldType.array .int).toString = some (tA 0) := (hK.2 0 _ rfl).2
  have ec : some (tA 0) = some comp := hcy.symm.trans fC
  cases ec
  have ecA : s.vm.findClass ("[" ++ (FieldType.array .int).toString) = some (tA 3) := (hK.2 3 _ rfl).2
  have ec2 : some (tA 3) = some cA := ecA.symm.trans fA
  cases ec2
  generalize hF : Jvm.Free.Multi.fill (T.setVm vm₁) (tA 3) (tA 0) 8 40 (defaultValue .int) 8 = F at X' step
  have hTh : (T.setVm vm₁).heap = H := hT
  obtain ⟨f1, f2, -, -⟩ := Jvm.Free.Multi.fill_facts (T.setVm vm₁) (tA 3) (tA 0) 8 40 (defaultValue .int) 8
  rw [hF, hTh] at f1 f2
  have hold : ∀ x : Nat, x < H.size → F.heap[x]? = H[x]? := fun x hx => by
    have := Jvm.Free.Multi.fill_old (T.setVm vm₁) (tA 3) (tA 0) 8 40 (defaultValue .int) (a := x) (by rw [hTh]; exact hx) 8
    rw [hF, hTh] at this
    exact this
  have hrow : ∀ j : Nat, j < 8 → F.heap[H.size + 1 + j]? = some (vp_cell (tA 0) (40, .inl (fun _ => 0))) := fun j hj => by
    have := Jvm.Free.Multi.fill_inner (T.setVm vm₁) (tA 3) (tA 0) 8 40 (defaultValue .int) 8 j hj
    rw [hF, hTh] at this
    rw [this, vp_cell_i, ← arrV_new]
    rfl
  have hR1 : xRel B pre tA D (h ++ ((.inr ((3, 8), .inr (fun j => if j < 8 then some (xnw h + 1 + j) else none))) :: List.replicate 8 (.inr ((0, 40), .inl (fun _ => 0))))) F.heap := by
    refine ⟨?_, fun j e' hj => ?_⟩
    · rw [f1, hR.1, List.length_append, List.length_cons, List.length_replicate]
      omega
    · by_cases hl : j < h.length
      · rw [List.getElem?_append_left hl] at hj
        exact (hR.2 j e' hj).kept (hold _ (by rw [hR.1]; exact Nat.add_lt_add_left hl B))
      · rw [List.getElem?_append_right (by omega)] at hj
        obtain ⟨q, hq⟩ : ∃ q, q = j - h.length := ⟨_, rfl⟩
        rw [← hq] at hj
        have hjq : j = h.length + q := by omega
        cases q with
        | zero =>
          rw [List.getElem?_cons_zero] at hj
          cases hj
          subst hjq
          show F.heap[B + (h.length + 0)]? = some (vp_cell (tA 3) (8, _))
          rw [show B + (h.length + 0) = H.size by rw [hR.1]; omega, f2, xmn_outer, vp_cell_q, vp_cell_q]
          congr 2
          funext j
          by_cases hj8 : j < 8
          · simp only [hj8, if_true, Option.map_some]
            unfold xnw
            rw [xa_16 (by omega), hR.1]
            congr 2
            omega
          · simp [hj8]
        | succ q =>
          rw [List.getElem?_cons_succ] at hj
          obtain ⟨rfl, hq8⟩ := xrep_get hj
          subst hjq
          show F.heap[B + (h.length + (q + 1))]? = some (vp_cell (tA 0) (40, .inl (fun _ => 0)))
          rw [show B + (h.length + (q + 1)) = H.size + 1 + q by rw [hR.1]; omega]
          exact hrow q hq8
  obtain ⟨t, a1, b1⟩ := kk F.heap hR1 ⟨by rw [f1]; have := hS.1; omega, fun x h1 h2 => (hold x (Nat.lt_of_lt_of_le h1 hS.1)).trans (hS.2.1 x h1 h2), hS.2.2⟩ F rfl X'
  refine ⟨t, step t ?_, b1⟩
  have e : T.heap.size = H.size := by rw [hT]
  rw [e]
  exact a1
end XMN
