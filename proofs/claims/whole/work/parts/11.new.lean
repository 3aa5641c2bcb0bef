/-! THE MACHINE DOES IT: what makes cells; lengths; instanceof -/
def xNew (o k ci : Nat) (fs : List Value) : Prop := ∃ (C : String) (T : u_T) (N : Nat) (ty : Nat → FieldType), vwCl[ci]? = some (C, T, N) ∧ fs.length = N ∧ (∀ w ∈ u_ws C T N, w ∈ xWg) ∧ (∀ q, q < N → parseFieldDescriptor (T q).2.2.1 = some (ty q)) ∧ (∀ q, q < N → defaultValue (ty q) = vp_V fs q) ∧ (∀ v ∈ fs, ∀ z, v ≠ .ref z) ∧ Cond.classLink (xown o) k C ∈ xWg ∧ Cond.instantiable C N ∈ xWg ∧ Cond.initialized C ∈ xWg
theorem xv_id {B : Nat} {pre : Nat → Nat} {fs : List Value} (h : ∀ v ∈ fs, ∀ z, v ≠ .ref z) : fs.map (xv B pre) = fs := by
  induction fs with
  | nil => rfl
  | cons a l ih =>
    rw [List.map_cons, ih (fun v hv => h v (List.mem_cons_of_mem _ hv))]
    congr 1
    have := h a List.mem_cons_self
    cases a <;> first | rfl | exact absurd rfl (this _)
section XNP
variable {p : Program} {l : Launch} {e : Env} {R : Room} {s : State} {mid : MethodId} {args : Array Value} {below : List Frame} {meth : Method} {c : Code} {H : Heap} {locs : List Loc} {cells slots : Nat} {Q : State → Prop}
variable {B : Nat} {pre : Nat → Nat} {tA : Nat → ClassId} {D : va_G} {X : xS} {m : xMd} {pc : Nat} {h : xH} {rl : Array Slot} {rs : List Value}
theorem xa_nw (hR : xRel B pre tA D h H) : xa B pre (xnw h) = H.size := by
  unfold xnw
  rw [xa_16 (by omega), hR.1]
  omega
theorem xp_new (hC : xC p R s mid args meth c m) (hK : va_K D vwCl (xtys tA) s) (hR : xRel B pre tA D h H) {A : Nat → Prop} {H0 : Heap} (hS : va_S A H0 H locs) {k ci : Nat} {fs : List Value} (hn : xNew m.1 k ci fs) (hcells : cells + 1 ≤ R.cells) (hslots : slots + fs.length ≤ R.slots) (hd : decode m.2.2.1 pc = .ok (.new k, 3))
    (kk : ∀ (H1 : Heap), xRel B pre tA D (h ++ [.inl (ci, fs)]) H1 → va_S A H0 H1 locs → W p l e R s mid args below meth c H1 locs (cells + 1) (slots + fs.length) Q (F0 mid (pc + 3) rl (.ref (xa B pre (xnw h)) :: rs))) : W p l e R s mid args below meth c H locs cells slots Q (F0 mid pc rl rs) := by
  obtain ⟨hx, hb, hml, hown, hts, -⟩ := hC
  obtain ⟨C, T, N, ty, hc, hfl, hin, hty, hdef, hnr, hw1, hw2, hw3⟩ := hn
  subst hfl
  have hKn := hK.1 ci _ hc
  rw [xa_nw hR] at kk
  refine W.newcK hx hb hown (hts _ hw1) (hts _ hw2) (hts _ hw3) rfl hd hcells hslots hKn.2.1 rfl fun H1 kC hkC e1 z1 o1 => ?_
  refine kk H1 (hR.push ?_ z1 o1) ⟨Nat.le_trans hS.1 (by omega), fun x h1 h2 => (o1 x (Nat.lt_of_lt_of_le h1 hS.1)).trans (hS.2.1 x h1 h2), hS.2.2⟩
  refine ⟨_, hc, ?_⟩
  dsimp only [xcE]
  rw [xv_id hnr]
  exact (u_born ty hts hin hKn hkC e1 hty).to hdef
theorem xp_newa (hC : xC p R s mid args meth c m) (hK : va_K D vwCl (xtys tA) s) (hR : xRel B pre tA D h H) {A : Nat → Prop} {H0 : Heap} (hS : va_S A H0 H locs) {at' : ClassFile.ArrayType} {t : Nat} (ht : xnar at' = some t) (hw : Cond.arrayClass (newarray.typeOf at') ∈ xWg) {n : Int32} (hn : ¬ n < 0) (hn2 : n.toNatClampNeg ≤ 100000) (hcells : cells + 1 ≤ R.cells) (hslots : slots + n.toNatClampNeg ≤ R.slots) (hd : decode m.2.2.1 pc = .ok (.newarray at', 2))
    (kk : ∀ (H1 : Heap), xRel B pre tA D (h ++ [.inr ((t, n.toNatClampNeg), .inl (fun _ => 0))]) H1 → va_S A H0 H1 locs → W p l e R s mid args below meth c H1 locs (cells + 1) (slots + n.toNatClampNeg) Q (F0 mid (pc + 2) rl (.ref (xa B pre (xnw h)) :: rs))) : W p l e R s mid args below meth c H locs cells slots Q (F0 mid pc rl (.int n :: rs)) := by
  obtain ⟨hx, hb, hml, hown, hts, -⟩ := hC
  rw [xa_nw hR] at kk
  have hb1 : n.toNatClampNeg * componentBytes (newarray.typeOf at') ≤ 536870912 := by
    have : componentBytes (newarray.typeOf at') ≤ 8 := by cases at' <;> decide
    calc n.toNatClampNeg * componentBytes (newarray.typeOf at') ≤ 100000 * 8 := Nat.mul_le_mul hn2 this
      _ ≤ 536870912 := Nat.le_of_ble_eq_true rfl
  refine va_newaK hx hb (hts _ hw) rfl hd rfl hn rfl hb1 hcells hslots rfl fun H1 cA e1 z1 o1 hAr hNm => ?_
  refine kk H1 (hR.push ?_ z1 o1) ⟨Nat.le_trans hS.1 (by omega), fun x h1 h2 => (o1 x (Nat.lt_of_lt_of_le h1 hS.1)).trans (hS.2.1 x h1 h2), hS.2.2⟩
  have hcA : cA = tA t ∧ defaultValue (newarray.typeOf at') = .int 0 := by
    cases at' <;> simp only [xnar] at ht <;> try (cases ht; done)
    all_goals cases ht
    · exact ⟨Option.some.inj (hNm.symm.trans (hK.2 2 _ rfl).2), rfl⟩
    · exact ⟨Option.some.inj (hNm.symm.trans (hK.2 1 _ rfl).2), rfl⟩
    · exact ⟨Option.some.inj (hNm.symm.trans (hK.2 0 _ rfl).2), rfl⟩
  rw [hcA.1, hcA.2] at e1
  exact e1
theorem xp_anew (hC : xC p R s mid args meth c m) (hK : va_K D vwCl (xtys tA) s) (hR : xRel B pre tA D h H) {A : Nat → Prop} {H0 : Heap} (hS : va_S A H0 H locs) {t k : Nat} {C : String} (ht : (xtys tA)[t]? = some (tA t, .object C)) (hw : Cond.classLink (xown m.1) k C ∈ xWg) (hao : va_AO C s) {n : Int32} (hn : ¬ n < 0) (hn2 : n.toNatClampNeg ≤ 100000) (hcells : cells + 1 ≤ R.cells) (hslots : slots + n.toNatClampNeg ≤ R.slots) (hd : decode m.2.2.1 pc = .ok (.anewarray k, 3))
    (kk : ∀ (H1 : Heap), xRel B pre tA D (h ++ [.inr ((t, n.toNatClampNeg), .inr (fun _ => none))]) H1 → va_S A H0 H1 locs → W p l e R s mid args below meth c H1 locs (cells + 1) (slots + n.toNatClampNeg) Q (F0 mid (pc + 3) rl (.ref (xa B pre (xnw h)) :: rs))) : W p l e R s mid args below meth c H locs cells slots Q (F0 mid pc rl (.int n :: rs)) := by
  obtain ⟨hx, hb, hml, hown, hts, -⟩ := hC
  rw [xa_nw hR] at kk
  refine W.anew hx hb hown (hts _ hw) (va_AO.use hao) rfl hd rfl hn (by omega) hcells hslots fun cA kA comp f1 f2 f3 f4 => ?_
  obtain ⟨kA', comp', g1, g2, g3, g4⟩ := (hK.2 t _ ht).2
  have hcA : cA = tA t := Option.some.inj (f1.symm.trans g4)
  generalize hH1 : H.push ({ cls := cA, slots := Array.replicate n.toNatClampNeg .null, vm := .none } : Cell) = H1
  have z1 : H1.size = H.size + 1 := by rw [← hH1, Array.size_push]
  have e1 : H1[H.size]? = some (arrV cA n.toNatClampNeg (fun _ => .null)) := by rw [← hH1, Array.getElem?_push_size, ← arrV_new]
  have o1 : ∀ q : Nat, q < H.size → H1[q]? = H[q]? := fun q hq => by rw [← hH1, Array.getElem?_push, if_neg (Nat.ne_of_lt hq)]
  refine kk H1 (hR.push ?_ z1 o1) ⟨Nat.le_trans hS.1 (by omega), fun x h1 h2 => (o1 x (Nat.lt_of_lt_of_le h1 hS.1)).trans (hS.2.1 x h1 h2), hS.2.2⟩
  rw [hcA] at e1
  exact e1
theorem xp_len (hC : xC p R s mid args meth c m) (hK : va_K D vwCl (xtys tA) s) (hR : xRel B pre tA D h H) {A : Nat → Prop} {H0 : Heap} (hS : va_S A H0 H locs) (hX : va_X (pre 0) X.1 X.2 s H0) (hp0 : pre 0 < H0.size ∧ ¬ A (pre 0)) {a t n : Nat} {x : (Nat → Int32) ⊕ (Nat → Option Nat)} (hg : xget X h a = some (.inr ((t, n), x))) (ht : t ≤ 5) (hd : decode m.2.2.1 pc = .ok (.arraylength, 1))
    (kk : W p l e R s mid args below meth c H locs cells slots Q (F0 mid (pc + 1) rl (.int (Int32.ofNat n) :: rs))) : W p l e R s mid args below meth c H locs cells slots Q (F0 mid pc rl (.ref (xa B pre a) :: rs)) := by
  obtain ⟨hx, hb, hml, hown, hts, hini, -⟩ := hC
  by_cases ha : a < 16
  · obtain ⟨rfl, he⟩ := xget_lo hg ha
    cases he
    exact va_slen hx hb hX hp0.1 hp0.2 hS hd kk
  · rw [xget_16 (by omega)] at hg
    have hat := hR.2 _ _ hg
    rw [xa_16 (by omega)]
    have hty : ∃ ty, (xtys tA)[t]? = some (tA t, ty) := by
      have h6 : t = 0 ∨ t = 1 ∨ t = 2 ∨ t = 3 ∨ t = 4 ∨ t = 5 := by omega
      rcases h6 with rfl | rfl | rfl | rfl | rfl | rfl <;> exact ⟨_, rfl⟩
    obtain ⟨ty, hty⟩ := hty
    cases x with
    | inl f => exact va_alen hx hb hK (x_one hat) 0 t rfl hty rfl hd kk
    | inr g => exact va_alen hx hb hK (x_one hat) 0 t rfl hty rfl hd kk
/-- instanceof: by the tables -/
def xIns (o k ci : Nat) (v : Int32) : Prop := ∃ (nm : String) (T : u_T) (N : Nat), vwCl[ci]? = some (xcn ci, T, N) ∧ Cond.classLink (xown o) k nm ∈ xWg ∧ ((v = 1 ∧ xcn ci = nm) ∨ (v = 1 ∧ (xcn ci, nm) ∈ xNwC) ∨ (v = 0 ∧ (xcn ci, nm) ∈ xNcC))
theorem xp_ins (hC : xC p R s mid args meth c m) (hK : va_K D vwCl (xtys tA) s) (hN : xNest s) (hR : xRel B pre tA D h H) {a k ci : Nat} {fs : List Value} (hg : xget X h a = some (.inl (ci, fs))) {v : Int32} (hi : xIns m.1 k ci v) (hd : decode m.2.2.1 pc = .ok (.instanceof k, 3))
    (kk : W p l e R s mid args below meth c H locs cells slots Q (F0 mid (pc + 3) rl (.int v :: rs))) : W p l e R s mid args below meth c H locs cells slots Q (F0 mid pc rl (.ref (xa B pre a) :: rs)) := by
  obtain ⟨hx, hb, hml, hown, hts, hini, -⟩ := hC
  obtain ⟨nm, T, N, hc, hw, hv⟩ := hi
  obtain ⟨ha, hh⟩ := xget_obj hg
  have hat := hR.2 _ _ hh
  rw [xa_16 ha]
  have hr := va_recv hK (x_one hat) (q0 := 0) hc rfl
  rcases hv with ⟨rfl, rfl⟩ | ⟨rfl, hq⟩ | ⟨rfl, hq⟩
  · exact va_instE hx hb hown (hts _ hw) hr hd kk
  · exact va_instY hx hb hown (hts _ hw) (hN.2.2.2.1 _ hq) hr hd kk
  · exact va_instNo hx hb hown (hts _ hw) (hN.2.2.2.2 _ hq) hr hd kk
end XNP
