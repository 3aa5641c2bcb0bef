/-! THE START: what the Statement gives is what the x machine stands on -/
def xFl : List Cond := flatC (Jvm.Cond.and given_1 narrow_1)
def xTm (i : Nat) : Term := .string "DustReads$Reading" i
theorem x_str {args : Array Value} {s : State} {A : Nat → Prop} (hA : ∀ a : Nat, a < s.heap.size → ¬ A a) (i : Nat) (byt : List Int32) (hN : byt.length < 2 ^ 31) (hgv : ∀ c ∈ xFl, c.before args s = true)
    (h1 : Cond.exactly (xTm i) "java/lang/String" ∈ xFl) (h2 : Cond.eq (.field (xTm i) "java/lang/String" "coder" "B") (.int 0) ∈ xFl) (h3 : Cond.arrayOf (.field (xTm i) "java/lang/String" "value" "[B") .byte ∈ xFl) (h4 : Cond.eq (.length (.field (xTm i) "java/lang/String" "value" "[B")) (.int (Int32.ofNat byt.length)) ∈ xFl)
    (h5 : ∀ j : Nat, j < byt.length → Cond.eq (.elem (.field (xTm i) "java/lang/String" "value" "[B") (.int (Int32.ofNat j))) (.int (byt.getD j 0)) ∈ xFl) : ∃ a t : Nat, (xTm i).eval args s none [] s = some (.ref a) ∧ xS1 a t byt A s s.heap := by
  obtain ⟨a, c, cA, kA, q1, q2, q3, q4, q5, q6, -⟩ := Cond.exactly_spec (args := args) (first := s) (o := none) (s := s) (idx := []) (t := xTm i) (cls := "java/lang/String") (hgv _ h1)
  obtain ⟨t, ht, hT⟩ := va_Tof (f := fun j => .int (byt.getD j 0)) (A := A) hN (hgv _ h3) (va_eqt (hgv _ h4)) (fun j hj => va_eqt (hgv _ (h5 j hj))) hA
  exact ⟨a, t, q1, ⟨cA, q3, q5, by rw [q6]; exact q2, hA a (Array.getElem?_eq_some_iff.mp q3).1⟩, vk_OFof q1 (va_eqt (hgv _ h2)) hA, vk_OFof q1 ht hA, hT⟩
theorem x_lit : ∀ q ∈ xlits, Cond.stringRef RX7 q.1 q.2.1 ∈ lw_tbl ∧ 1 ≤ q.2.2 ∧ q.2.2 ≤ 7 := by decide +kernel
theorem x_lit_at : ∀ i, i < 8 → 1 ≤ i → ∃ q ∈ xlits, q.2.2 = i := by decide +kernel
theorem x_lit_1 : ∀ q ∈ xlits, Cond.exactly (xTm q.1) "java/lang/String" ∈ xFl ∧ Cond.eq (.field (xTm q.1) "java/lang/String" "coder" "B") (.int 0) ∈ xFl ∧ Cond.arrayOf (.field (xTm q.1) "java/lang/String" "value" "[B") .byte ∈ xFl ∧ Cond.eq (.length (.field (xTm q.1) "java/lang/String" "value" "[B")) (.int (Int32.ofNat (xtxt q.2.2).length)) ∈ xFl := by decide +kernel
theorem x_lit_2 : ∀ q ∈ xlits, ∀ j : Nat, j < (xtxt q.2.2).length → Cond.eq (.elem (.field (xTm q.1) "java/lang/String" "value" "[B") (.int (Int32.ofNat j))) (.int ((xtxt q.2.2).getD j 0)) ∈ xFl := by decide +kernel
theorem x_lit_3 : ∀ q ∈ xlits, ∀ r ∈ xlits, q.2.2 = r.2.2 → q = r := by decide +kernel
theorem x_strs {args : Array Value} {s : State} {A : Nat → Prop} (hA : ∀ a : Nat, a < s.heap.size → ¬ A a) (hts : ∀ w ∈ lw_tbl, w.before args s = true) (hgv : ∀ c ∈ xFl, c.before args s = true) : ∃ ad adV : Nat → Nat, (∀ q ∈ xlits, vk_R RX7 q.1 q.2.1 (ad q.2.2) s) ∧ ∀ i, 1 ≤ i → i ≤ 7 → xS1 (ad i) (adV i) (xtxt i) A s s.heap := by
  have h0 : ∀ i : Nat, ∃ z : Nat × Nat, (∀ q ∈ xlits, q.2.2 = i → vk_R RX7 q.1 q.2.1 z.1 s) ∧ (1 ≤ i → i ≤ 7 → xS1 z.1 z.2 (xtxt i) A s s.heap) := by
    intro i
    by_cases hi : 1 ≤ i ∧ i ≤ 7
    · obtain ⟨q, hq, rfl⟩ := x_lit_at i (by omega) hi.1
      obtain ⟨h1, h2, h3, h4⟩ := x_lit_1 q hq
      obtain ⟨a, t, ha, hS⟩ := x_str hA q.1 (xtxt q.2.2) (xtx7 q.2.2 hi.1 hi.2).1 hgv h1 h2 h3 h4 (x_lit_2 q hq)
      refine ⟨(a, t), fun r hr he => ?_, fun _ _ => hS⟩
      have := x_lit_3 r hr q hq he
      subst this
      exact vk_R.of (A := args) (hts _ (x_lit r hr).1) ha
    · refine ⟨(0, 0), fun q hq he => ?_, fun a b => absurd ⟨a, b⟩ hi⟩
      have := (x_lit q hq).2
      rw [he] at this
      exact absurd this hi
  obtain ⟨z, hz⟩ := Classical.axiomOfChoice h0
  exact ⟨fun i => (z i).1, fun i => (z i).2, fun q hq => (hz _).1 q hq rfl, fun i a b => (hz i).2 a b⟩
theorem x_kinds {args : Array Value} {s : State} (hts : ∀ w ∈ lw_tbl, w.before args s = true) : ∃ D : va_G, ∀ (ci : Nat) (q : vw_C), vwCl[ci]? = some q → u_Kn s q.1 q.2.1 q.2.2 (D.1 ci) (D.2 ci) := by
  have h0 : ∀ ci : Nat, ∃ z : ClassId × (Nat → Nat), ∀ q : vw_C, vwCl[ci]? = some q → u_Kn s q.1 q.2.1 q.2.2 z.1 z.2 := by
    intro ci
    by_cases h : ∃ q, vwCl[ci]? = some q
    · obtain ⟨q, hq⟩ := h
      have key : ∃ cC iS, u_Kn s q.1 q.2.1 q.2.2 cC iS := by
        have hm : q ∈ vwCl := List.mem_of_getElem? hq
        simp only [vwCl, List.mem_cons, List.not_mem_nil, or_false] at hm
        rcases hm with rfl | rfl | rfl | rfl | rfl | rfl | rfl | rfl | rfl | rfl | rfl | rfl
        · exact u_known (n := 2) hts (fun w h => xWg_in (xin_X0 w h)) (hts (.instantiable RX0 2) (by decide +kernel))
        · exact u_known (n := 2) hts (fun w h => xWg_in (xin_X1 w h)) (hts (.instantiable RX1 2) (by decide +kernel))
        · exact u_known (n := 2) hts (fun w h => xWg_in (xin_X2 w h)) (hts (.instantiable RX2 2) (by decide +kernel))
        · exact u_known (n := 6) hts (fun w h => xWg_in (xin_X3 w h)) (hts (.instantiable RX3 6) (by decide +kernel))
        · exact u_known (n := 2) hts (fun w h => xWg_in (xin_X4 w h)) (hts (.instantiable RX4 2) (by decide +kernel))
        · exact u_known (n := 5) hts (fun w h => xWg_in (xin_X6 w h)) (hts (.instantiable RX6 5) (by decide +kernel))
        · exact u_known (n := 8) hts (fun w h => xWg_in (xin_X7 w h)) (hts (.instantiable RX7 8) (by decide +kernel))
        · exact u_known (n := 3) hts (fun w h => xWg_in (xin_X8 w h)) (hts (.instantiable RX8 3) (by decide +kernel))
        · exact u_known (n := 2) hts (fun w h => xWg_in (xin_X9 w h)) (hts (.instantiable RX9 2) (by decide +kernel))
        · exact u_known (n := 2) hts (fun w h => xWg_in (xin_X10 w h)) (hts (.instantiable RX10 2) (by decide +kernel))
        · exact u_known (n := 11) hts (fun w h => xWg_in (xin_X11 w h)) (hts (.instantiable RX11 11) (by decide +kernel))
        · exact u_known (n := 25) hts (fun w h => xWg_in (xin_X12 w h)) (hts (.instantiable RX12 25) (by decide +kernel))
      obtain ⟨cC, iS, h1⟩ := key
      exact ⟨(cC, iS), fun r hr => by rw [hq] at hr; cases hr; exact h1⟩
    · exact ⟨(0, fun _ => 0), fun q hq => absurd ⟨q, hq⟩ h⟩
  obtain ⟨z, hz⟩ := Classical.axiomOfChoice h0
  exact ⟨(fun ci => (z ci).1, fun ci => (z ci).2), fun ci q hq => hz ci q hq⟩
theorem x_arrK {s : State} {cA : ClassId} {kA : Class} {comp : ClassId} {ty : FieldType} (h2 : s.vm.classes[cA]? = some kA) (h3 : kA.kind = .array comp ty) : ArrOfT s cA ty := fun n z => ⟨(fun k h => by cases h), kA, h2, comp, h3⟩
theorem x_arrs {args : Array Value} {s : State} (hts : ∀ w ∈ lw_tbl, w.before args s = true) : ∃ tA : Nat → ClassId, ∀ (k : Nat) (q : ClassId × FieldType), (xtys tA)[k]? = some q → ArrOfT s q.1 q.2 ∧ va_RA s q.1 q.2 := by
  obtain ⟨c0, k0, m0, a0, b0, d0⟩ := Cond.arrayClass_spec (hts (.arrayClass .int) (by decide +kernel))
  obtain ⟨c1, k1, m1, a1, b1, d1⟩ := Cond.arrayClass_spec (hts (.arrayClass .byte) (by decide +kernel))
  obtain ⟨c2, k2, m2, a2, b2, d2⟩ := Cond.arrayClass_spec (hts (.arrayClass .boolean) (by decide +kernel))
  obtain ⟨m3, c3, k3, e3, -, b3, d3, a3⟩ := xAO_spec (hts (.arrayOver (.array .int)) (by decide +kernel))
  obtain ⟨m4, c4, k4, e4, -, b4, d4, a4⟩ := Cond.arrayOver_spec (hts (.arrayOver (.object "DustReads$Place")) (by decide +kernel))
  obtain ⟨m5, c5, k5, e5, -, b5, d5, a5⟩ := Cond.arrayOver_spec (hts (.arrayOver (.object "DustReads$Library")) (by decide +kernel))
  refine ⟨fun t => if t = 0 then c0 else if t = 1 then c1 else if t = 2 then c2 else if t = 3 then c3 else if t = 4 then c4 else c5, fun k q hq => ?_⟩
  have hk : k < 6 := (List.getElem?_eq_some_iff.mp hq).1
  rcases (show k = 0 ∨ k = 1 ∨ k = 2 ∨ k = 3 ∨ k = 4 ∨ k = 5 by omega) with rfl | rfl | rfl | rfl | rfl | rfl
  · cases hq; exact ⟨x_arrK b0 d0, a0⟩
  · cases hq; exact ⟨x_arrK b1 d1, a1⟩
  · cases hq; exact ⟨x_arrK b2 d2, a2⟩
  · cases hq; exact ⟨x_arrK b3 d3, a3⟩
  · cases hq; exact ⟨x_arrK b4 d4, k4, m4, b4, d4, e4, a4⟩
  · cases hq; exact ⟨x_arrK b5 d5, k5, m5, b5, d5, e5, a5⟩
theorem x_nw1 : ∀ q ∈ xNwF, Cond.fieldLinkNest q.1 q.2.1 q.2.2.1 q.2.2.2.1 q.2.2.2.2.1 q.2.2.2.2.2 ∈ lw_tbl := by decide +kernel
theorem x_nw2 : ∀ q ∈ xNwM, Cond.methodLinkNest q.1 q.2.1 q.2.2.1 q.2.2.2 ∈ lw_tbl := by decide +kernel
theorem x_nw3 : ∀ q ∈ xNwC, Cond.castable q.1 q.2 ∈ lw_tbl := by decide +kernel
theorem x_nw4 : ∀ q ∈ xNcC, Cond.not (.castable q.1 q.2) ∈ xFl := by decide +kernel
theorem x_start {s : State} {b L : Nat} {xs : Nat → Int32} (hts : ∀ w ∈ lw_tbl, w.before #[Value.ref b] s = true) (hX : va_X b L xs s s.heap) (hbl : b < s.heap.size) (hgv : (Jvm.Cond.and given_1 narrow_1).before #[Value.ref b] s = true) : ∃ (pre adV : Nat → Nat) (tA : Nat → ClassId) (D : va_G), xG s.heap.size pre adV tA D (L, xs) s s.heap ∧ pre 0 = b := by
  have hA : ∀ a : Nat, a < s.heap.size → ¬ xA0 s.heap.size a := fun a h => Nat.not_le.mpr h
  have hfl : ∀ c ∈ xFl, c.before #[Value.ref b] s = true := flat_of_before _ hgv
  obtain ⟨ad, adV, hs1, hs2⟩ := x_strs hA hts hfl
  obtain ⟨D, hD⟩ := x_kinds hts
  obtain ⟨tA, htA⟩ := x_arrs hts
  refine ⟨fun i => if i = 0 then b else ad i, adV, tA, D, ⟨⟨hD, htA⟩, ⟨fun q hq => va_Nw.of rfl (hts _ (x_nw1 q hq)), fun q hq => va_Nw.of rfl (hts _ (x_nw2 q hq)), va_Nw.of rfl (hts (.declares ⟨"DustReads$Place", "kindTold", "()I"⟩) (by decide +kernel)), fun q hq => va_Nw.of rfl (hts _ (x_nw3 q hq)), fun q hq => va_Nc.of (hfl _ (x_nw4 q hq))⟩, va_AO.of (hts (.arrayOver (.object "DustReads$Place")) (by decide +kernel)), va_AO.of (hts (.arrayOver (.object "DustReads$Library")) (by decide +kernel)), hts (.arrayOver (.array .int)) (by decide +kernel), fun q hq => ?_, ⟨?_, ?_⟩, fun i h1 h7 => ?_, hX, hbl, Nat.le_refl _⟩, rfl⟩
  · have h1 := (x_lit q hq).2.1
    have := hs1 q hq
    dsimp only
    rw [if_neg (by omega)]
    exact this
  · exact va_Zof (hts (.laysStatic "java/lang/String" "COMPACT_STRINGS" "Z") (by decide +kernel)) (hts (.initialized "java/lang/String") (by decide +kernel)) (va_eqt (hfl (.eq (.static "java/lang/String" "COMPACT_STRINGS" "Z") (.int 1)) (by decide +kernel))) hA
  · exact va_Zqof (hts (.laysStatic "jdk/internal/util/Preconditions" "SIOOBE_FORMATTER" "Ljava/util/function/BiFunction;") (by decide +kernel)) (hts (.initialized "jdk/internal/util/Preconditions") (by decide +kernel)) (hfl (.isRef (.static "jdk/internal/util/Preconditions" "SIOOBE_FORMATTER" "Ljava/util/function/BiFunction;")) (by decide +kernel)) hA
  · dsimp only
    rw [if_neg (by omega)]
    exact hs2 i h1 h7
