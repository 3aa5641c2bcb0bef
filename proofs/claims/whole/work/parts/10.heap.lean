/-! THE MACHINE DOES IT: fields and arrays -/
/-- words that aren't of the good kind: a nest mate's fields and methods, what is declared, what is castable -/
def xNwF : List (String × Nat × String × String × String × String) := [("DustReads", 92, "DustReads$Reading", "fault", "I", "DustReads"), ("DustReads", 99, "DustReads$Reading", "first", "I", "DustReads"), ("DustReads", 102, "DustReads$Reading", "told", "LDustReads$Library;", "DustReads"), ("DustReads", 116, "DustReads$Library", "hour", "I", "DustReads"), ("DustReads", 131, "DustReads$Library", "out", "[I", "DustReads"), ("DustReads", 142, "DustReads$Library", "book", "[I", "DustReads"), ("DustReads", 171, "DustReads$Library", "dust", "[I", "DustReads"), ("DustReads", 174, "DustReads$Library", "faded", "[I", "DustReads"), ("DustReads$Library", 38, "DustReads$Plan", "spots", "I", "DustReads"), ("DustReads$Library", 43, "DustReads$Plan", "readers", "I", "DustReads"), ("DustReads$Library", 54, "DustReads$Plan", "places", "[LDustReads$Place;", "DustReads"), ("DustReads$Reading", 87, "DustReads$Library", "dust", "[I", "DustReads"), ("DustReads$Reading", 91, "DustReads$Library", "faded", "[I", "DustReads"), ("DustReads$Reading", 94, "DustReads$Library", "book", "[I", "DustReads")]
def xNwM : List (String × Nat × MethodName × String) := [("DustReads", 38, ⟨"DustReads$Trace", "<init>", "()V"⟩, "DustReads"), ("DustReads$Library", 82, ⟨"DustReads", "atMost", "(I)I"⟩, "DustReads"), ("DustReads$Library", 113, ⟨"DustReads", "isIn", "(II)Z"⟩, "DustReads"), ("DustReads$Reading", 27, ⟨"DustReads$Plan", "<init>", "()V"⟩, "DustReads")]
def xNwC : List (String × String) := [("DustReads$Corner", "DustReads$Place"), ("DustReads$Glass", "DustReads$Corner"), ("DustReads$Glass", "DustReads$Place"), ("DustReads$Hearth", "DustReads$Open"), ("DustReads$Hearth", "DustReads$Place"), ("DustReads$Open", "DustReads$Place"), ("DustReads$Window", "DustReads$Open"), ("DustReads$Window", "DustReads$Place")]
def xNcC : List (String × String) := [("DustReads$Corner", "DustReads$Glass"), ("DustReads$Corner", "DustReads$Hearth"), ("DustReads$Corner", "DustReads$Open"), ("DustReads$Corner", "DustReads$Window"), ("DustReads$Glass", "DustReads$Hearth"), ("DustReads$Glass", "DustReads$Open"), ("DustReads$Glass", "DustReads$Window"), ("DustReads$Hearth", "DustReads$Corner"), ("DustReads$Hearth", "DustReads$Glass"), ("DustReads$Hearth", "DustReads$Window"), ("DustReads$Open", "DustReads$Corner"), ("DustReads$Open", "DustReads$Glass"), ("DustReads$Open", "DustReads$Hearth"), ("DustReads$Open", "DustReads$Window"), ("DustReads$Window", "DustReads$Corner"), ("DustReads$Window", "DustReads$Glass"), ("DustReads$Window", "DustReads$Hearth")]
def xNest (U : State) : Prop := (∀ q ∈ xNwF, va_Nw (.fieldLinkNest q.1 q.2.1 q.2.2.1 q.2.2.2.1 q.2.2.2.2.1 q.2.2.2.2.2) U) ∧ (∀ q ∈ xNwM, va_Nw (.methodLinkNest q.1 q.2.1 q.2.2.1 q.2.2.2) U) ∧ va_Nw (.declares ⟨"DustReads$Place", "kindTold", "()I"⟩) U ∧ (∀ q ∈ xNwC, va_Nw (.castable q.1 q.2) U) ∧ ∀ q ∈ xNcC, va_Nc q.1 q.2 U
theorem xNest.warm {s U : State} (hW : s.WarmedH U.vm) (h : xNest s) : xNest U := ⟨fun q hq => (h.1 q hq).warmF hW, fun q hq => (h.2.1 q hq).warmM hW, h.2.2.1.warmD hW, fun q hq => (h.2.2.2.1 q hq).warmC hW, fun q hq => (h.2.2.2.2 q hq).moved hW.alike⟩
def xtys (tA : Nat → ClassId) : List (ClassId × FieldType) := [(tA 0, .int), (tA 1, .byte), (tA 2, .boolean), (tA 3, .array .int), (tA 4, .object "DustReads$Place"), (tA 5, .object "DustReads$Library")]
/-- what a field's number in a class says of objects of kind ci: it is their field j -/
def xF (o k ci j : Nat) : Prop := ∃ (C : String) (T : u_T) (N : Nat) (ty0 : Nat → FieldType), vwCl[ci]? = some (C, T, N) ∧ j < N ∧ (∀ w ∈ u_ws C T N, w ∈ xWg) ∧ (∀ q, q < N → parseFieldDescriptor (T q).2.2.1 = some (ty0 q)) ∧ (∀ a, a < N → ∀ b, b < N → a ≠ b → (T a).2.1 ≠ (T b).2.1) ∧
  ((Cond.fieldLink (xown o) k (T j).1 (T j).2.1 (T j).2.2.1 ∈ xWg ∧ (T j).2.2.2 = (xffin ci j).isSome ∧ ∀ q, xffin ci j = some q → (T j).1 = xown q) ∨ ((T j).2.2.2 = false ∧ xffin ci j = none ∧ ∃ host, (xown o, k, (T j).1, (T j).2.1, (T j).2.2.1, host) ∈ xNwF) ∨ ((∃ q, xffin ci j = some q ∧ q ≠ o) ∧ ∃ host, (xown o, k, (T j).1, (T j).2.1, (T j).2.2.1, host) ∈ xNwF)) ∧
  ∀ v, xtyp (xfty ci j) v = true → narrow (ty0 j) v = v ∧ fits (ty0 j) v = true
section XHP
variable {p : Program} {l : Launch} {e : Env} {R : Room} {s : State} {mid : MethodId} {args : Array Value} {below : List Frame} {meth : Method} {c : Code} {H : Heap} {locs : List Loc} {cells slots : Nat} {Q : State → Prop}
variable {B : Nat} {pre : Nat → Nat} {tA : Nat → ClassId} {D : va_G} {X : xS} {m : xMd} {pc : Nat} {h : xH} {rl : Array Slot} {rs : List Value}
theorem x_one {cl : List vw_C} {q : Nat × va_E} (h : va_at D cl q H) : va_P D cl [q] H := fun k x hx => by
  have hz : k < 1 := (List.getElem?_eq_some_iff.mp hx).1
  rw [show k = 0 by omega] at hx
  cases hx
  exact h
theorem xp_get (hC : xC p R s mid args meth c m) (hK : va_K D vwCl (xtys tA) s) (hN : xNest s) (hR : xRel B pre tA D h H) {k a ci j : Nat} {fs : List Value} (hF : xF m.1 k ci j) (hg : xget X h a = some (.inl (ci, fs))) {v : Value} (hv : fs[j]? = some v) (hd : decode m.2.2.1 pc = .ok (.getfield k, 3))
    (kk : W p l e R s mid args below meth c H locs cells slots Q (F0 mid (pc + 3) rl (xv B pre v :: rs))) : W p l e R s mid args below meth c H locs cells slots Q (F0 mid pc rl (.ref (xa B pre a) :: rs)) := by
  obtain ⟨hx, hb, hml, hown, hts, -⟩ := hC
  obtain ⟨C, T, N, ty0, hc, hj, hin, hty, hnm, hlk, -⟩ := hF
  obtain ⟨ha, hh⟩ := xget_obj hg
  have hat := hR.2 _ _ hh
  rw [xa_16 ha]
  have hvv : (fs.map (xv B pre))[j]? = some (xv B pre v) := by rw [List.getElem?_map, hv]; rfl
  rcases hlk with ⟨h1, -⟩ | ⟨-, -, host, h1⟩ | ⟨-, host, h1⟩
  · exact va_get hx hb hts hin hown hK (x_one hat) 0 rfl hc j hj (hts _ h1) (fun _ h => h) hvv hd kk
  · have h2 : va_Nw (.fieldLinkNest (xown m.1) k (T j).1 (T j).2.1 (T j).2.2.1 host) s := hN.1 (xown m.1, k, (T j).1, (T j).2.1, (T j).2.2.1, host) h1
    exact va_getN hx hb hts hin hown hK (x_one hat) 0 rfl hc j hj (va_Nw.use rfl h2) (fun _ h => h) hvv hd kk
  · have h2 : va_Nw (.fieldLinkNest (xown m.1) k (T j).1 (T j).2.1 (T j).2.2.1 host) s := hN.1 (xown m.1, k, (T j).1, (T j).2.1, (T j).2.2.1, host) h1
    exact va_getN hx hb hts hin hown hK (x_one hat) 0 rfl hc j hj (va_Nw.use rfl h2) (fun _ h => h) hvv hd kk
theorem xtyp_v (B : Nat) (pre : Nat → Nat) (t : Nat) (v : Value) : xtyp t (xv B pre v) = xtyp t v := by cases v <;> rfl
theorem xp_put (hC : xC p R s mid args meth c m) (hK : va_K D vwCl (xtys tA) s) (hN : xNest s) (hR : xRel B pre tA D h H) {A : Nat → Prop} {H0 : Heap} (hA : ∀ q, B ≤ q → A q) (hS : va_S A H0 H locs) {k a ci j : Nat} {fs : List Value} (hF : xF m.1 k ci j) (hg : xget X h a = some (.inl (ci, fs))) {v : Value} (hjl : j < fs.length) (hty : xtyp (xfty ci j) v = true)
    (hfi : xffin ci j = none ∨ (xini m = true ∧ xffin ci j = some m.1)) (hd : decode m.2.2.1 pc = .ok (.putfield k, 3))
    (kk : ∀ (H1 : Heap) (locs1 : List Loc), xRel B pre tA D (xset h a (.inl (ci, fs.set j v))) H1 → va_S A H0 H1 locs1 → W p l e R s mid args below meth c H1 locs1 cells slots Q (F0 mid (pc + 3) rl rs)) : W p l e R s mid args below meth c H locs cells slots Q (F0 mid pc rl (xv B pre v :: .ref (xa B pre a) :: rs)) := by
  obtain ⟨hx, hb, hml, hown, hts, hini, -⟩ := hC
  obtain ⟨C, T, N, ty0, hc, hj, hin, htyp, hnm, hlk, hfit⟩ := hF
  obtain ⟨ha, hh⟩ := xget_obj hg
  have hat := hR.2 _ _ hh
  have hkl : a - 16 < h.length := (List.getElem?_eq_some_iff.mp hh).1
  rw [xa_16 ha]
  have hap := va_apart (own := xown m.1) hts hin ty0 htyp hnm hK hc
  obtain ⟨r, h1, cell, q1, q2, q3, q4⟩ := id hat
  have hr : r = (C, T, N) := Option.some.inj (h1.symm.trans hc)
  subst hr
  obtain ⟨hSl, hfc, kC, hkC, hkind⟩ := hK.1 ci _ hc
  obtain ⟨cf, kf, fi, f, hi, hsl⟩ := hSl j hj
  have hlay := hts _ (hin _ (u_in_lay hj))
  unfold u_lay at hlay
  have hst := (u_facts hfc hkC (u_lays hts hin hj) hi).1
  obtain ⟨hn, hfi2⟩ := hfit (xv B pre v) (by rw [xtyp_v]; exact hty)
  have fin : ∀ (H' : Heap) (locs1 : List Loc), H'[B + (a - 16)]? = some (cell.setSlot (D.2 ci j) (xv B pre v)) → H'.size = H.size → (∀ q, q ≠ B + (a - 16) → H'[q]? = H[q]?) → va_S A H0 H' locs1 → W p l e R s mid args below meth c H' locs1 cells slots Q (F0 mid (pc + 3) rl rs) := fun H' locs1 e1 e2 e3 hS1 => by
    refine kk H' locs1 (hR.set hkl ?_ e2 e3) hS1
    refine ⟨_, hc, ?_⟩
    rw [List.map_set]
    exact t_OB.to (V := updV (vp_V (fs.map (xv B pre))) j (xv B pre v)) ⟨_, e1, q2, q3, t_set q4 hap hj (xv B pre v)⟩ (fun z _ => vp_updV_set (by rw [List.length_map]; exact hjl) (xv B pre v) z)
  rcases hlk with ⟨hl1, hl2, hl3⟩ | ⟨hl1, hl2, host, hl3⟩ | ⟨hl1, host, hl3⟩
  · rcases hfi with hfi | ⟨hfi, hfo⟩
    · rw [hfi] at hl2
      rw [if_neg (by rw [hl2]; decide)] at hlay
      have h6 := u_store hfc hkC hkind hlay hi (htyp j hj) hn hfi2
      refine W.putK hx hb (f := f) ⟨hown, hts _ hl1, ⟨_, _, _, hi⟩, hst⟩ (by rw [q2]; exact h6) q1 q3 (by rw [hsl]; exact k2_hasslot (q4 j hj)) rfl rfl hd fun H' e1 e2 e3 => ?_
      rw [hsl] at e1 ⊢
      exact fin H' _ e1 e2 e3 (hS.put e2 e3 (hA _ (by omega)))
    · rw [hfo] at hl2
      rw [if_pos (show (T j).2.2.2 = true from hl2)] at hlay
      have hcf : mid.cls = cf := by
        obtain ⟨_, _, c', _, _, _, -, -, hf', -, -, -, hown2, -⟩ := Cond.laysFinal_spec hlay
        have e1 : c' = cf := by have := hi.symm.trans hf'; simp at this; exact this.1.symm
        rw [hl3 _ hfo] at hown2
        rw [← e1]; exact Option.some.inj (hown.symm.trans hown2)
      have h6 := u_fits hfc hkC hkind (Or.inr hlay) hi (htyp j hj) hn hfi2
      refine W.putFinK hx hb hown (hts _ hl1) hi hst hcf (hini hfi) (by rw [q2]; exact h6) q1 q3 (by rw [hsl]; exact k2_hasslot (q4 j hj)) rfl rfl hd fun H' e1 e2 e3 => ?_
      rw [hsl] at e1 ⊢
      exact fin H' _ e1 e2 e3 (hS.put e2 e3 (hA _ (by omega)))
  · rw [if_neg (by rw [hl1]; decide)] at hlay
    have h6 := u_store hfc hkC hkind hlay hi (htyp j hj) hn hfi2
    have h2 : va_Nw (.fieldLinkNest (xown m.1) k (T j).1 (T j).2.1 (T j).2.2.1 host) s := hN.1 (xown m.1, k, (T j).1, (T j).2.1, (T j).2.2.1, host) hl3
    refine va_WputK hx hb (f := f) hown (va_Nw.use rfl h2) hi hst (by rw [q2]; exact h6) q1 q3 (by rw [hsl]; exact k2_hasslot (q4 j hj)) rfl rfl hd fun H' e1 e2 e3 => ?_
    rw [hsl] at e1 ⊢
    exact fin H' _ e1 e2 e3 (hS.put e2 e3 (hA _ (by omega)))
  · obtain ⟨q, hl1, hq⟩ := hl1
    rcases hfi with hfi | ⟨hfi, hfo⟩
    · rw [hl1] at hfi
      cases hfi
    · rw [hl1] at hfo
      exact absurd (Option.some.inj hfo) hq
theorem xin_v {i : Int32} {n : Nat} (h : xin i n = true) : vp_in i n ∧ ¬ i < 0 ∧ i.toNatClampNeg < n := by
  unfold xin at h
  rw [Bool.and_eq_true, decide_eq_true_eq, decide_eq_true_eq] at h
  refine ⟨?_, h⟩
  rintro (q | q)
  · exact h.1 q
  · omega
theorem xp_ald (hC : xC p R s mid args meth c m) (hK : va_K D vwCl (xtys tA) s) (hR : xRel B pre tA D h H) {A : Nat → Prop} {H0 : Heap} (hS : va_S A H0 H locs) (hX : va_X (pre 0) X.1 X.2 s H0) (hp0 : pre 0 < H0.size ∧ ¬ A (pre 0)) {i : ClassFile.Instr} {a : Nat} {j : Int32} {v : Value} (hv : xal i (xget X h a) j = some v) (hd : decode m.2.2.1 pc = .ok (i, 1))
    (kk : W p l e R s mid args below meth c H locs cells slots Q (F0 mid (pc + 1) rl (xv B pre v :: rs))) : W p l e R s mid args below meth c H locs cells slots Q (F0 mid pc rl (.int j :: .ref (xa B pre a) :: rs)) := by
  obtain ⟨hx, hb, hml, hown, hts, hini, -⟩ := hC
  cases hg : xget X h a with
  | none => rw [hg] at hv; cases hv
  | some E =>
    rw [hg] at hv
    obtain ⟨ci, fs⟩ | ⟨⟨t, n⟩, f | g⟩ := E
    · cases hv
    · unfold xal at hv
      dsimp only at hv
      split at hv
      · rename_i h1
        cases hv
        obtain ⟨h1, h2⟩ := h1
        obtain ⟨hin, -, -⟩ := xin_v h1
        by_cases ha : a < 16
        · obtain ⟨rfl, he⟩ := xget_lo hg ha
          cases he
          rcases h2 with ⟨rfl, -⟩ | ⟨rfl, h2⟩
          · exact va_sld hx hb hX hp0.1 hp0.2 hS hin hd kk
          · exact absurd h2 (by decide)
        · rw [xget_16 (by omega)] at hg
          have hat := hR.2 _ _ hg
          rw [xa_16 (by omega)]
          rcases h2 with ⟨rfl, rfl⟩ | ⟨rfl, rfl | rfl⟩
          · exact va_iald hx hb hK (x_one hat) 0 0 rfl rfl hin hd kk
          · exact va_bald hx hb hK (x_one hat) 0 1 rfl rfl hin hd kk
          · exact va_zald hx hb hK (x_one hat) 0 2 rfl rfl hin hd kk
      · cases hv
    · unfold xal at hv
      dsimp only at hv
      split at hv
      · rename_i h1
        cases hv
        obtain ⟨h1, rfl, ht3, ht5⟩ := h1
        obtain ⟨hin, -, hlt⟩ := xin_v h1
        by_cases ha : a < 16
        · obtain ⟨rfl, he⟩ := xget_lo hg ha
          cases he
        · rw [xget_16 (by omega)] at hg
          have hat := hR.2 _ _ hg
          rw [xa_16 (by omega)]
          have hvv : xv B pre (xrv (g j.toNatClampNeg)) = va_rf ((g j.toNatClampNeg).map (xa B pre)) := by
            cases g j.toNatClampNeg <;> rfl
          rw [hvv] at kk
          have ht : ∃ ty, s.isArrayOf (arrV (tA t) n (fun q => va_rf ((g q).map (xa B pre)))) ty ∧ ty.isReference = true := by
            have h345 : t = 3 ∨ t = 4 ∨ t = 5 := by omega
            rcases h345 with rfl | rfl | rfl
            · exact ⟨_, (hK.2 3 _ rfl).1 n _, rfl⟩
            · exact ⟨_, (hK.2 4 _ rfl).1 n _, rfl⟩
            · exact ⟨_, (hK.2 5 _ rfl).1 n _, rfl⟩
          obtain ⟨ty, ht1, ht2⟩ := ht
          exact W.aald (v := va_rf ((g j.toNatClampNeg).map (xa B pre))) (ty := ty) hx hb hat ht1 ht2 (fun q => by cases q) (by show ¬ (j < 0 ∨ (arrV _ _ _).slots.size ≤ _); rw [arrV_size]; exact hin) (by show (arrV _ _ _).slots[_]? = _; rw [arrV_read _ _ hlt]) rfl rfl hd kk
      · cases hv
theorem upd_arr {c : ClassId} {n k : Nat} {f : Nat → Int32} {x : Int32} : (vp_cell c (n, .inl f)).setSlot k (.int x) = vp_cell c (n, .inl (upd f k x)) := by
  rw [vp_cell_i, vp_cell_i, arrV_store]
  congr 1
  funext q
  by_cases hq : q = k
  · subst hq
    simp [updV, upd]
  · simp [updV, upd, hq]
theorem xp_iast (hC : xC p R s mid args meth c m) (hK : va_K D vwCl (xtys tA) s) (hR : xRel B pre tA D h H) {A : Nat → Prop} {H0 : Heap} (hA : ∀ q, B ≤ q → A q) (hS : va_S A H0 H locs) {i : ClassFile.Instr} {a : Nat} (ha : 16 ≤ a) {j x : Int32} {n t : Nat} {f : Nat → Int32} {y : Int32} (hg : xget X h a = some (.inr ((t, n), .inl f))) (hj : xin j n = true)
    (hi : (i = .iastore ∧ t = 0 ∧ y = x) ∨ (i = .bastore ∧ t = 1 ∧ y = x.toInt8.toInt32) ∨ (i = .bastore ∧ t = 2 ∧ (x = 0 ∨ x = 1) ∧ y = x)) (hd : decode m.2.2.1 pc = .ok (i, 1))
    (kk : ∀ (H1 : Heap) (locs1 : List Loc), xRel B pre tA D (xset h a (.inr ((t, n), .inl (upd f j.toNatClampNeg y)))) H1 → va_S A H0 H1 locs1 → W p l e R s mid args below meth c H1 locs1 cells slots Q (F0 mid (pc + 1) rl rs)) : W p l e R s mid args below meth c H locs cells slots Q (F0 mid pc rl (.int x :: .int j :: .ref (xa B pre a) :: rs)) := by
  obtain ⟨hx, hb, hml, hown, hts, hini, -⟩ := hC
  rw [xget_16 ha] at hg
  have hat := hR.2 _ _ hg
  have hkl : a - 16 < h.length := (List.getElem?_eq_some_iff.mp hg).1
  rw [xa_16 ha]
  obtain ⟨hin, -, hlt⟩ := xin_v hj
  have fin : ∀ (H1 : Heap) (locs1 : List Loc), H1[B + (a - 16)]? = some ((vp_cell (tA t) (n, .inl f)).setSlot j.toNatClampNeg (.int y)) → H1.size = H.size → (∀ q, q ≠ B + (a - 16) → H1[q]? = H[q]?) → va_S A H0 H1 locs1 → W p l e R s mid args below meth c H1 locs1 cells slots Q (F0 mid (pc + 1) rl rs) := fun H1 locs1 e z oq hS1 => by
    refine kk H1 locs1 (hR.set hkl ?_ z oq) hS1
    show H1[_]? = some (vp_cell _ _)
    rw [e, upd_arr]
  have hsz : ¬ (j < 0 ∨ (arrV (tA t) n (fun q => Value.int (f q))).slots.size ≤ j.toNatClampNeg) := by rw [arrV_size]; exact hin
  rcases hi with ⟨rfl, rfl, rfl⟩ | ⟨rfl, rfl, rfl⟩ | ⟨rfl, rfl, h01, rfl⟩
  · exact W.iast hx hb hat ((hK.2 0 _ rfl).1 n (fun q => .int (f q))) (fun q => by cases q) hsz rfl rfl hd fun H1 e z oq => fin H1 _ e z oq (hS.put z oq (hA _ (by omega)))
  · exact W.bast hx hb hat ((hK.2 1 _ rfl).1 n (fun q => .int (f q))) (fun q => by cases q) hsz rfl rfl hd fun H1 e z oq => fin H1 _ e z oq (hS.put z oq (hA _ (by omega)))
  · refine W.zast hx hb hat ((hK.2 2 _ rfl).1 n (fun q => .int (f q))) (fun q => by cases q) hsz rfl rfl hd fun H1 e z oq => fin H1 _ ?_ z oq (hS.put z oq (hA _ (by omega)))
    rcases h01 with rfl | rfl
    · exact e
    · exact e
theorem xp_aast (hC : xC p R s mid args meth c m) (hK : va_K D vwCl (xtys tA) s) (hN : xNest s) (hR : xRel B pre tA D h H) {A : Nat → Prop} {H0 : Heap} (hA : ∀ q, B ≤ q → A q) (hS : va_S A H0 H locs) {a b : Nat} (ha : 16 ≤ a) {j : Int32} {n t ci : Nat} {fs : List Value} {g : Nat → Option Nat} (hg : xget X h a = some (.inr ((t, n), .inr g))) (hv : xget X h b = some (.inl (ci, fs))) (hj : xin j n = true)
    (hel : ∃ E, (xtys tA)[t]? = some (tA t, .object E) ∧ (xcn ci = E ∨ (xcn ci, E) ∈ xNwC) ∧ ∃ T N, vwCl[ci]? = some (xcn ci, T, N)) (hd : decode m.2.2.1 pc = .ok (.aastore, 1))
    (kk : ∀ (H1 : Heap) (locs1 : List Loc), xRel B pre tA D (xset h a (.inr ((t, n), .inr (fun q => if q = j.toNatClampNeg then some b else g q)))) H1 → va_S A H0 H1 locs1 → W p l e R s mid args below meth c H1 locs1 cells slots Q (F0 mid (pc + 1) rl rs)) : W p l e R s mid args below meth c H locs cells slots Q (F0 mid pc rl (.ref (xa B pre b) :: .int j :: .ref (xa B pre a) :: rs)) := by
  obtain ⟨hx, hb, hml, hown, hts, hini, -⟩ := hC
  obtain ⟨E, ht, hE, T, N, hvc⟩ := hel
  obtain ⟨hb16, hbh⟩ := xget_obj hv
  rw [xget_16 ha] at hg
  have hat := hR.2 _ _ hg
  have hbt := hR.2 _ _ hbh
  have hkl : a - 16 < h.length := (List.getElem?_eq_some_iff.mp hg).1
  rw [xa_16 ha, xa_16 hb16]
  obtain ⟨hin, h0, hlt⟩ := xin_v hj
  obtain ⟨kA, comp, k1, k2, k3, -⟩ := (hK.2 t _ ht).2
  obtain ⟨kE, hkE, -⟩ := Vm.findClass_spec k3
  obtain ⟨cellV, g1, g3, ⟨kC, hkC⟩, hasg⟩ : va_Any E s H (B + (b - 16)) := va_rAny hK (x_one hbt) (q0 := 0) rfl hvc (fun comp c0 h1 h2 => by
    rcases hE with hE | hE
    · subst hE
      exact vb_asgS comp c0 h1 h2
    · exact vb_asgC (hN.2.2.2.1 (xcn ci, E) hE) comp c0 h1 h2)
  refine W.aast hx hb hat (fun q h => by cases h) (fun h => by cases h) k1 k2 rfl hkE ⟨h0, by show _ < (arrV _ _ _).slots.size; rw [arrV_size]; exact hlt⟩ g1 (fun q h => by rw [h] at g3; cases g3) hkC (hasg _ k3) rfl rfl hd fun H1 e z oq => ?_
  refine kk H1 _ (hR.set hkl ?_ z oq) (hS.put z oq (hA _ (by omega)))
  show H1[_]? = some (vp_cell _ _)
  rw [e]
  rw [vp_cell_q, vp_cell_q, arrV_store]
  congr 2
  funext q
  by_cases hq : q = j.toNatClampNeg
  · subst hq
    simp [updV, xa_16 hb16, va_rf]
  · simp [updV, hq]
end XHP
