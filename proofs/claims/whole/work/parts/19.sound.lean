/-! SOUND: what the x machine comes to, the Jvm comes to -/
def xA0 (B : Nat) : Nat → Prop := fun q => B ≤ q
def xG (B : Nat) (pre adV : Nat → Nat) (tA : Nat → ClassId) (D : va_G) (X : xS) (s : State) (H : Heap) : Prop :=
  va_K D vwCl (xtys tA) s ∧ xNest s ∧ va_AO "DustReads$Place" s ∧ va_AO "DustReads$Library" s ∧ xAO s ∧ (∀ q ∈ xlits, vk_R RX7 q.1 q.2.1 (pre q.2.2) s) ∧ xJd (xA0 B) s H ∧ (∀ i, 1 ≤ i → i ≤ 7 → xS1 (pre i) (adV i) (xtxt i) (xA0 B) s H) ∧ va_X (pre 0) X.1 X.2 s H ∧ pre 0 < B ∧ B ≤ H.size
theorem xG.moved {B : Nat} {pre adV : Nat → Nat} {tA : Nat → ClassId} {D : va_G} {X : xS} {s U : State} {H H1 : Heap} (hW : s.WarmedH U.vm) (hz : H.size ≤ H1.size) (hq : ∀ a : Nat, a < H.size → ¬ xA0 B a → H1[a]? = H[a]?) (h : xG B pre adV tA D X s H) : xG B pre adV tA D X U H1 := by
  obtain ⟨h1, h2, h3, h4, h5, h6, h7, h8, h9, h10, h11⟩ := h
  exact ⟨va_K.moved hW.alike h1, h2.warm hW, h3.moved hW.alike, h4.moved hW.alike, h5.moved hW.alike, fun q hq => (h6 q hq).warm hW, (h7.moved hW.alike).kept hq, fun i a b => ((h8 i a b).moved hW.alike).kept hq, (h9.moved hW.alike).kept (hq _ (by omega) (by unfold xA0; omega)), h10, by omega⟩
theorem xG.alike {B : Nat} {pre adV : Nat → Nat} {tA : Nat → ClassId} {D : va_G} {X : xS} {s : State} {g : JFrame} {mk : MethodId} {a : Array Value} {H : Heap} (h : xG B pre adV tA D X s H) : xG B pre adV tA D X (s.calling g mk a) H := by
  obtain ⟨h1, h2, h3, h4, h5, h6, h7, h8, h9, h10, h11⟩ := h
  have hv : s.vm.Alike (s.calling g mk a).vm := Vm.Alike.refl s.vm
  exact ⟨va_K.moved hv h1, ⟨fun q hq => va_Nw.same rfl rfl (h2.1 q hq), fun q hq => va_Nw.same rfl rfl (h2.2.1 q hq), va_Nw.same rfl rfl h2.2.2.1, fun q hq => va_Nw.same rfl rfl (h2.2.2.2.1 q hq), fun q hq => (h2.2.2.2.2 q hq).moved hv⟩, h3.moved hv, h4.moved hv, h5.moved hv, fun q hq => (h6 q hq).same rfl, h7.moved hv, fun i a b => (h8 i a b).moved hv, h9.moved hv, h10, h11⟩
theorem xgf_inv {c : Option xE} {F : Nat → Option Nat} {v : Value} (h : xgf c F = some v) : ∃ ci fs j, c = some (.inl (ci, fs)) ∧ F ci = some j ∧ fs[j]? = some v := by
  unfold xgf at h
  split at h
  · rename_i ci fs
    split at h
    · rename_i j hj
      exact ⟨ci, fs, j, rfl, hj, h⟩
    · cases h
  · cases h
theorem xpf_inv {c : Option xE} {F : Nat → Option Nat} {o : Nat} {ini : Bool} {v : Value} {e : xE} (h : xpf c F o ini v = some e) : ∃ ci fs j, c = some (.inl (ci, fs)) ∧ F ci = some j ∧ xtyp (xfty ci j) v = true ∧ j < fs.length ∧ (xffin ci j = none ∨ (ini = true ∧ xffin ci j = some o)) ∧ e = .inl (ci, fs.set j v) := by
  unfold xpf at h
  split at h
  · rename_i ci fs
    split at h
    · rename_i j hj
      split at h
      · rename_i h1
        cases h
        exact ⟨ci, fs, j, rfl, hj, h1.1, h1.2.1, h1.2.2, rfl⟩
      · cases h
    · cases h
  · cases h
theorem xkind_inv {c : Option xE} {ci : Nat} (h : xkind c = some ci) : ∃ fs, c = some (.inl (ci, fs)) := by
  unfold xkind at h
  split at h
  · cases h
    exact ⟨_, rfl⟩
  · cases h
theorem xcal_ng {m m' : xMd} {as : List Value} {pc : Nat} {ls st : List Value} {h : xH} {q : Nat × List Value × List Value × xH} (H : xcal m m' as pc ls st h = some (.inr (.inl q))) : False := by
  unfold xcal at H
  split at H
  · cases H
  · cases H
theorem xcalO_ng {X : xS} {m : xMd} {n : Nat} {T : Nat → Option xMd} {pc : Nat} {ls st : List Value} {h : xH} {q : Nat × List Value × List Value × xH} (H : xcalO X m n T pc ls st h = some (.inr (.inl q))) : False := by
  unfold xcalO at H
  split at H
  · split at H
    · split at H
      · exact xcal_ng H
      · cases H
    · cases H
  · cases H
theorem xas_inv {i : ClassFile.Instr} {c : Option xE} {j : Int32} {v : Value} {kd : Nat → Option Nat} {e : xE} (h : xas i c j v kd = some e) :
    (∃ t n f x y, c = some (.inr ((t, n), .inl f)) ∧ v = .int x ∧ xin j n = true ∧ ((i = .iastore ∧ t = 0 ∧ y = x) ∨ (i = .bastore ∧ t = 1 ∧ y = x.toInt8.toInt32) ∨ (i = .bastore ∧ t = 2 ∧ (x = 0 ∨ x = 1) ∧ y = x)) ∧ e = .inr ((t, n), .inl (upd f j.toNatClampNeg y))) ∨
    (∃ t n g b ci, c = some (.inr ((t, n), .inr g)) ∧ v = .ref b ∧ kd b = some ci ∧ xin j n = true ∧ i = .aastore ∧ xelm t ci = true ∧ e = .inr ((t, n), .inr (fun k => if k = j.toNatClampNeg then some b else g k))) := by
  unfold xas at h
  split at h
  · rename_i t n f
    split at h
    · rename_i x
      split at h
      · rename_i hj
        refine Or.inl ?_
        split at h
        · rename_i h1
          cases h
          exact ⟨t, n, f, x, x, rfl, rfl, hj, Or.inl ⟨h1.1, h1.2, rfl⟩, rfl⟩
        · split at h
          · rename_i h1
            cases h
            exact ⟨t, n, f, x, _, rfl, rfl, hj, Or.inr (Or.inl ⟨h1.1, h1.2, rfl⟩), rfl⟩
          · split at h
            · rename_i h1
              cases h
              exact ⟨t, n, f, x, x, rfl, rfl, hj, Or.inr (Or.inr ⟨h1.1, h1.2.1, h1.2.2, rfl⟩), rfl⟩
            · cases h
      · cases h
    · cases h
  · rename_i t n g
    split at h
    · rename_i b
      split at h
      · rename_i ci hci
        split at h
        · rename_i h1
          cases h
          exact Or.inr ⟨t, n, g, b, ci, rfl, rfl, hci, h1.1, h1.2.1, h1.2.2, rfl⟩
        · cases h
      · cases h
    · cases h
  · cases h
theorem xtx7 : ∀ i, 1 ≤ i → i ≤ 7 → (xtxt i).length < 2 ^ 31 ∧ ∀ b ∈ xtxt i, 0 ≤ b.toInt ∧ b.toInt < 128 := by
  intro i h1 h2
  rcases (show i = 1 ∨ i = 2 ∨ i = 3 ∨ i = 4 ∨ i = 5 ∨ i = 6 ∨ i = 7 by omega) with rfl | rfl | rfl | rfl | rfl | rfl | rfl <;> exact ⟨by decide, by decide⟩
section XSN
variable {p : Program} {l : Launch} {e : Env} {R : Room} {s : State} {mid : MethodId} {args : Array Value} {below : List Frame} {meth : Method} {c : Code} {H : Heap} {locs : List Loc} {cells slots : Nat} {Q : State → Prop}
variable {B : Nat} {pre adV : Nat → Nat} {tA : Nat → ClassId} {D : va_G} {X : xS} {m : xMd} {pc pc' len : Nat} {i : ClassFile.Instr} {al st al' st' : List Value} {h h' : xH} {rl : Array Slot}
/-- what is owed behind an instruction -/
def xN (p : Program) (l : Launch) (e : Env) (R : Room) (s : State) (mid : MethodId) (args : Array Value) (below : List Frame) (meth : Method) (c : Code) (cells slots : Nat) (Q : State → Prop) (B : Nat) (pre : Nat → Nat) (tA : Nat → ClassId) (D : va_G) (nL : Nat) (h : xH) (pc' : Nat) (al' st' : List Value) (h' : xH) : Prop :=
  ∀ (H' : Heap) (locs' : List Loc) (cells' slots' : Nat) (rl' : Array Slot), xRel B pre tA D h' H' → va_S (xA0 B) s.heap H' locs' → lv_has rl' nL (xlv B pre 0 al') → al'.length = nL → cells' + h.length = cells + h'.length → slots' + xsl h = slots + xsl h' → W p l e R s mid args below meth c H' locs' cells' slots' Q (F0 mid pc' rl' (st'.map (xv B pre)))
theorem xset_len (h : xH) (a : Nat) (e : xE) : (xset h a e).length = h.length := List.length_set
theorem xset_sl {a : Nat} {e0 e : xE} (h0 : xget X h a = some e0) (ha : 16 ≤ a) (he : xesz e = xesz e0) : xsl (xset h a e) = xsl h := by
  rw [xget_16 ha] at h0
  exact xsl_set h0 he
theorem xini_def (m : xMd) : xini m = true ↔ m.2.1.name = "<init>" := by
  unfold xini
  exact beq_iff_eq
set_option maxRecDepth 100000 in
theorem xp_slen (hC : xC p R s mid args meth c m) (hG : xG B pre adV tA D X s s.heap) (hS : va_S (xA0 B) s.heap H locs) (hl : lv_has rl m.2.2.2.1 (xlv B pre 0 al)) (hh : 3 ≤ m.2.2.2.2.2) {j a : Nat} (hr4 : st.length ≤ 4) (h1 : 1 ≤ a) (h7 : a ≤ 7) (hw : Cond.methodLink (xown m.1) j yJ0_length_8abf5 ∈ xWg) (hcs : cells ≤ R.cells) (hss : slots ≤ R.slots) (hd : decode m.2.2.1 pc = .ok (.invokevirtual j, 3))
    (k : W p l e R s mid args below meth c H locs cells slots Q (F0 mid (pc + 3) rl (.int (nI (xtxt a).length) :: st.map (xv B pre)))) : W p l e R s mid args below meth c H locs cells slots Q (F0 mid pc rl (.ref (xa B pre a) :: st.map (xv B pre))) := by
  obtain ⟨hx, hb, hml, hown, hts, hini, hfr, hlo⟩ := hC
  have hJ := hG.2.2.2.2.2.2.1
  have hE := hG.2.2.2.2.2.2.2.1 a h1 h7
  rw [xa_lo (by omega)]
  have hq : ∀ a : Nat, a < s.heap.size → ¬ xA0 B a → H[a]? = s.heap[a]? := hS.2.1
  refine vp_callSi (post := fun r => r = nI (xtxt a).length) (va_runV (C := RJ0) (As := []) (rest := st.map (xv B pre)) ⟨hx, hb, hml, hown, hts⟩ (xs_length l (xA0 B) (pre a) (adV a) (xtxt a) (xtx7 a h1 h7).1) (cwV (Ts := xWg) 0 hts (goodIn_V hw (xmem (by decide +kernel) rfl) (xmem (by decide +kernel) rfl) (xmem (by decide +kernel) rfl) (xw_good (xmem (by decide +kernel) rfl))) rfl rfl rfl ⟨rfl, by decide, by decide, by decide +kernel⟩ ⟨by show 1 + 1 ≤ R.frames; omega, by show 8 + (1 + 11) + 30 ≤ R.locals; omega⟩) ⟨xPc.blind (fun u U H hvm h => ⟨h.1.moved hvm, h.2.moved hvm⟩), xO_recv hE.1 hS, fun U hU hW => ⟨rfl, by rw [hU]; exact ⟨(hJ.moved hW.alike).kept hq, (hE.moved hW.alike).kept hq⟩⟩⟩ rfl rfl hl.1 rfl (lv_room (xcat8 hr4)) hd ⟨by omega, by omega⟩).run (fun r hr0 => ?_)
  subst hr0
  exact k
set_option maxRecDepth 100000 in
theorem xp_schar (hC : xC p R s mid args meth c m) (hG : xG B pre adV tA D X s s.heap) (hS : va_S (xA0 B) s.heap H locs) (hl : lv_has rl m.2.2.2.1 (xlv B pre 0 al)) (hh : 6 ≤ m.2.2.2.2.2) {j a : Nat} (hr4 : st.length ≤ 4) (h1 : 1 ≤ a) (h7 : a ≤ 7) {z : Int32} (hz : xin z (xtxt a).length = true) (hw : Cond.methodLink (xown m.1) j yJ0_charAt_5068e ∈ xWg) (hcs : cells ≤ R.cells) (hss : slots ≤ R.slots) (hd : decode m.2.2.1 pc = .ok (.invokevirtual j, 3))
    (k : W p l e R s mid args below meth c H locs cells slots Q (F0 mid (pc + 3) rl (.int ((xtxt a).getD z.toNatClampNeg 0) :: st.map (xv B pre)))) : W p l e R s mid args below meth c H locs cells slots Q (F0 mid pc rl (.int z :: .ref (xa B pre a) :: st.map (xv B pre))) := by
  obtain ⟨hx, hb, hml, hown, hts, hini, hfr, hlo⟩ := hC
  have hJ := hG.2.2.2.2.2.2.1
  have hE := hG.2.2.2.2.2.2.2.1 a h1 h7
  rw [xa_lo (by omega)]
  have hq : ∀ a : Nat, a < s.heap.size → ¬ xA0 B a → H[a]? = s.heap[a]? := hS.2.1
  obtain ⟨hz1, hz2, hz3⟩ := xin_v hz
  have hlen := (xtx7 a h1 h7).1
  have hzn : z = nI z.toNatClampNeg := by
    refine Int32.toInt_inj.mp ?_
    rw [nI_toInt (by omega)]
    exact xnn hz2
  rw [hzn]
  rw [hzn, nI_clamp (by omega)] at k
  refine vp_callSi (post := fun r => r = (xtxt a).getD z.toNatClampNeg 0) (va_runV (C := RJ0) (As := [.int (nI z.toNatClampNeg)]) (rest := st.map (xv B pre)) ⟨hx, hb, hml, hown, hts⟩ (xs_charAt l (xA0 B) (pre a) (adV a) (xtxt a) z.toNatClampNeg hz3 hlen (xtx7 a h1 h7).2) (cwV (Ts := xWg) 1 hts (goodIn_V hw (xmem (by decide +kernel) rfl) (xmem (by decide +kernel) rfl) (xmem (by decide +kernel) rfl) (xw_good (xmem (by decide +kernel) rfl))) rfl rfl rfl ⟨rfl, by decide, by decide, by decide +kernel⟩ ⟨by show 3 + 1 ≤ R.frames; omega, by show 8 + (2 + 11) + 90 ≤ R.locals; omega⟩) ⟨xPc.blind (fun u U H hvm h => ⟨h.1.moved hvm, h.2.moved hvm⟩), xO_recv hE.1 hS, fun U hU hW => ⟨rfl, by rw [hU]; exact ⟨(hJ.moved hW.alike).kept hq, (hE.moved hW.alike).kept hq⟩⟩⟩ rfl rfl hl.1 rfl (lv_room (xcat8 hr4)) hd ⟨by omega, by omega⟩).run (fun r hr0 => ?_)
  subst hr0
  exact k
set_option maxRecDepth 100000 in
set_option maxHeartbeats 4000000 in
theorem xprim_sound (hC : xC p R s mid args meth c m) (hG : xG B pre adV tA D X s s.heap) (hR : xRel B pre tA D h H) (hS : va_S (xA0 B) s.heap H locs) (hl : lv_has rl m.2.2.2.1 (xlv B pre 0 al)) (hal : al.length = m.2.2.2.1) {j q : Nat} (hi : (i = .invokevirtual j ∧ (q = 5 ∨ q = 6)) ∨ (i = .invokespecial j ∧ q = 1) ∨ (i = .invokestatic j ∧ (q = 2 ∨ q = 3 ∨ q = 4))) (hd : decode m.2.2.1 pc = .ok (i, 3)) (hq : xPrR m.1 j q) (hh : xprh q ≤ m.2.2.2.2.2)
    (hA : xprim X q (pc + 3) al st h = some (.inr (.inl (pc', al', st', h')))) (hcr : cells + h'.length ≤ R.cells + h.length) (hsr : slots + xsl h' ≤ R.slots + xsl h)
    (k : xN p l e R s mid args below meth c cells slots Q B pre tA D m.2.2.2.1 h pc' al' st' h') : W p l e R s mid args below meth c H locs cells slots Q (F0 mid pc rl (st.map (xv B pre))) := by
  have hA0 : ∀ q, B ≤ q → xA0 B q := fun _ h => h
  unfold xprim at hA
  unfold xprh at hh
  split at hA
  · rename_i a r
    split at hA
    · rename_i hr4
      obtain ⟨rfl, rfl, rfl, rfl⟩ := xgo_inv hA
      have hw : Cond.methodLink (xown m.1) j objectInit ∈ xWg := by
        rcases hq with ⟨-, h⟩ | ⟨h, -⟩ | ⟨h, -⟩ | ⟨h, -⟩ | ⟨h, -⟩ | ⟨h, -⟩
        all_goals first | exact h | cases h
      have hi2 : i = .invokespecial j := by
        rcases hi with ⟨h1, h2⟩ | ⟨h1, h2⟩ | ⟨h1, h2⟩
        all_goals first | exact h1 | (exfalso; revert h2; decide)
      subst hi2
      exact xp_obj hC hh hl hw hr4 hd (k _ _ _ _ _ hR hS hl hal rfl rfl)
    · cases hA
  · rename_i y x r
    split at hA
    · rename_i hr4
      obtain ⟨rfl, rfl, rfl, rfl⟩ := xgo_inv hA
      have hw : Cond.methodLink (xown m.1) j Lib.Math.max.name ∈ xWg := by
        rcases hq with ⟨h, -⟩ | ⟨-, h⟩ | ⟨h, -⟩ | ⟨h, -⟩ | ⟨h, -⟩ | ⟨h, -⟩
        all_goals first | exact h | cases h
      have hi2 : i = .invokestatic j := by
        rcases hi with ⟨h1, h2⟩ | ⟨h1, h2⟩ | ⟨h1, h2⟩
        all_goals first | exact h1 | (exfalso; revert h2; decide)
      subst hi2
      exact xp_max hC hh hl hw hr4 (by omega) (by omega) hd (k _ _ _ _ _ hR hS hl hal rfl rfl)
    · cases hA
  · rename_i y x r
    split at hA
    · rename_i hr4
      obtain ⟨rfl, rfl, rfl, rfl⟩ := xgo_inv hA
      have hw : Cond.methodLink (xown m.1) j Lib.Math.min.name ∈ xWg := by
        rcases hq with ⟨h, -⟩ | ⟨h, -⟩ | ⟨-, h⟩ | ⟨h, -⟩ | ⟨h, -⟩ | ⟨h, -⟩
        all_goals first | exact h | cases h
      have hi2 : i = .invokestatic j := by
        rcases hi with ⟨h1, h2⟩ | ⟨h1, h2⟩ | ⟨h1, h2⟩
        all_goals first | exact h1 | (exfalso; revert h2; decide)
      subst hi2
      exact xp_min hC hh hl hw hr4 (by omega) (by omega) hd (k _ _ _ _ _ hR hS hl hal rfl rfl)
    · cases hA
  · rename_i n dp b sp a r
    split at hA
    · rename_i n0 f n1 g hga hgb
      split at hA
      · rename_i hc
        obtain ⟨ha, hb, hr4, h1, h2, h3, h4, h5⟩ := hc
        obtain ⟨rfl, rfl, rfl, rfl⟩ := xgo_inv hA
        have hw : Cond.methodLink (xown m.1) j arraycopyName ∈ xWg := by
          rcases hq with ⟨h, -⟩ | ⟨h, -⟩ | ⟨h, -⟩ | ⟨-, h⟩ | ⟨h, -⟩ | ⟨h, -⟩
          all_goals first | exact h | cases h
        have hi2 : i = .invokestatic j := by
          rcases hi with ⟨h1, h2⟩ | ⟨h1, h2⟩ | ⟨h1, h2⟩
          all_goals first | exact h1 | (exfalso; revert h2; decide)
        subst hi2
        refine xp_cpy hC hG.1 hR hA0 hS hh hl hw hr4 ha hb hga hgb h1 h2 h3 h4 h5 hd (fun H1 locs1 hR1 hS1 => k _ _ _ _ _ hR1 hS1 hl hal ?_ ?_)
        · rw [xset_len]
        · have := xset_sl (e := .inr ((0, n1), .inl (xcpy f g sp.toNatClampNeg dp.toNatClampNeg n.toNatClampNeg))) hgb hb rfl
          omega
      · cases hA
    · cases hA
  · rename_i a r
    split at hA
    · rename_i hc
      obtain ⟨h1, h7, hr4⟩ := hc
      obtain ⟨rfl, rfl, rfl, rfl⟩ := xgo_inv hA
      have hw : Cond.methodLink (xown m.1) j yJ0_length_8abf5 ∈ xWg := by
        rcases hq with ⟨h, -⟩ | ⟨h, -⟩ | ⟨h, -⟩ | ⟨h, -⟩ | ⟨-, h⟩ | ⟨h, -⟩
        all_goals first | exact h | cases h
      have hi2 : i = .invokevirtual j := by
        rcases hi with ⟨h1, h2⟩ | ⟨h1, h2⟩ | ⟨h1, h2⟩
        all_goals first | exact h1 | (exfalso; revert h2; decide)
      subst hi2
      exact xp_slen hC hG hS hl hh hr4 h1 h7 hw (by omega) (by omega) hd (k _ _ _ _ _ hR hS hl hal rfl rfl)
    · cases hA
  · rename_i z a r
    split at hA
    · rename_i hc
      obtain ⟨h1, h7, hr4, hz⟩ := hc
      obtain ⟨rfl, rfl, rfl, rfl⟩ := xgo_inv hA
      have hw : Cond.methodLink (xown m.1) j yJ0_charAt_5068e ∈ xWg := by
        rcases hq with ⟨h, -⟩ | ⟨h, -⟩ | ⟨h, -⟩ | ⟨h, -⟩ | ⟨h, -⟩ | ⟨-, h⟩
        all_goals first | exact h | cases h
      have hi2 : i = .invokevirtual j := by
        rcases hi with ⟨h1, h2⟩ | ⟨h1, h2⟩ | ⟨h1, h2⟩
        all_goals first | exact h1 | (exfalso; revert h2; decide)
      subst hi2
      exact xp_schar hC hG hS hl hh hr4 h1 h7 hz hw (by omega) (by omega) hd (k _ _ _ _ _ hR hS hl hal rfl rfl)
    · cases hA
  · cases hA
set_option maxRecDepth 100000 in
set_option maxHeartbeats 4000000 in
theorem xstep_op (hC : xC p R s mid args meth c m) (hG : xG B pre adV tA D X s s.heap) (hR : xRel B pre tA D h H) (hS : va_S (xA0 B) s.heap H locs) (hl : lv_has rl m.2.2.2.1 (xlv B pre 0 al)) (hal : al.length = m.2.2.2.1)
    (hd : decode m.2.2.1 pc = .ok (i, len)) (hln : len = xlen i len) (hA : xop X m pc len i al st h = some (.inr (.inl (pc', al', st', h')))) (hcr : cells + h'.length ≤ R.cells + h.length) (hsr : slots + xsl h' ≤ R.slots + xsl h)
    (k : xN p l e R s mid args below meth c cells slots Q B pre tA D m.2.2.2.1 h pc' al' st' h') : W p l e R s mid args below meth c H locs cells slots Q (F0 mid pc rl (st.map (xv B pre))) := by
  have hA0 : ∀ q, B ≤ q → xA0 B q := fun _ h => h
  have hp0 : pre 0 < s.heap.size ∧ ¬ xA0 B (pre 0) := ⟨by have := hG.2.2.2.2.2.2.2.2.2; omega, by have := hG.2.2.2.2.2.2.2.2.2; unfold xA0; omega⟩
  have hX := hG.2.2.2.2.2.2.2.2.1
  have hK := hG.1
  have hN := hG.2.1
  cases i <;> unfold xop at hA <;> try (cases hA; done)
  all_goals dsimp only [xlen] at hln hA
  case iinc j n =>
    split at hA
    · rename_i x hx
      split at hA
      · rename_i ls' hs
        obtain ⟨rfl, rfl, rfl, rfl⟩ := xgo_inv hA
        subst hln
        obtain ⟨hlen, hj⟩ := xsto_len hs
        have hjn : j < m.2.2.2.1 := by rw [← hal]; exact hj
        have hmem := xlv_in (B := B) (pre := pre) al 0 j _ hx (fun z h => by cases h)
        rw [Nat.zero_add] at hmem
        obtain ⟨q, hq⟩ := List.getElem?_of_mem hmem
        exact lv_iinc hC.1 hC.2.1 hd hl hq rfl hjn rfl (fun rl' h1 => k _ _ _ _ _ hR hS (xl_set rfl hs h1) (by rw [hlen, hal]) rfl rfl)
      · cases hA
    · cases hA
  case dup =>
    split at hA
    · split at hA
      · rename_i v r hv
        obtain ⟨rfl, rfl, rfl, rfl⟩ := xgo_inv hA
        subst hln
        refine lv_dup hC.1 hC.2.1 hd ?_ (k _ _ _ _ _ hR hS hl hal rfl rfl)
        rw [xv_cat]
        cases v <;> first | rfl | (rcases hv with h | h <;> cases h)
      · cases hA
    · cases hA
  case dup2 =>
    split at hA
    · split at hA
      · rename_i v w r hv
        obtain ⟨rfl, rfl, rfl, rfl⟩ := xgo_inv hA
        subst hln
        refine lv_dup2_11 hC.1 hC.2.1 hd ?_ ?_ (k _ _ _ _ _ hR hS hl hal rfl rfl)
        · rw [xv_cat]
          cases v <;> first | rfl | (rcases hv.1 with h | h <;> cases h)
        · rw [xv_cat]
          cases w <;> first | rfl | (rcases hv.2 with h | h <;> cases h)
      · cases hA
    · cases hA
  case pop =>
    split at hA
    · split at hA
      · rename_i v r hv
        obtain ⟨rfl, rfl, rfl, rfl⟩ := xgo_inv hA
        subst hln
        refine lv_pop hC.1 hC.2.1 hd ?_ (k _ _ _ _ _ hR hS hl hal rfl rfl)
        rw [xv_cat]
        cases v <;> first | rfl | (rcases hv with h | h <;> cases h)
      · cases hA
    · cases hA
  case ifCond cd off =>
    split at hA
    · rename_i x r
      split at hA
      · rename_i h0
        subst hln
        refine xp_if hC hd (fun hc => ⟨h0.symm, ?_⟩) (fun hc => ?_) h0.symm
        · rw [if_pos hc] at hA
          obtain ⟨rfl, rfl, rfl, rfl⟩ := xgo_inv hA
          exact k _ _ _ _ _ hR hS hl hal rfl rfl
        · rw [if_neg hc] at hA
          obtain ⟨rfl, rfl, rfl, rfl⟩ := xgo_inv hA
          exact k _ _ _ _ _ hR hS hl hal rfl rfl
      · cases hA
    · cases hA
  case if_icmp cd off =>
    split at hA
    · rename_i y x r
      split at hA
      · rename_i h0
        subst hln
        refine xp_icmp hC hd (fun hc => ⟨h0.symm, ?_⟩) (fun hc => ?_) h0.symm
        · rw [if_pos hc] at hA
          obtain ⟨rfl, rfl, rfl, rfl⟩ := xgo_inv hA
          exact k _ _ _ _ _ hR hS hl hal rfl rfl
        · rw [if_neg hc] at hA
          obtain ⟨rfl, rfl, rfl, rfl⟩ := xgo_inv hA
          exact k _ _ _ _ _ hR hS hl hal rfl rfl
      · cases hA
    · cases hA
  case ifnull off =>
    split at hA
    · obtain ⟨h0, rfl, rfl, rfl⟩ := xjmp_inv hA
      subst hln
      exact lv_ifnullN hC.1 hC.2.1 hd h0 (k _ _ _ _ _ hR hS hl hal rfl rfl)
    · obtain ⟨rfl, rfl, rfl, rfl⟩ := xgo_inv hA
      subst hln
      exact lv_ifnull hC.1 hC.2.1 hd (k _ _ _ _ _ hR hS hl hal rfl rfl)
    · cases hA
  case ifnonnull off =>
    split at hA
    · obtain ⟨rfl, rfl, rfl, rfl⟩ := xgo_inv hA
      subst hln
      exact lv_ifnonnullN hC.1 hC.2.1 hd (k _ _ _ _ _ hR hS hl hal rfl rfl)
    · obtain ⟨h0, rfl, rfl, rfl⟩ := xjmp_inv hA
      subst hln
      exact lv_ifnonnull hC.1 hC.2.1 hd h0 (k _ _ _ _ _ hR hS hl hal rfl rfl)
    · cases hA
  case goto off =>
    obtain ⟨h0, rfl, rfl, rfl⟩ := xjmp_inv hA
    subst hln
    exact lv_goto hC.1 hC.2.1 hd h0 (k _ _ _ _ _ hR hS hl hal rfl rfl)
  case tableswitch d lo hi offs =>
    split at hA
    · rename_i x r
      split at hA
      · rename_i h1
        obtain ⟨h0, rfl, rfl, rfl⟩ := xjmp_inv hA
        exact lv_tableOut hC.1 hC.2.1 hd h1 h0 (k _ _ _ _ _ hR hS hl hal rfl rfl)
      · rename_i h1
        split at hA
        · rename_i off ho
          obtain ⟨h0, rfl, rfl, rfl⟩ := xjmp_inv hA
          exact lv_tableIn hC.1 hC.2.1 hd (fun q => h1 (Or.inl q)) (fun q => h1 (Or.inr q)) ho h0 (k _ _ _ _ _ hR hS hl hal rfl rfl)
        · cases hA
    · cases hA
  case getfield j =>
    split at hA
    · rename_i a r
      split at hA
      · rename_i v hv
        obtain ⟨rfl, rfl, rfl, rfl⟩ := xgo_inv hA
        subst hln
        obtain ⟨ci, fs, q, h1, h2, h3⟩ := xgf_inv hv
        exact xp_get hC hK hN hR (xfld_ok _ _ _ _ h2) h1 h3 hd (k _ _ _ _ _ hR hS hl hal rfl rfl)
      · cases hA
    · cases hA
  case putfield j =>
    split at hA
    · rename_i v a r
      split at hA
      · rename_i e0 hv
        obtain ⟨rfl, rfl, rfl, rfl⟩ := xgo_inv hA
        subst hln
        obtain ⟨ci, fs, q, h1, h2, h3, h4, h5, rfl⟩ := xpf_inv hv
        refine xp_put hC hK hN hR hA0 hS (xfld_ok _ _ _ _ h2) h1 h4 h3 h5 hd (fun H1 locs1 hR1 hS1 => k _ _ _ _ _ hR1 hS1 hl hal ?_ ?_)
        · rw [xset_len]
        · rw [xset_sl h1 (xget_obj h1).1 (by unfold xesz; simp)]
      · cases hA
    · cases hA
  case iaload =>
    split at hA
    · rename_i j a r
      split at hA
      · rename_i v hv
        obtain ⟨rfl, rfl, rfl, rfl⟩ := xgo_inv hA
        subst hln
        exact xp_ald hC hK hR hS hX hp0 hv hd (k _ _ _ _ _ hR hS hl hal rfl rfl)
      · cases hA
    · cases hA
  case baload =>
    split at hA
    · rename_i j a r
      split at hA
      · rename_i v hv
        obtain ⟨rfl, rfl, rfl, rfl⟩ := xgo_inv hA
        subst hln
        exact xp_ald hC hK hR hS hX hp0 hv hd (k _ _ _ _ _ hR hS hl hal rfl rfl)
      · cases hA
    · cases hA
  case aaload =>
    split at hA
    · rename_i j a r
      split at hA
      · rename_i v hv
        obtain ⟨rfl, rfl, rfl, rfl⟩ := xgo_inv hA
        subst hln
        exact xp_ald hC hK hR hS hX hp0 hv hd (k _ _ _ _ _ hR hS hl hal rfl rfl)
      · cases hA
    · cases hA
  case arraylength =>
    split at hA
    · rename_i a r
      split at hA
      · rename_i t n x hg
        split at hA
        · rename_i ht
          obtain ⟨rfl, rfl, rfl, rfl⟩ := xgo_inv hA
          subst hln
          exact xp_len hC hK hR hS hX hp0 hg ht hd (k _ _ _ _ _ hR hS hl hal rfl rfl)
        · cases hA
      · cases hA
    · cases hA
  case new j =>
    split at hA
    · rename_i ci fs hn
      obtain ⟨rfl, rfl, rfl, rfl⟩ := xgo_inv hA
      subst hln
      have hr : xNew m.1 j ci fs := xnewT_ok _ _ _ hn
      rw [List.length_append] at hcr
      rw [xsl_app] at hsr
      have hz : xsl [(.inl (ci, fs) : xE)] = fs.length := by simp [xsl, xesz]
      rw [hz] at hsr
      have hone : ([(.inl (ci, fs) : xE)]).length = 1 := rfl
      refine xp_new hC hK hR hS hr (by omega) (by omega) hd (fun H1 hR1 hS1 => k _ _ _ _ _ hR1 hS1 hl hal ?_ ?_)
      · rw [List.length_append]; omega
      · rw [xsl_app, hz]; omega
    · cases hA
  case newarray t =>
    split at hA
    · rename_i n r
      split at hA
      · rename_i a ha
        split at hA
        · rename_i hn
          obtain ⟨rfl, rfl, rfl, rfl⟩ := xgo_inv hA
          subst hln
          rw [List.length_append] at hcr
          rw [xsl_app] at hsr
          have hz : xsl [(.inr ((a, n.toNatClampNeg), .inl (fun _ => 0)) : xE)] = n.toNatClampNeg := by simp [xsl, xesz]
          rw [hz] at hsr
          have hone : ([(.inr ((a, n.toNatClampNeg), .inl (fun _ => 0)) : xE)]).length = 1 := rfl
          have hw : Cond.arrayClass (newarray.typeOf t) ∈ xWg := by
            cases t <;> first | (cases ha; done) | exact xmem (by decide +kernel) rfl
          refine xp_newa hC hK hR hS ha hw hn.1 hn.2 (by omega) (by omega) hd (fun H1 hR1 hS1 => k _ _ _ _ _ hR1 hS1 hl hal ?_ ?_)
          · rw [List.length_append]; omega
          · rw [xsl_app, hz]; omega
        · cases hA
      · cases hA
    · cases hA
  case anewarray j =>
    split at hA
    · rename_i n r
      split at hA
      · rename_i a ha
        split at hA
        · rename_i hn
          obtain ⟨rfl, rfl, rfl, rfl⟩ := xgo_inv hA
          subst hln
          rw [List.length_append] at hcr
          rw [xsl_app] at hsr
          have hz : xsl [(.inr ((a, n.toNatClampNeg), .inr (fun _ => none)) : xE)] = n.toNatClampNeg := by simp [xsl, xesz]
          rw [hz] at hsr
          have hone : ([(.inr ((a, n.toNatClampNeg), .inr (fun _ => none)) : xE)]).length = 1 := rfl
          obtain ⟨C, hC1, hC2, hC3⟩ := xanew_ok _ _ _ ha
          have hao : va_AO C s := by
            rcases hC3 with rfl | rfl
            · exact hG.2.2.1
            · exact hG.2.2.2.1
          refine xp_anew hC hK hR hS (hC1 tA) hC2 hao hn.1 hn.2 (by omega) (by omega) hd (fun H1 hR1 hS1 => k _ _ _ _ _ hR1 hS1 hl hal ?_ ?_)
          · rw [List.length_append]; omega
          · rw [xsl_app, hz]; omega
        · cases hA
      · cases hA
    · cases hA
  case multianewarray j d =>
    split at hA
    · rename_i n q r
      split at hA
      · rename_i hn
        obtain ⟨hn1, rfl, rfl, rfl⟩ := hn
        obtain ⟨rfl, rfl, rfl, rfl⟩ := xgo_inv hA
        subst hln
        rw [List.length_append] at hcr
        rw [xsl_app] at hsr
        generalize hg : ((.inr ((3, 8), .inr (fun j => if j < 8 then some (xnw h + 1 + j) else none))) :: List.replicate 8 (.inr ((0, 40), .inl (fun _ => 0))) : xH) = g at hcr hsr k
        have hz : xsl g = 328 := by rw [← hg]; rfl
        have hone : g.length = 9 := by rw [← hg]; rfl
        rw [hz] at hsr
        have hwm : Cond.classLink (xown m.1) j "[[I" ∈ xWg := by
          unfold xmna at hn1
          split at hn1
          · rename_i h8
            unfold xmna_8 at hn1
            split at hn1
            · rw [h8]
              exact xmem (by decide +kernel) rfl
            · cases hn1
          · cases hn1
        refine xp_mna hC hK hG.2.2.2.2.1 hR hS hwm (xmem (by decide +kernel) rfl) (by omega) (by omega) hd (fun H1 hR1 hS1 => k _ _ _ _ _ (by rw [← hg]; exact hR1) hS1 hl hal ?_ ?_)
        · rw [List.length_append]; omega
        · rw [xsl_app, hz]; omega
      · cases hA
    · cases hA
  case instanceof j =>
    split at hA
    · rename_i a r
      split at hA
      · rename_i ci hci
        split at hA
        · rename_i v hv
          obtain ⟨rfl, rfl, rfl, rfl⟩ := xgo_inv hA
          subst hln
          obtain ⟨fs, hg⟩ := xkind_inv hci
          exact xp_ins hC hK hN hR hg (xins_ok _ _ _ _ hv) hd (k _ _ _ _ _ hR hS hl hal rfl rfl)
        · cases hA
      · cases hA
    · cases hA
  case iastore =>
    split at hA
    · rename_i v j a r
      by_cases ha : a < 16
      · rw [if_pos ha] at hA
        cases hA
      · rw [if_neg ha] at hA
        have ha6 : 16 ≤ a := Nat.not_lt.mp ha
        split at hA
        · rename_i e0 he
          obtain ⟨rfl, rfl, rfl, rfl⟩ := xgo_inv hA
          subst hln
          rcases xas_inv he with ⟨t, n, f, x, y, h1, rfl, h3, h4, rfl⟩ | ⟨t, n, g, b, ci, h1, rfl, h3, h4, h5, h6, rfl⟩
          · refine xp_iast hC hK hR hA0 hS ha6 h1 h3 h4 hd (fun H1 locs1 hR1 hS1 => k _ _ _ _ _ hR1 hS1 hl hal ?_ ?_)
            · rw [xset_len]
            · have := xset_sl (e := .inr ((t, n), .inl (upd f j.toNatClampNeg y))) h1 ha6 rfl
              omega
          · cases h5
        · cases hA
    · cases hA
  case bastore =>
    split at hA
    · rename_i v j a r
      by_cases ha : a < 16
      · rw [if_pos ha] at hA
        cases hA
      · rw [if_neg ha] at hA
        have ha6 : 16 ≤ a := Nat.not_lt.mp ha
        split at hA
        · rename_i e0 he
          obtain ⟨rfl, rfl, rfl, rfl⟩ := xgo_inv hA
          subst hln
          rcases xas_inv he with ⟨t, n, f, x, y, h1, rfl, h3, h4, rfl⟩ | ⟨t, n, g, b, ci, h1, rfl, h3, h4, h5, h6, rfl⟩
          · refine xp_iast hC hK hR hA0 hS ha6 h1 h3 h4 hd (fun H1 locs1 hR1 hS1 => k _ _ _ _ _ hR1 hS1 hl hal ?_ ?_)
            · rw [xset_len]
            · have := xset_sl (e := .inr ((t, n), .inl (upd f j.toNatClampNeg y))) h1 ha6 rfl
              omega
          · cases h5
        · cases hA
    · cases hA
  case aastore =>
    split at hA
    · rename_i v j a r
      by_cases ha : a < 16
      · rw [if_pos ha] at hA
        cases hA
      · rw [if_neg ha] at hA
        have ha6 : 16 ≤ a := Nat.not_lt.mp ha
        split at hA
        · rename_i e0 he
          obtain ⟨rfl, rfl, rfl, rfl⟩ := xgo_inv hA
          subst hln
          rcases xas_inv he with ⟨t, n, f, x, y, h1, rfl, h3, h4, rfl⟩ | ⟨t, n, g, b, ci, h1, rfl, h3, h4, h5, h6, rfl⟩
          · rcases h4 with ⟨h4, -⟩ | ⟨h4, -⟩ | ⟨h4, -⟩ <;> cases h4
          · obtain ⟨fs, hg⟩ := xkind_inv h3
            obtain ⟨E, hE1, hE2, hE3⟩ := xelm_ok _ _ h6
            refine xp_aast hC hK hN hR hA0 hS ha6 h1 hg h4 ⟨E, hE1 tA, hE2, hE3⟩ hd (fun H1 locs1 hR1 hS1 => k _ _ _ _ _ hR1 hS1 hl hal ?_ ?_)
            · rw [xset_len]
            · have := xset_sl (e := .inr ((t, n), .inr (fun k => if k = j.toNatClampNeg then some b else g k))) h1 ha6 rfl
              omega
        · cases hA
    · cases hA
  case invokevirtual j =>
    split at hA
    · rename_i q hq
      split at hA
      · rename_i hh
        subst hln
        exact xprim_sound hC hG hR hS hl hal (Or.inl ⟨rfl, hh.2⟩) hd (xpr_ok _ _ _ hq) hh.1 hA hcr hsr k
      · cases hA
    · split at hA
      · exact (xcalO_ng hA).elim
      · cases hA
  case invokespecial j =>
    split at hA
    · rename_i q hq
      split at hA
      · rename_i hh
        subst hln
        exact xprim_sound hC hG hR hS hl hal (Or.inr (Or.inl ⟨rfl, hh.2⟩)) hd (xpr_ok _ _ _ hq) hh.1 hA hcr hsr k
      · cases hA
    · split at hA
      · exact (xcalO_ng hA).elim
      · cases hA
  case invokestatic j =>
    split at hA
    · rename_i q hq
      split at hA
      · rename_i hh
        subst hln
        exact xprim_sound hC hG hR hS hl hal (Or.inr (Or.inr ⟨rfl, hh.2⟩)) hd (xpr_ok _ _ _ hq) hh.1 hA hcr hsr k
      · cases hA
    · split at hA
      · split at hA
        · exact (xcal_ng hA).elim
        · cases hA
      · cases hA
  case ireturn =>
    split at hA
    · split at hA
      · cases hA
      · cases hA
    · cases hA
  case areturn =>
    split at hA
    · split at hA
      · cases hA
      · cases hA
    · cases hA
  case return_ =>
    split at hA
    · split at hA
      · cases hA
      · cases hA
    · cases hA
end XSN
