/-! THE MACHINE DOES IT: Object(), Math.max, Math.min, System.arraycopy -/
theorem xcat_le : ∀ l : List Value, (l.map fun v => v.category).sum ≤ 2 * l.length
  | [] => Nat.zero_le _
  | v :: t => by
    rw [List.map_cons, List.sum_cons, List.length_cons]
    have h1 := xcat_le t
    have h2 : v.category ≤ 2 := by cases v <;> exact Nat.le_of_ble_eq_true rfl
    omega
theorem xcat8 {B : Nat} {pre : Nat → Nat} {st : List Value} (h : st.length ≤ 4) : ((st.map (xv B pre)).map fun v => v.category).sum ≤ 8 := by
  have := xcat_le (st.map (xv B pre))
  rw [List.length_map] at this
  omega
section XPP
variable {p : Program} {l : Launch} {e : Env} {R : Room} {s : State} {mid : MethodId} {args : Array Value} {below : List Frame} {meth : Method} {c : Code} {H : Heap} {locs : List Loc} {cells slots : Nat} {Q : State → Prop}
variable {B : Nat} {pre : Nat → Nat} {tA : Nat → ClassId} {D : va_G} {X : xS} {m : xMd} {pc : Nat} {h : xH} {rl : Array Slot} {st al : List Value}
theorem xp_obj (hC : xC p R s mid args meth c m) (hh : 1 ≤ m.2.2.2.2.2) (hl : lv_has rl m.2.2.2.1 (xlv B pre 0 al)) {k a : Nat} (hw : Cond.methodLink (xown m.1) k objectInit ∈ xWg) (hst : st.length ≤ 4) (hd : decode m.2.2.1 pc = .ok (.invokespecial k, 3))
    (kk : W p l e R s mid args below meth c H locs cells slots Q (F0 mid (pc + 3) rl (st.map (xv B pre)))) : W p l e R s mid args below meth c H locs cells slots Q (F0 mid pc rl (.ref (xa B pre a) :: st.map (xv B pre))) := by
  obtain ⟨hx, hb, hml, hown, hts, hini, hfr, hlo⟩ := hC
  have h8 := xcat8 (B := B) (pre := pre) hst
  exact W.objInit hx hb hown (hts _ hw) (hts (.instanceMethod objectInit) (xmem (by decide +kernel) rfl)) (hts (.code objectInit ⟨#[0xb1]⟩ 1 none) (xmem (by decide +kernel) rfl)) rfl (by rw [hml]; exact hl.1) rfl hd (by omega) (by show 2 * 0 + _ + 12 ≤ _; omega) kk
theorem xp_max (hC : xC p R s mid args meth c m) (hh : 1 ≤ m.2.2.2.2.2) (hl : lv_has rl m.2.2.2.1 (xlv B pre 0 al)) {k : Nat} (hw : Cond.methodLink (xown m.1) k Lib.Math.max.name ∈ xWg) (hst : st.length ≤ 4) (hcs : cells ≤ R.cells) (hss : slots ≤ R.slots) {x y : Int32} (hd : decode m.2.2.1 pc = .ok (.invokestatic k, 3))
    (kk : W p l e R s mid args below meth c H locs cells slots Q (F0 mid (pc + 3) rl (.int (if x < y then y else x) :: st.map (xv B pre)))) : W p l e R s mid args below meth c H locs cells slots Q (F0 mid pc rl (.int y :: .int x :: st.map (xv B pre))) := by
  obtain ⟨hx, hb, hml, hown, hts, hini, hfr, hlo⟩ := hC
  have h8 := xcat8 (B := B) (pre := pre) hst
  exact va_mmax hx hb (by rw [hml]; exact hl.1.symm) hown (hts _ hw) (hts (.static Lib.Math.max.name) (xmem (by decide +kernel) rfl)) (hts (.initialized "java/lang/Math") (xmem (by decide +kernel) rfl)) (hts (.code Lib.Math.max.name Lib.Math.max.code 2 (some .int)) (xmem (by decide +kernel) rfl)) (by omega) (by omega) hcs hss hd kk
theorem xp_min (hC : xC p R s mid args meth c m) (hh : 1 ≤ m.2.2.2.2.2) (hl : lv_has rl m.2.2.2.1 (xlv B pre 0 al)) {k : Nat} (hw : Cond.methodLink (xown m.1) k Lib.Math.min.name ∈ xWg) (hst : st.length ≤ 4) (hcs : cells ≤ R.cells) (hss : slots ≤ R.slots) {x y : Int32} (hd : decode m.2.2.1 pc = .ok (.invokestatic k, 3))
    (kk : W p l e R s mid args below meth c H locs cells slots Q (F0 mid (pc + 3) rl (.int (if y < x then y else x) :: st.map (xv B pre)))) : W p l e R s mid args below meth c H locs cells slots Q (F0 mid pc rl (.int y :: .int x :: st.map (xv B pre))) := by
  obtain ⟨hx, hb, hml, hown, hts, hini, hfr, hlo⟩ := hC
  have h8 := xcat8 (B := B) (pre := pre) hst
  exact va_mmin hx hb (by rw [hml]; exact hl.1.symm) hown (hts _ hw) (hts (.static Lib.Math.min.name) (xmem (by decide +kernel) rfl)) (hts (.initialized "java/lang/Math") (xmem (by decide +kernel) rfl)) (hts (.code Lib.Math.min.name Lib.Math.min.code 2 (some .int)) (xmem (by decide +kernel) rfl)) (by omega) (by omega) hcs hss hd kk
theorem xnn {z : Int32} (hz : ¬ z < 0) : z.toInt = (z.toNatClampNeg : Int) := by
  have hz0 : (0 : Int) ≤ z.toInt := by
    have := Int32.not_lt.mp hz
    simpa using Int32.le_iff_toInt_le.mp this
  show z.toInt = ((z.toInt.toNat : Nat) : Int)
  omega
theorem xp_cpy (hC : xC p R s mid args meth c m) (hK : va_K D vwCl (xtys tA) s) (hR : xRel B pre tA D h H) {A : Nat → Prop} {H0 : Heap} (hA : ∀ q, B ≤ q → A q) (hS : va_S A H0 H locs) (hh : 1 ≤ m.2.2.2.2.2) (hl : lv_has rl m.2.2.2.1 (xlv B pre 0 al)) {k a b n0 n1 : Nat} {f g : Nat → Int32} (hw : Cond.methodLink (xown m.1) k arraycopyName ∈ xWg) (hst : st.length ≤ 4) (ha : 16 ≤ a) (hb16 : 16 ≤ b) (hga : xget X h a = some (.inr ((0, n0), .inl f))) (hgb : xget X h b = some (.inr ((0, n1), .inl g)))
    {sp dp n : Int32} (h1 : ¬ sp < 0) (h2 : ¬ dp < 0) (h3 : ¬ n < 0) (h4 : sp.toNatClampNeg + n.toNatClampNeg ≤ n0) (h5 : dp.toNatClampNeg + n.toNatClampNeg ≤ n1) (hd : decode m.2.2.1 pc = .ok (.invokestatic k, 3))
    (kk : ∀ (H1 : Heap) (locs1 : List Loc), xRel B pre tA D (xset h b (.inr ((0, n1), .inl (va_cpy f g sp.toNatClampNeg dp.toNatClampNeg n.toNatClampNeg)))) H1 → va_S A H0 H1 locs1 → W p l e R s mid args below meth c H1 locs1 cells slots Q (F0 mid (pc + 3) rl (st.map (xv B pre)))) : W p l e R s mid args below meth c H locs cells slots Q (F0 mid pc rl (.int n :: .int dp :: .ref (xa B pre b) :: .int sp :: .ref (xa B pre a) :: st.map (xv B pre))) := by
  obtain ⟨hx, hb, hml, hown, hts, hini, hfr, hlo⟩ := hC
  have h8 := xcat8 (B := B) (pre := pre) hst
  rw [xget_16 ha] at hga
  rw [xget_16 hb16] at hgb
  have hkl : b - 16 < h.length := (List.getElem?_eq_some_iff.mp hgb).1
  rw [xa_16 ha, xa_16 hb16]
  intro T hT Xs
  have hc0 : H[B + (a - 16)]? = some (vp_cell (tA 0) (n0, .inl f)) := hR.2 _ _ hga
  have hc1 : H[B + (b - 16)]? = some (vp_cell (tA 0) (n1, .inl g)) := hR.2 _ _ hgb
  obtain ⟨-, k0, hk0, cm0, hkk0⟩ := (hK.2 0 _ rfl).1 n0 (fun j => .int (f j))
  obtain ⟨-, k1, hk1, cm1, hkk1⟩ := (hK.2 0 _ rfl).1 n1 (fun j => .int (g j))
  have hrm : (((List.map (xv B pre) st)).map fun v => v.category).sum + (nativeFrameWords "java/lang/System" "arraycopy" 5 + 11) ≤ R.locals := by
    have : nativeFrameWords "java/lang/System" "arraycopy" 5 = 7 := by decide
    omega
  obtain ⟨vm', X', step⟩ := Xs.arraycopy hx hown (hts _ hw) (hts (.native arraycopyName) (xmem (by decide +kernel) rfl)) (hts (.static arraycopyName) (xmem (by decide +kernel) rfl)) (hts (.initialized "java/lang/System") (xmem (by decide +kernel) rfl)) (src := B + (a - 16)) (dst := B + (b - 16)) (cs := vp_cell (tA 0) (n0, .inl f)) (cd := vp_cell (tA 0) (n1, .inl g)) (srcPos := sp) (destPos := dp) (n := n) (by rw [hT]; exact hc0) (by rw [hT]; exact hc1)
    (fun _ h => by cases h) (fun _ h => by cases h) (fun h => by cases h) (fun h => by cases h) hk0 hk1 hkk0 hkk1 (by simp [refKind]) h1 h2 h3
    (by rw [xnn h1, xnn h3]; show ¬ _ > ((arrV (tA 0) n0 (fun j => .int (f j))).slots.size : Int); rw [arrV_size]; omega)
    (by rw [xnn h2, xnn h3]; show ¬ _ > ((arrV (tA 0) n1 (fun j => .int (g j))).slots.size : Int); rw [arrV_size]; omega)
    (fun vm₁ _ i hi => by
      have e : (vp_cell (tA 0) (n0, .inl f)).slots.getD (sp.toNatClampNeg + i) .null = .int (f (sp.toNatClampNeg + i)) := by
        show (arrV (tA 0) n0 (fun j => .int (f j))).slots.getD _ _ = _
        rw [Array.getD_eq_getD_getElem?, arrV_read _ _ (by omega)]
        rfl
      refine ⟨?_, ?_⟩
      · rw [e]
        rfl
      · rw [e]
        exact trivial)
    (g := F0 mid pc rl (.int n :: .int dp :: .ref (B + (b - 16)) :: .int sp :: .ref (B + (a - 16)) :: st.map (xv B pre))) rfl (by rw [hml]; exact hl.1) (rest := st.map (xv B pre)) rfl (by rw [hb]; exact hd) (by omega) (by show 2 * 0 + _ + _ ≤ _; omega)
  have e1 : copied (vp_cell (tA 0) (n0, .inl f)) (vp_cell (tA 0) (n1, .inl g)) sp dp n = vp_cell (tA 0) (n1, .inl (va_cpy f g sp.toNatClampNeg dp.toNatClampNeg n.toNatClampNeg)) := va_copied (fun z => .int z) (tA 0) (tA 0) f g h4
  rw [e1] at X' step
  have hl2 : B + (b - 16) < H.size := (Array.getElem?_eq_some_iff.mp hc1).1
  generalize hG : vp_cell (tA 0) (n1, .inl (va_cpy f g sp.toNatClampNeg dp.toNatClampNeg n.toNatClampNeg)) = G at X' step
  have hheap : ((T.setVm vm').setCell (B + (b - 16)) G).heap = H.setIfInBounds (B + (b - 16)) G := by rw [← hT]; rfl
  have oq : ∀ q : Nat, q ≠ B + (b - 16) → (H.setIfInBounds (B + (b - 16)) G)[q]? = H[q]? := fun q hq => by simp [Array.getElem?_setIfInBounds, Ne.symm hq]
  obtain ⟨t, a1, b1⟩ := kk _ _ (hR.set hkl (by
      show (H.setIfInBounds (B + (b - 16)) G)[B + (b - 16)]? = some (vp_cell (tA 0) (n1, .inl (va_cpy f g sp.toNatClampNeg dp.toNatClampNeg n.toNatClampNeg)))
      rw [hG]
      simp [Array.getElem?_setIfInBounds, hl2]) (by simp) oq) ⟨by simp; exact hS.1, fun q g1 g2 => by
      rw [oq q (fun e => g2 (by rw [e]; exact hA _ (by omega)))]
      exact hS.2.1 q g1 g2, fun q hq => by
      rcases List.mem_append.mp hq with h | h
      · exact hS.2.2 q h
      · obtain ⟨z, -, hz⟩ := List.mem_map.mp h
        rw [← hz]
        exact hA _ (by show B ≤ B + (b - 16); omega)⟩ _ hheap X'
  exact ⟨t, step t a1, b1⟩
end XPP
