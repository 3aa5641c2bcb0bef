/-! String.length, String.charAt -/
theorem goodIn_V {own : String} {idx : Nat} {C : String} {y : MethodName} {ws : List Cond} (h1 : Cond.methodLink own idx y ∈ xWg) (h2 : Cond.instanceMethod y ∈ xWg) (h3 : Cond.selects C y y ∈ xWg) (h4 : Cond.initialized C ∈ xWg) (h : GoodIn xWg ws) : GoodIn xWg (wsV own idx C y ws) := by
  intro w hw
  unfold wsV at hw
  rcases List.mem_append.mp hw with hw | hw
  · refine xWg_good (ws := [.methodLink own idx y, .instanceMethod y, .selects C y y, .initialized C]) (fun w hw => ?_) w hw
    rcases List.mem_cons.mp hw with rfl | hw
    · exact h1
    · rcases List.mem_cons.mp hw with rfl | hw
      · exact h2
      · rcases List.mem_cons.mp hw with rfl | hw
        · exact h3
        · rw [List.mem_singleton.mp hw]
          exact h4
  · exact h w hw
theorem xO_recv {s : State} {A : Nat → Prop} {a : Nat} {H : Heap} {locs : List Loc} (hE : va_O "java/lang/String" a A s s.heap) (hS : va_S A s.heap H locs) : ∃ cell : Cell, H[a]? = some cell ∧ cell.vm.isStatics = false ∧ s.vm.findClass "java/lang/String" = some cell.cls := by
  have h := hE.kept hS.2.1
  obtain ⟨cell, h1, h2, h3, -⟩ := h
  exact ⟨cell, h1, h2, h3⟩
/-- a sign of a literal as charAt gives it -/
theorem xch {b : Int32} (h : 0 ≤ b.toInt ∧ b.toInt < 128) : ((b &&& 255).toUInt32 % 65536).toInt32 = b := by
  have key : ∀ n : Nat, n < 128 → (((nI n) &&& 255).toUInt32 % 65536).toInt32 = nI n := by decide +kernel
  have hb : b = nI b.toInt.toNat := by
    refine Int32.toInt_inj.mp ?_
    rw [nI_toInt (by omega)]
    omega
  rw [hb]
  exact key _ (by omega)
set_option maxRecDepth 100000 in
theorem xs_l1char (l : Launch) (A : Nat → Prop) (a t : Nat) (byt : List Int32) (k : Nat) (hk : k < byt.length) (hn : byt.length < 2 ^ 31) (h7 : ∀ b ∈ byt, 0 ≤ b.toInt ∧ b.toInt < 128) : Met l yJ1_charAt_3b067 (xw yJ1_charAt_3b067 cJ1_charAt_3b067 2 (some .char)) ({ frames := 2, cells := 0, slots := 0, locals := 60 }) (xPc [.ref t, .int (nI k)] (fun U H => xJd A U H ∧ xS1 a t byt A U H)) (vp_Si (fun r => r = byt.getD k 0)) 0 0 (fun _ => False) := by
  refine Met.ofW (cc := cJ1_charAt_3b067) (maxL := 2) (ret := some .char) (by decide) rfl ?_
  intro p e s m args below meth c s₁ B hml hv
  obtain ⟨rfl, hJ, hE⟩ := hv
  have hx := B.exec
  have hb := B.bytes
  have hr := B.returns
  have hts := xw_in (atoms_spec (ws := xw yJ1_charAt_3b067 cJ1_charAt_3b067 2 (some .char)) B.pre)
  have hown : s.vm.findClass RJ1 = some m.cls := findClass_of_methodNamed B.named
  have hlocks := B.notSynchronized
  have hS : va_S A s.heap s.heap [] := va_S.rf
  have hl := lv_entry ([.ref t, .int (nI k)]) (n := 2) (Nat.le_of_ble_eq_true rfl)
  rw [lg_entry_eq]
  generalize (lg_sl ([.ref t, .int (nI k)]) ++ List.replicate (2 - (lg_sl ([.ref t, .int (nI k)])).length) Slot.unset).toArray = ls at hl ⊢
  have hl : lv_has ls 2 [(0, .ref t), (1, .int (nI k))] := hl
  refine lv_iload_n hx hb dJ1_charAt_3b067_0 rfl (lv_at hl 1 rfl) ?_
  refine lv_aload_n hx hb dJ1_charAt_3b067_1 rfl (lv_at hl 0 rfl) ?_
  refine va_tlen hx hb hE.2.2.2 hS (v := nI byt.length) rfl dJ1_charAt_3b067_2 ?_
  refine va_csv (post := fun _ => True) (va_runS (As := [.int (nI k), .int (nI byt.length)]) (rest := []) ⟨hx, hb, hml, hown, hts⟩ (xs_check l A k byt.length hk hn) (va_cwS (Ts := xWg) 2 hts (goodIn_app3 (xmem (by decide +kernel) rfl) (xmem (by decide +kernel) rfl) (xmem (by decide +kernel) rfl) (xw_good (xmem (by decide +kernel) rfl))) rfl rfl rfl ⟨by decide, by decide, by decide +kernel⟩ ⟨Nat.le_of_ble_eq_true rfl, Nat.le_of_ble_eq_true rfl⟩) ⟨xPc.blind (fun u U H hvm h => xJd.moved hvm h), fun U hU hW => ⟨rfl, by rw [hU]; exact hJ.moved hW.alike⟩⟩ rfl rfl hl.1 rfl (lv_room (Nat.le_of_ble_eq_true rfl)) dJ1_charAt_3b067_3 ⟨Nat.le_of_ble_eq_true rfl, Nat.le_of_ble_eq_true rfl⟩).run (fun _ => ?_)
  refine lv_aload_n hx hb dJ1_charAt_3b067_6 rfl (lv_at hl 0 rfl) ?_
  refine lv_iload_n hx hb dJ1_charAt_3b067_7 rfl (lv_at hl 1 rfl) ?_
  refine va_tb hx hb hE.2.2.2 hS (vp_in_nI hk hn) (v := .int (byt.getD k 0)) (by rw [nI_clamp (by omega)]) dJ1_charAt_3b067_8 ?_
  refine lv_sipush (v := 255) hx hb dJ1_charAt_3b067_9 (by decide) ?_
  refine lv_iand hx hb dJ1_charAt_3b067_12 ?_
  have hbk : byt.getD k 0 ∈ byt := by
    rw [List.getD_eq_getElem?_getD, List.getElem?_eq_getElem hk]
    exact List.getElem_mem hk
  refine lv_i2c (v := byt.getD k 0) hx hb dJ1_charAt_3b067_13 (xch (h7 _ hbk)) ?_
  refine W.zret hx hb hr ?_ (fun t ht hW => ⟨_, rfl, rfl, ht⟩) (fun q h => by cases h) dJ1_charAt_3b067_14
  have h8 := sc_nar (byt.getD k 0)
  have key : ∀ n : Nat, n < 128 → narrow .char (.int (nI n)) = .int (nI n) := by decide +kernel
  have hb8 := h7 _ hbk
  have hbb : byt.getD k 0 = nI (byt.getD k 0).toInt.toNat := by
    refine Int32.toInt_inj.mp ?_
    rw [nI_toInt (by omega)]
    omega
  rw [hbb]
  exact key _ (by omega)
set_option maxRecDepth 100000 in
theorem xs_length (l : Launch) (A : Nat → Prop) (a t : Nat) (byt : List Int32) (hn : byt.length < 2 ^ 31) : Met l yJ0_length_8abf5 (xw yJ0_length_8abf5 cJ0_length_8abf5 1 (some .int)) ({ frames := 1, cells := 0, slots := 0, locals := 30 }) (xPc [.ref a] (fun U H => xJd A U H ∧ xS1 a t byt A U H)) (vp_Si (fun r => r = nI byt.length)) 0 0 (fun _ => False) := by
  refine Met.ofW (cc := cJ0_length_8abf5) (maxL := 1) (ret := some .int) (by decide) rfl ?_
  intro p e s m args below meth c s₁ B hml hv
  obtain ⟨rfl, hJ, hE⟩ := hv
  have hx := B.exec
  have hb := B.bytes
  have hr := B.returns
  have hts := xw_in (atoms_spec (ws := xw yJ0_length_8abf5 cJ0_length_8abf5 1 (some .int)) B.pre)
  have hown : s.vm.findClass RJ0 = some m.cls := findClass_of_methodNamed B.named
  have hlocks := B.notSynchronized
  have hS : va_S A s.heap s.heap [] := va_S.rf
  have hl := lv_entry ([.ref a]) (n := 1) (Nat.le_of_ble_eq_true rfl)
  rw [lg_entry_eq]
  generalize (lg_sl ([.ref a]) ++ List.replicate (1 - (lg_sl ([.ref a])).length) Slot.unset).toArray = ls at hl ⊢
  have hl : lv_has ls 1 [(0, .ref a)] := hl
  refine lv_aload_n hx hb dJ0_length_8abf5_0 rfl (lv_at hl 0 rfl) ?_
  refine vk_getf hx hb hE.2.2.1 hS hown (hts (.fieldLink RJ0 9 "java/lang/String" "value" "[B") (xmem (by decide +kernel) rfl)) (fun _ h => h) dJ0_length_8abf5_1 ?_
  refine va_tlen hx hb hE.2.2.2 hS (v := nI byt.length) rfl dJ0_length_8abf5_4 ?_
  refine lv_aload_n hx hb dJ0_length_8abf5_5 rfl (lv_at hl 0 rfl) ?_
  refine vp_callSi (post := fun r => r = 0) (va_runV (C := RJ0) (As := []) (rest := [.int (nI byt.length)]) ⟨hx, hb, hml, hown, hts⟩ (xs_coder l A a t byt) (cwV (Ts := xWg) 0 hts (goodIn_V (xmem (by decide +kernel) rfl) (xmem (by decide +kernel) rfl) (xmem (by decide +kernel) rfl) (xmem (by decide +kernel) rfl) (xw_good (xmem (by decide +kernel) rfl))) rfl rfl rfl ⟨rfl, by decide, by decide, by decide +kernel⟩ ⟨Nat.le_of_ble_eq_true rfl, Nat.le_of_ble_eq_true rfl⟩) ⟨xPc.blind (fun u U H hvm h => ⟨h.1.moved hvm, h.2.moved hvm⟩), xO_recv hE.1 hS, fun U hU hW => ⟨rfl, by rw [hU]; exact ⟨hJ.moved hW.alike, hE.moved hW.alike⟩⟩⟩ rfl rfl hl.1 rfl (lv_room (Nat.le_of_ble_eq_true rfl)) dJ0_length_8abf5_6 ⟨Nat.le_of_ble_eq_true rfl, Nat.le_of_ble_eq_true rfl⟩).run (fun r hr0 => ?_)
  subst hr0
  refine lv_ishr hx hb dJ0_length_8abf5_9 ?_
  rw [sc_shr0 hn]
  exact W.iret hx hb hr (fun t ht hW => ⟨_, rfl, rfl, ht⟩) (fun q h => by cases h) dJ0_length_8abf5_10
set_option maxRecDepth 100000 in
theorem xs_charAt (l : Launch) (A : Nat → Prop) (a t : Nat) (byt : List Int32) (k : Nat) (hk : k < byt.length) (hn : byt.length < 2 ^ 31) (h7 : ∀ b ∈ byt, 0 ≤ b.toInt ∧ b.toInt < 128) : Met l yJ0_charAt_5068e (xw yJ0_charAt_5068e cJ0_charAt_5068e 2 (some .char)) ({ frames := 3, cells := 0, slots := 0, locals := 90 }) (xPc [.ref a, .int (nI k)] (fun U H => xJd A U H ∧ xS1 a t byt A U H)) (vp_Si (fun r => r = byt.getD k 0)) 0 0 (fun _ => False) := by
  refine Met.ofW (cc := cJ0_charAt_5068e) (maxL := 2) (ret := some .char) (by decide) rfl ?_
  intro p e s m args below meth c s₁ B hml hv
  obtain ⟨rfl, hJ, hE⟩ := hv
  have hx := B.exec
  have hb := B.bytes
  have hr := B.returns
  have hts := xw_in (atoms_spec (ws := xw yJ0_charAt_5068e cJ0_charAt_5068e 2 (some .char)) B.pre)
  have hown : s.vm.findClass RJ0 = some m.cls := findClass_of_methodNamed B.named
  have hlocks := B.notSynchronized
  have hS : va_S A s.heap s.heap [] := va_S.rf
  have hl := lv_entry ([.ref a, .int (nI k)]) (n := 2) (Nat.le_of_ble_eq_true rfl)
  rw [lg_entry_eq]
  generalize (lg_sl ([.ref a, .int (nI k)]) ++ List.replicate (2 - (lg_sl ([.ref a, .int (nI k)])).length) Slot.unset).toArray = ls at hl ⊢
  have hl : lv_has ls 2 [(0, .ref a), (1, .int (nI k))] := hl
  refine lv_aload_n hx hb dJ0_charAt_5068e_0 rfl (lv_at hl 0 rfl) ?_
  refine vp_callSi (post := fun r => r = 1) (va_runV (C := RJ0) (As := []) (rest := []) ⟨hx, hb, hml, hown, hts⟩ (xs_isLatin1 l A a t byt) (cwV (Ts := xWg) 0 hts (goodIn_V (xmem (by decide +kernel) rfl) (xmem (by decide +kernel) rfl) (xmem (by decide +kernel) rfl) (xmem (by decide +kernel) rfl) (xw_good (xmem (by decide +kernel) rfl))) rfl rfl rfl ⟨rfl, by decide, by decide, by decide +kernel⟩ ⟨Nat.le_of_ble_eq_true rfl, Nat.le_of_ble_eq_true rfl⟩) ⟨xPc.blind (fun u U H hvm h => ⟨h.1.moved hvm, h.2.moved hvm⟩), xO_recv hE.1 hS, fun U hU hW => ⟨rfl, by rw [hU]; exact ⟨hJ.moved hW.alike, hE.moved hW.alike⟩⟩⟩ rfl rfl hl.1 rfl (lv_room (Nat.le_of_ble_eq_true rfl)) dJ0_charAt_5068e_1 ⟨Nat.le_of_ble_eq_true rfl, Nat.le_of_ble_eq_true rfl⟩).run (fun r hr0 => ?_)
  subst hr0
  refine lv_if_eq (tgt := 16) hx hb dJ0_charAt_5068e_4 (by decide) (fun q => absurd q (by decide)) (fun _ => ?_)
  refine lv_aload_n hx hb dJ0_charAt_5068e_7 rfl (lv_at hl 0 rfl) ?_
  refine vk_getf hx hb hE.2.2.1 hS hown (hts (.fieldLink RJ0 9 "java/lang/String" "value" "[B") (xmem (by decide +kernel) rfl)) (fun _ h => h) dJ0_charAt_5068e_8 ?_
  refine lv_iload_n hx hb dJ0_charAt_5068e_11 rfl (lv_at hl 1 rfl) ?_
  refine vp_callSi (post := fun r => r = byt.getD k 0) (va_runS (As := [.ref t, .int (nI k)]) (rest := []) ⟨hx, hb, hml, hown, hts⟩ (xs_l1char l A a t byt k hk hn h7) (va_cwS (Ts := xWg) 2 hts (goodIn_app3 (xmem (by decide +kernel) rfl) (xmem (by decide +kernel) rfl) (xmem (by decide +kernel) rfl) (xw_good (xmem (by decide +kernel) rfl))) rfl rfl rfl ⟨by decide, by decide, by decide +kernel⟩ ⟨Nat.le_of_ble_eq_true rfl, Nat.le_of_ble_eq_true rfl⟩) ⟨xPc.blind (fun u U H hvm h => ⟨h.1.moved hvm, h.2.moved hvm⟩), fun U hU hW => ⟨rfl, by rw [hU]; exact ⟨hJ.moved hW.alike, hE.moved hW.alike⟩⟩⟩ rfl rfl hl.1 rfl (lv_room (Nat.le_of_ble_eq_true rfl)) dJ0_charAt_5068e_12 ⟨Nat.le_of_ble_eq_true rfl, Nat.le_of_ble_eq_true rfl⟩).run (fun r hr0 => ?_)
  subst hr0
  have hbk : byt.getD k 0 ∈ byt := by
    rw [List.getD_eq_getElem?_getD, List.getElem?_eq_getElem hk]
    exact List.getElem_mem hk
  refine W.zret hx hb hr ?_ (fun t ht hW => ⟨_, rfl, rfl, ht⟩) (fun q h => by cases h) dJ0_charAt_5068e_15
  have key : ∀ n : Nat, n < 128 → narrow .char (.int (nI n)) = .int (nI n) := by decide +kernel
  have hb8 := h7 _ hbk
  have hbb : byt.getD k 0 = nI (byt.getD k 0).toInt.toNat := by
    refine Int32.toInt_inj.mp ?_
    rw [nI_toInt (by omega)]
    omega
  rw [hbb]
  exact key _ (by omega)
