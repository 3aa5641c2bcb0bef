/-! SOUND: one instruction, all of it; growth; returns -/
section XST
variable {p : Program} {l : Launch} {e : Env} {R : Room} {s : State} {mid : MethodId} {args : Array Value} {below : List Frame} {meth : Method} {c : Code} {H : Heap} {locs : List Loc} {cells slots : Nat} {Q : State → Prop}
variable {B : Nat} {pre adV : Nat → Nat} {tA : Nat → ClassId} {D : va_G} {X : xS} {m : xMd} {pc pc' len : Nat} {i : ClassFile.Instr} {al st al' st' : List Value} {h h' : xH} {rl : Array Slot}
theorem xlits_lo : ∀ q ∈ xlits, q.2.2 < 16 := by decide
theorem xcls8 (hi : xcls i = 8) : i = .l2i := by
  cases i <;> first | rfl | (revert hi; decide) | (exact absurd hi (by intro h; cases h))
set_option maxHeartbeats 4000000 in
theorem xact_sound (hC : xC p R s mid args meth c m) (hG : xG B pre adV tA D X s s.heap) (hR : xRel B pre tA D h H) (hS : va_S (xA0 B) s.heap H locs) (hl : lv_has rl m.2.2.2.1 (xlv B pre 0 al)) (hal : al.length = m.2.2.2.1)
    (hA : xact X m pc al st h = some (.inr (.inl (pc', al', st', h')))) (hcr : cells + h'.length ≤ R.cells + h.length) (hsr : slots + xsl h' ≤ R.slots + xsl h)
    (k : xN p l e R s mid args below meth c cells slots Q B pre tA D m.2.2.2.1 h pc' al' st' h') : W p l e R s mid args below meth c H locs cells slots Q (F0 mid pc rl (st.map (xv B pre))) := by
  unfold xact at hA
  split at hA
  · rename_i i len hd
    unfold xstep at hA
    split at hA
    · rename_i hln
      have kk : ∀ {pc2 : Nat} {al2 st2 : List Value}, pc2 = pc' → al2 = al' → st2 = st' → h = h' → xK p l e R s mid args below meth c H locs cells slots Q B pre m.2.2.2.1 pc2 al2 st2 := by
        intro pc2 al2 st2 e1 e2 e3 e4 rl' h1 h2
        subst e1; subst e2; subst e3; subst e4
        exact k _ _ _ _ _ hR hS h1 h2 rfl rfl
      split at hA
      · split at hA
        · rename_i v hv
          obtain ⟨e1, e2, e3, e4⟩ := xgo_inv hA
          refine xp_con hC hl hal hd hln hv (fun j hj => ?_) (fun j hj => ?_) (fun j hj => ?_) (kk e1 e2 e3 e4)
          · subst hj
            rcases xldc_ok _ _ _ hv with ⟨z, hz, hw⟩ | ⟨h7, q, tx, hz, hm⟩
            · exact Or.inl ⟨z, hz, hC.2.2.2.2.1 _ hw⟩
            · refine Or.inr ⟨q, tx, hz, ?_⟩
              rw [h7, xa_lo (xlits_lo _ hm)]
              exact hG.2.2.2.2.2.1 _ hm
          · subst hj
            obtain ⟨z, hz, hw⟩ := xldcw_ok _ _ _ hv
            exact ⟨z, hz, hC.2.2.2.2.1 _ hw⟩
          · subst hj
            obtain ⟨z, hz, hw⟩ := xldc2_ok _ _ _ hv
            exact ⟨z, hz, hC.2.2.2.2.1 _ hw⟩
        · cases hA
      · split at hA
        · rename_i j t hj
          split at hA
          · rename_i v hv
            split at hA
            · rename_i ht
              obtain ⟨e1, e2, e3, e4⟩ := xgo_inv hA
              exact xp_loa hC hl hal hd hln hj hv ht (kk e1 e2 e3 e4)
            · cases hA
          · cases hA
        · cases hA
      · split at hA
        · rename_i j t hj
          split at hA
          · rename_i v r
            split at hA
            · rename_i ht
              split at hA
              · rename_i ls' hs
                obtain ⟨e1, e2, e3, e4⟩ := xgo_inv hA
                exact xp_sto hC hl hal hd hln hj ht hs (kk e1 e2 e3 e4)
              · cases hA
            · cases hA
          · cases hA
        · cases hA
      · split at hA
        · rename_i y x r
          split at hA
          · rename_i v hv
            obtain ⟨e1, e2, e3, e4⟩ := xgo_inv hA
            exact xp_bin hC hl hal hd hln hv (kk e1 e2 e3 e4)
          · cases hA
        · cases hA
      · split at hA
        · rename_i x r
          split at hA
          · rename_i v hv
            obtain ⟨e1, e2, e3, e4⟩ := xgo_inv hA
            exact xp_un hC hl hal hd hln hv (kk e1 e2 e3 e4)
          · cases hA
        · cases hA
      · split at hA
        · rename_i y x r
          split at hA
          · rename_i v hv
            obtain ⟨e1, e2, e3, e4⟩ := xgo_inv hA
            exact xp_lbin hC hl hal hd hln hv (kk e1 e2 e3 e4)
          · cases hA
        · cases hA
      · split at hA
        · rename_i y x r
          split at hA
          · rename_i v hv
            obtain ⟨e1, e2, e3, e4⟩ := xgo_inv hA
            exact xp_lsh hC hl hal hd hln hv (kk e1 e2 e3 e4)
          · cases hA
        · cases hA
      · rename_i hi
        have hi8 := xcls8 hi
        subst hi8
        split at hA
        · rename_i x r
          dsimp only [xlen] at hln
          subst hln
          obtain ⟨e1, e2, e3, e4⟩ := xgo_inv hA
          exact xp_l2i hC hl hal hd (kk e1 e2 e3 e4)
        · cases hA
      · exact xstep_op hC hG hR hS hl hal hd hln hA hcr hsr k
    · cases hA
  · cases hA
/-- a method's end: what it answers, what it leaves -/
def xQ (B : Nat) (pre : Nat → Nat) (tA : Nat → ClassId) (D : va_G) (v : Option Value) (h' : xH) : Array Value → State → Outcome → State → Prop := fun _ st o t => o = .returned (v.map (xv B pre)) ∧ xRel B pre tA D h' t.heap ∧ va_F (xA0 B) st t
theorem xgo_ni {a : Nat} {b c : List Value} {d : xH} {q : Option Value × xH} (h : xgo a b c d = some (.inl q)) : False := by
  unfold xgo at h
  cases h
theorem xjmp_ni {a : Nat} {o : Int} {b c : List Value} {d : xH} {q : Option Value × xH} (h : xjmp a o b c d = some (.inl q)) : False := by
  unfold xjmp at h
  split at h
  · exact xgo_ni h
  · cases h
theorem xcal_ni {m m' : xMd} {as : List Value} {pc : Nat} {ls st : List Value} {h : xH} {q : Option Value × xH} (H : xcal m m' as pc ls st h = some (.inl q)) : False := by
  unfold xcal at H
  split at H
  · cases H
  · cases H
theorem xcalO_ni {X : xS} {m : xMd} {n : Nat} {T : Nat → Option xMd} {pc : Nat} {ls st : List Value} {h : xH} {q : Option Value × xH} (H : xcalO X m n T pc ls st h = some (.inl q)) : False := by
  unfold xcalO at H
  repeat' split at H
  all_goals first | exact xcal_ni H | cases H
theorem xprim_ni {X : xS} {k pc : Nat} {ls st : List Value} {h : xH} {q : Option Value × xH} (H : xprim X k pc ls st h = some (.inl q)) : False := by
  unfold xprim at H
  repeat' split at H
  all_goals first | exact xgo_ni H | cases H
def xRetR (m : xMd) (i : ClassFile.Instr) (st : List Value) (v : Option Value) : Prop := (i = .ireturn ∧ ∃ x, st = [.int x] ∧ v = some (.int x) ∧ (m.2.2.2.2.1 = some .int ∨ (m.2.2.2.2.1 = some .boolean ∧ (x = 0 ∨ x = 1)))) ∨ (i = .areturn ∧ ∃ w, st = [w] ∧ v = some w ∧ xrty m.2.2.2.2.1 = true ∧ xknd w = 2) ∨ (i = .return_ ∧ st = [] ∧ v = none ∧ m.2.2.2.2.1 = none)
theorem xop_ret {v : Option Value} (hA : xop X m pc len i al st h = some (.inl (v, h'))) : h' = h ∧ xRetR m i st v := by
  cases i <;> unfold xop at hA <;> try (cases hA; done)
  all_goals dsimp only at hA
  case ireturn =>
    split at hA
    · split at hA
      · rename_i hc
        cases hA
        exact ⟨rfl, Or.inl ⟨rfl, _, rfl, rfl, hc⟩⟩
      · cases hA
    · cases hA
  case areturn =>
    split at hA
    · split at hA
      · rename_i hc
        cases hA
        exact ⟨rfl, Or.inr (Or.inl ⟨rfl, _, rfl, rfl, hc⟩)⟩
      · cases hA
    · cases hA
  case return_ =>
    split at hA
    · split at hA
      · rename_i hc
        cases hA
        exact ⟨rfl, Or.inr (Or.inr ⟨rfl, rfl, rfl, hc⟩)⟩
      · cases hA
    · cases hA
  all_goals exfalso
  all_goals (repeat' split at hA)
  all_goals first | (cases hA; done) | exact xgo_ni hA | exact xjmp_ni hA | exact xcal_ni hA | exact xcalO_ni hA | exact xprim_ni hA
theorem xact_retI {v : Option Value} (hA : xact X m pc al st h = some (.inl (v, h'))) : h' = h ∧ ∃ i, decode m.2.2.1 pc = .ok (i, 1) ∧ xRetR m i st v := by
  unfold xact at hA
  split at hA
  · rename_i i len hd
    unfold xstep at hA
    split at hA
    · rename_i hln
      split at hA
      all_goals try (exfalso; (repeat' split at hA) <;> first | (cases hA; done) | exact xgo_ni hA)
      obtain ⟨h1, h2⟩ := xop_ret hA
      refine ⟨h1, i, ?_, h2⟩
      rcases h2 with ⟨rfl, -⟩ | ⟨rfl, -⟩ | ⟨rfl, -⟩ <;> (dsimp only [xlen] at hln; subst hln; exact hd)
    · cases hA
  · cases hA
theorem xact_ret (hC : xC p R s mid args meth c m) (hlk : meth.locks = false) (hrt : meth.sig.returnType = m.2.2.2.2.1) (hR : xRel B pre tA D h H) (hS : va_S (xA0 B) s.heap H locs) {v : Option Value}
    (hA : xact X m pc al st h = some (.inl (v, h'))) : W p l e R s mid args below meth c H locs cells slots (MQ below (xQ B pre tA D v h') args s cells slots (xA0 B)) (F0 mid pc rl (st.map (xv B pre))) := by
  obtain ⟨rfl, i, hd, hr⟩ := xact_retI hA
  have hx := hC.1
  have hb := hC.2.1
  rcases hr with ⟨rfl, x, rfl, rfl, hr⟩ | ⟨rfl, w, rfl, rfl, hr, hw⟩ | ⟨rfl, rfl, rfl, hr⟩
  · rcases hr with hr | ⟨hr, h01⟩
    · exact W.iret hx hb (hrt.trans hr) (fun t ht hW => ⟨rfl, by rw [ht]; exact hR, hS.F ht⟩) hS.2.2 hd hlk
    · exact W.zret hx hb (hrt.trans hr) (by rcases h01 with rfl | rfl <;> rfl) (fun t ht hW => ⟨rfl, by rw [ht]; exact hR, hS.F ht⟩) hS.2.2 hd hlk
  · cases hm : m.2.2.2.2.1 with
    | none => rw [hm] at hr; cases hr
    | some rt =>
      refine W.aret hx hb (hrt.trans hm) ?_ ?_ (fun t ht hW => ⟨rfl, by rw [ht]; exact hR, hS.F ht⟩) hS.2.2 hd hlk
      · rw [hm] at hr
        cases rt <;> first | (cases hr; done) | exact Or.inl ⟨_, rfl⟩ | exact Or.inr ⟨_, rfl⟩
      · cases w <;> first | (cases hw; done) | exact Or.inl rfl | exact Or.inr ⟨_, rfl⟩
  · exact W.vret hx hb (hrt.trans hr) (fun t ht hW => ⟨rfl, by rw [ht]; exact hR, hS.F ht⟩) hS.2.2 hd hlk
/-- the heap only grows -/
def xLe (h h' : xH) : Prop := h.length ≤ h'.length ∧ xsl h ≤ xsl h'
theorem xLe.refl (h : xH) : xLe h h := ⟨Nat.le_refl _, Nat.le_refl _⟩
theorem xLe.trans {a b c : xH} (h1 : xLe a b) (h2 : xLe b c) : xLe a c := ⟨Nat.le_trans h1.1 h2.1, Nat.le_trans h1.2 h2.2⟩
theorem xLe.app (h g : xH) : xLe h (h ++ g) := ⟨by rw [List.length_append]; omega, by rw [xsl_app]; omega⟩
theorem xLe.set {a : Nat} {e0 e : xE} (h0 : xget X h a = some e0) (ha : 16 ≤ a) (he : xesz e = xesz e0) : xLe h (xset h a e) := ⟨by rw [xset_len]; exact Nat.le_refl _, by rw [xset_sl h0 ha he]; exact Nat.le_refl _⟩
theorem xprim_le {k : Nat} (hA : xprim X k pc al st h = some (.inr (.inl (pc', al', st', h')))) : xLe h h' := by
  unfold xprim at hA
  split at hA
  case h_4 =>
    split at hA
    · rename_i n0 f n1 g hga hgb
      split at hA
      · rename_i hc
        obtain ⟨-, -, -, rfl⟩ := xgo_inv hA
        exact xLe.set hgb hc.2.1 rfl
      · cases hA
    · cases hA
  all_goals (repeat' split at hA)
  all_goals first | (obtain ⟨-, -, -, rfl⟩ := xgo_inv hA; exact xLe.refl _) | (cases hA; done)
theorem xop_le (hA : xop X m pc len i al st h = some (.inr (.inl (pc', al', st', h')))) : xLe h h' := by
  cases i <;> unfold xop at hA <;> try (cases hA; done)
  all_goals dsimp only at hA
  case putfield j =>
    split at hA
    · split at hA
      · rename_i e0 hv
        obtain ⟨rfl, rfl, rfl, rfl⟩ := xgo_inv hA
        obtain ⟨ci, fs, q, h1, h2, h3, h4, h5, rfl⟩ := xpf_inv hv
        exact xLe.set h1 (xget_obj h1).1 (by unfold xesz; simp)
      · cases hA
    · cases hA
  case iastore =>
    split at hA
    · rename_i v j a r
      by_cases ha : a < 16
      · rw [if_pos ha] at hA
        cases hA
      · rw [if_neg ha] at hA
        have ha6 : 16 ≤ a := Nat.not_lt.mp ha
        split at hA
        · rename_i e0 he
          obtain ⟨rfl, rfl, rfl, rfl⟩ := xgo_inv hA
          rcases xas_inv he with ⟨t, n, f, x, y, h1, rfl, h3, h4, rfl⟩ | ⟨t, n, g, b, ci, h1, rfl, h3, h4, h5, h6, rfl⟩
          · exact xLe.set h1 ha6 rfl
          · exact xLe.set h1 ha6 rfl
        · cases hA
    · cases hA
  case bastore =>
    split at hA
    · rename_i v j a r
      by_cases ha : a < 16
      · rw [if_pos ha] at hA
        cases hA
      · rw [if_neg ha] at hA
        have ha6 : 16 ≤ a := Nat.not_lt.mp ha
        split at hA
        · rename_i e0 he
          obtain ⟨rfl, rfl, rfl, rfl⟩ := xgo_inv hA
          rcases xas_inv he with ⟨t, n, f, x, y, h1, rfl, h3, h4, rfl⟩ | ⟨t, n, g, b, ci, h1, rfl, h3, h4, h5, h6, rfl⟩
          · exact xLe.set h1 ha6 rfl
          · exact xLe.set h1 ha6 rfl
        · cases hA
    · cases hA
  case aastore =>
    split at hA
    · rename_i v j a r
      by_cases ha : a < 16
      · rw [if_pos ha] at hA
        cases hA
      · rw [if_neg ha] at hA
        have ha6 : 16 ≤ a := Nat.not_lt.mp ha
        split at hA
        · rename_i e0 he
          obtain ⟨rfl, rfl, rfl, rfl⟩ := xgo_inv hA
          rcases xas_inv he with ⟨t, n, f, x, y, h1, rfl, h3, h4, rfl⟩ | ⟨t, n, g, b, ci, h1, rfl, h3, h4, h5, h6, rfl⟩
          · exact xLe.set h1 ha6 rfl
          · exact xLe.set h1 ha6 rfl
        · cases hA
    · cases hA
  all_goals (repeat' split at hA)
  all_goals first | (cases hA; done) | (obtain ⟨-, -, -, rfl⟩ := xgo_inv hA; first | exact xLe.refl _ | exact xLe.app _ _) | (obtain ⟨-, -, -, rfl⟩ := xjmp_inv hA; exact xLe.refl _) | exact (xcal_ng hA).elim | exact (xcalO_ng hA).elim | exact xprim_le hA
theorem xact_le (hA : xact X m pc al st h = some (.inr (.inl (pc', al', st', h')))) : xLe h h' := by
  unfold xact at hA
  split at hA
  · unfold xstep at hA
    split at hA
    · split at hA
      all_goals first | exact xop_le hA | ((repeat' split at hA) <;> first | (obtain ⟨-, -, -, rfl⟩ := xgo_inv hA; exact xLe.refl _) | (cases hA; done))
    · cases hA
  · cases hA
end XST
