/-! sizes of cells stand still -/
def xkd (e : xE) : Nat × Nat := (xesz e, match e with
  | .inl (ci, _) => ci + 1
  | .inr _ => 0)
def xKp (h h' : xH) : Prop := h.length ≤ h'.length ∧ ∀ k, k < h.length → (h'[k]?).map xkd = (h[k]?).map xkd
theorem xKp.refl (h : xH) : xKp h h := ⟨Nat.le_refl _, fun _ _ => rfl⟩
theorem xKp.trans {a b c : xH} (h1 : xKp a b) (h2 : xKp b c) : xKp a c := ⟨Nat.le_trans h1.1 h2.1, fun k hk => (h2.2 k (Nat.lt_of_lt_of_le hk h1.1)).trans (h1.2 k hk)⟩
theorem xKp.app (h g : xH) : xKp h (h ++ g) := ⟨by rw [List.length_append]; omega, fun k hk => by rw [List.getElem?_append_left hk]⟩
section XKP
variable {X : xS} {m : xMd} {pc pc' len : Nat} {i : ClassFile.Instr} {al st al' st' : List Value} {h h' : xH}
theorem xKp.set {a : Nat} {e0 e : xE} (h0 : xget X h a = some e0) (ha : 16 ≤ a) (he : xkd e = xkd e0) : xKp h (xset h a e) := by
  refine ⟨by rw [xset_len]; exact Nat.le_refl _, fun k hk => ?_⟩
  rw [xget_16 ha] at h0
  unfold xset
  by_cases c : a - 16 = k
  · subst c
    rw [List.getElem?_set_self hk, h0]
    show some (xkd e) = some (xkd e0)
    rw [he]
  · rw [List.getElem?_set_ne c]
theorem xprim_kp {k : Nat} (hA : xprim X k pc al st h = some (.inr (.inl (pc', al', st', h')))) : xKp h h' := by
  unfold xprim at hA
  split at hA
  case h_4 =>
    split at hA
    · rename_i n0 f n1 g hga hgb
      split at hA
      · rename_i hc
        obtain ⟨-, -, -, rfl⟩ := xgo_inv hA
        exact xKp.set hgb hc.2.1 rfl
      · cases hA
    · cases hA
  all_goals (repeat' split at hA)
  all_goals first | (obtain ⟨-, -, -, rfl⟩ := xgo_inv hA; exact xKp.refl _) | (cases hA; done)
theorem xop_kp (hA : xop X m pc len i al st h = some (.inr (.inl (pc', al', st', h')))) : xKp h h' := by
  cases i <;> unfold xop at hA <;> try (cases hA; done)
  all_goals dsimp only at hA
  case putfield j =>
    split at hA
    · split at hA
      · rename_i e0 hv
        obtain ⟨rfl, rfl, rfl, rfl⟩ := xgo_inv hA
        obtain ⟨ci, fs, q, h1, h2, h3, h4, h5, rfl⟩ := xpf_inv hv
        exact xKp.set h1 (xget_obj h1).1 (by unfold xkd xesz; simp)
      · cases hA
    · cases hA
  case iastore =>
    split at hA
    · rename_i v j a r
      by_cases ha : a < 16
      · rw [if_pos ha] at hA
        cases hA
      · rw [if_neg ha] at hA
        have ha6 : 16 ≤ a := Nat.not_lt.mp ha
        split at hA
        · rename_i e0 he
          obtain ⟨rfl, rfl, rfl, rfl⟩ := xgo_inv hA
          rcases xas_inv he with ⟨t, n, f, x, y, h1, rfl, h3, h4, rfl⟩ | ⟨t, n, g, b, ci, h1, rfl, h3, h4, h5, h6, rfl⟩
          · exact xKp.set h1 ha6 rfl
          · exact xKp.set h1 ha6 rfl
        · cases hA
    · cases hA
  case bastore =>
    split at hA
    · rename_i v j a r
      by_cases ha : a < 16
      · rw [if_pos ha] at hA
        cases hA
      · rw [if_neg ha] at hA
        have ha6 : 16 ≤ a := Nat.not_lt.mp ha
        split at hA
        · rename_i e0 he
          obtain ⟨rfl, rfl, rfl, rfl⟩ := xgo_inv hA
          rcases xas_inv he with ⟨t, n, f, x, y, h1, rfl, h3, h4, rfl⟩ | ⟨t, n, g, b, ci, h1, rfl, h3, h4, h5, h6, rfl⟩
          · exact xKp.set h1 ha6 rfl
          · exact xKp.set h1 ha6 rfl
        · cases hA
    · cases hA
  case aastore =>
    split at hA
    · rename_i v j a r
      by_cases ha : a < 16
      · rw [if_pos ha] at hA
        cases hA
      · rw [if_neg ha] at hA
        have ha6 : 16 ≤ a := Nat.not_lt.mp ha
        split at hA
        · rename_i e0 he
          obtain ⟨rfl, rfl, rfl, rfl⟩ := xgo_inv hA
          rcases xas_inv he with ⟨t, n, f, x, y, h1, rfl, h3, h4, rfl⟩ | ⟨t, n, g, b, ci, h1, rfl, h3, h4, h5, h6, rfl⟩
          · exact xKp.set h1 ha6 rfl
          · exact xKp.set h1 ha6 rfl
        · cases hA
    · cases hA
  all_goals (repeat' split at hA)
  all_goals first | (cases hA; done) | (obtain ⟨-, -, -, rfl⟩ := xgo_inv hA; first | exact xKp.refl _ | exact xKp.app _ _) | (obtain ⟨-, -, -, rfl⟩ := xjmp_inv hA; exact xKp.refl _) | exact (xcal_ng hA).elim | exact (xcalO_ng hA).elim | exact xprim_kp hA
theorem xact_kp (hA : xact X m pc al st h = some (.inr (.inl (pc', al', st', h')))) : xKp h h' := by
  unfold xact at hA
  split at hA
  · unfold xstep at hA
    split at hA
    · split at hA
      all_goals first | exact xop_kp hA | ((repeat' split at hA) <;> first | (obtain ⟨-, -, -, rfl⟩ := xgo_inv hA; exact xKp.refl _) | (cases hA; done))
    · cases hA
  · cases hA
theorem xr_kp {X : xS} : ∀ (n : Nat) {m : xMd} {pc : Nat} {al st : List Value} {h : xH} {v : Option Value} {h' : xH}, xr X n m pc al st h = some (v, h') → xKp h h' := by
  intro n
  induction n with
  | zero => intro m pc al st h v h' H; cases H
  | succ n ih =>
    intro m pc al st h v h' H
    rw [xr] at H
    cases hA : xact X m pc al st h with
    | none => rw [hA] at H; cases H
    | some A =>
      rw [hA] at H
      obtain r0 | ⟨pc1, al1, st1, h1⟩ | ⟨m1, l0, pc1, al1, st1, h1⟩ := A
      · dsimp only at H
        cases H
        rw [(xact_retI hA).1]
        exact xKp.refl _
      · exact (xact_kp hA).trans (ih H)
      · dsimp only at H
        have e1 : h1 = h := (xact_call hA).2.2.1
        cases hB : xr X n m1 0 l0 [] h1 with
        | none => rw [hB] at H; cases H
        | some q =>
          obtain ⟨v1, h2⟩ := q
          rw [hB] at H
          rw [← e1]
          exact (ih hB).trans (ih H)
end XKP
def xmx (B : Nat) (h : xH) : Prop := ∀ (k : Nat) (e : xE), h[k]? = some e → xesz e ≤ B
theorem xmx_sl {B : Nat} : ∀ {h : xH}, xmx B h → xsl h ≤ B * h.length := by
  intro h
  induction h with
  | nil => intro _; exact Nat.zero_le _
  | cons e h ih =>
    intro H
    have h1 : xesz e ≤ B := H 0 e rfl
    have h2 := ih (fun k e' hk => H (k + 1) e' hk)
    show xesz e + xsl h ≤ B * (h.length + 1)
    rw [Nat.mul_add, Nat.mul_one]
    omega
theorem xR_kp {X : xS} {m : xMd} {pc : Nat} {ls st : List Value} {h h' : xH} {v : Option Value} (H : xR X m pc ls st h = some (v, h')) : xKp h h' := by
  obtain ⟨n, hn⟩ := xR_iff.mp H
  exact xr_kp n hn
theorem xmx_kp {B : Nat} {h h' : xH} (H : xmx B h) (hk : xKp h h') (hn : ∀ (k : Nat) (e : xE), h.length ≤ k → h'[k]? = some e → xesz e ≤ B) : xmx B h' := by
  intro k e he
  by_cases c : k < h.length
  · have q := hk.2 k c
    rw [he] at q
    cases q2 : h[k]? with
    | none => rw [q2] at q; cases q
    | some e0 =>
      rw [q2] at q
      have q3 : xesz e = xesz e0 := by
        injection q with q
        exact congrArg Prod.fst q
      rw [q3]
      exact H k e0 q2
  · exact hn k e (Nat.not_lt.mp c) he
theorem xmx_same {B : Nat} {h h' : xH} (H : xmx B h) (hk : xKp h h') (hl : h'.length = h.length) : xmx B h' := by
  refine xmx_kp H hk ?_
  intro k e h1 h2
  rw [List.getElem?_eq_none (by omega)] at h2
  cases h2
theorem xR_obj {X : xS} {m : xMd} {pc : Nat} {ls st : List Value} {h h' : xH} {v : Option Value} (H : xR X m pc ls st h = some (v, h')) {a ci : Nat} {fs : List Value} (ha : 16 ≤ a) (hc : xget X h a = some (.inl (ci, fs))) : ∃ fs', xget X h' a = some (.inl (ci, fs')) := by
  have k := xR_kp H
  have lv := xg_live ha hc
  rw [xget_16 ha] at hc ⊢
  have q := k.2 (a - 16) (by omega)
  rw [hc] at q
  cases q2 : h'[a - 16]? with
  | none => rw [q2] at q; cases q
  | some e =>
    rw [q2] at q
    injection q with q
    have q3 := congrArg Prod.snd q
    rcases e with ⟨ci', fs'⟩ | e
    · have q4 : ci' + 1 = ci + 1 := q3
      have q5 : ci' = ci := by omega
      subst q5
      exact ⟨fs', rfl⟩
    · have q4 : 0 = ci + 1 := q3
      omega
