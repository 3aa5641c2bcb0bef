/-! runs -/
def xr (X : xS) : Nat → xMd → Nat → List Value → List Value → xH → Option (Option Value × xH)
  | 0, _, _, _, _, _ => none
  | n + 1, m, pc, ls, st, h => match xact X m pc ls st h with
    | none => none
    | some (.inl r) => some r
    | some (.inr (.inl (pc', ls', st', h'))) => xr X n m pc' ls' st' h'
    | some (.inr (.inr (m', l0, pc', ls', st', h0))) => match xr X n m' 0 l0 [] h0 with
      | none => none
      | some (v, h1) => xr X n m pc' ls' (v.toList ++ st') h1
theorem xr_up {X : xS} : ∀ (n : Nat) {m : xMd} {pc : Nat} {ls st : List Value} {h : xH} {r : Option Value × xH}, xr X n m pc ls st h = some r → xr X (n + 1) m pc ls st h = some r := by
  intro n
  induction n with
  | zero => intro m pc ls st h r H; cases H
  | succ n ih =>
    intro m pc ls st h r H
    rw [xr] at H ⊢
    cases hA : xact X m pc ls st h with
    | none => rw [hA] at H; cases H
    | some A =>
      rw [hA] at H
      obtain r0 | ⟨pc', ls', st', h'⟩ | ⟨m', l0, pc', ls', st', h0⟩ := A
      · exact H
      · exact ih H
      · dsimp only at H ⊢
        cases hB : xr X n m' 0 l0 [] h0 with
        | none => rw [hB] at H; cases H
        | some q =>
          obtain ⟨v, h1⟩ := q
          rw [hB] at H
          rw [ih hB]
          exact ih H
theorem xr_le {X : xS} {n k : Nat} (hk : n ≤ k) {m : xMd} {pc : Nat} {ls st : List Value} {h : xH} {r : Option Value × xH} (H : xr X n m pc ls st h = some r) : xr X k m pc ls st h = some r := by
  induction hk with
  | refl => exact H
  | step _ ih => exact xr_up _ ih
/-- what a method comes to, if it comes to an end -/
noncomputable def xR (X : xS) (m : xMd) (pc : Nat) (ls st : List Value) (h : xH) : Option (Option Value × xH) :=
  @dite _ (∃ r, ∃ n, xr X n m pc ls st h = some r) (Classical.propDecidable _) (fun H => some (Classical.choose H)) (fun _ => none)
theorem xR_iff {X : xS} {m : xMd} {pc : Nat} {ls st : List Value} {h : xH} {r : Option Value × xH} : xR X m pc ls st h = some r ↔ ∃ n, xr X n m pc ls st h = some r := by
  unfold xR
  by_cases H : ∃ r, ∃ n, xr X n m pc ls st h = some r
  · rw [dif_pos H]
    obtain ⟨n, hn⟩ := Classical.choose_spec H
    constructor
    · intro e
      cases e
      exact ⟨n, hn⟩
    · rintro ⟨k, hk⟩
      have h1 := xr_le (Nat.le_max_left n k) hn
      have h2 := xr_le (Nat.le_max_right n k) hk
      rw [h1] at h2
      exact h2
  · rw [dif_neg H]
    constructor
    · intro e
      cases e
    · rintro ⟨k, hk⟩
      exact absurd ⟨r, k, hk⟩ H
theorem xR_ext {X : xS} {m : xMd} {pc : Nat} {ls st : List Value} {h : xH} {o : Option (Option Value × xH)} (H : ∀ r, xR X m pc ls st h = some r ↔ o = some r) : xR X m pc ls st h = o := by
  cases ho : o with
  | some r => exact (H r).mpr ho
  | none =>
    cases hx : xR X m pc ls st h with
    | none => rfl
    | some r =>
      have := (H r).mp hx
      rw [ho] at this
      cases this
theorem xR_go {X : xS} {m : xMd} {pc : Nat} {ls st : List Value} {h : xH} {pc' : Nat} {ls' st' : List Value} {h' : xH} (H : xact X m pc ls st h = some (.inr (.inl (pc', ls', st', h')))) : xR X m pc ls st h = xR X m pc' ls' st' h' := by
  refine xR_ext fun r => ?_
  rw [xR_iff, xR_iff]
  constructor
  · rintro ⟨n, hn⟩
    cases n with
    | zero => cases hn
    | succ n =>
      rw [xr, H] at hn
      exact ⟨n, hn⟩
  · rintro ⟨n, hn⟩
    exact ⟨n + 1, by rw [xr, H]; exact hn⟩
theorem xR_ret {X : xS} {m : xMd} {pc : Nat} {ls st : List Value} {h : xH} {r : Option Value × xH} (H : xact X m pc ls st h = some (.inl r)) : xR X m pc ls st h = some r := by
  rw [xR_iff]
  exact ⟨1, by rw [xr, H]⟩
def xpv (v : Option Value) (st : List Value) : List Value := v.toList ++ st
theorem xpv_n (st : List Value) : xpv none st = st := rfl
theorem xpv_s (v : Value) (st : List Value) : xpv (some v) st = v :: st := rfl
def xbd (o : Option (Option Value × xH)) (K : Option Value → xH → Option (Option Value × xH)) : Option (Option Value × xH) := match o with
  | none => none
  | some (v, h) => K v h
theorem xbd_s (v : Option Value) (h : xH) (K : Option Value → xH → Option (Option Value × xH)) : xbd (some (v, h)) K = K v h := rfl
theorem xR_call {X : xS} {m : xMd} {pc : Nat} {ls st : List Value} {h : xH} {m' : xMd} {l0 : List Value} {pc' : Nat} {ls' st' : List Value} {h0 : xH} (H : xact X m pc ls st h = some (.inr (.inr (m', l0, pc', ls', st', h0)))) : xR X m pc ls st h = xbd (xR X m' 0 l0 [] h0) (fun v h1 => xR X m pc' ls' (xpv v st') h1) := by
  refine xR_ext fun r => ?_
  rw [xR_iff]
  constructor
  · rintro ⟨n, hn⟩
    cases n with
    | zero => cases hn
    | succ n =>
      rw [xr, H] at hn
      dsimp only at hn
      cases hB : xr X n m' 0 l0 [] h0 with
      | none => rw [hB] at hn; cases hn
      | some q =>
        obtain ⟨v, h1⟩ := q
        rw [hB] at hn
        rw [xR_iff.mpr ⟨n, hB⟩, xbd_s]
        exact xR_iff.mpr ⟨n, hn⟩
  · intro e
    cases hB : xR X m' 0 l0 [] h0 with
    | none => rw [hB] at e; cases e
    | some q =>
      obtain ⟨v, h1⟩ := q
      rw [hB, xbd_s] at e
      obtain ⟨n, hn⟩ := xR_iff.mp hB
      obtain ⟨k, hk⟩ := xR_iff.mp e
      refine ⟨max n k + 1, ?_⟩
      rw [xr, H]
      dsimp only
      rw [xr_le (Nat.le_max_left n k) hn]
      exact xr_le (Nat.le_max_right n k) hk
