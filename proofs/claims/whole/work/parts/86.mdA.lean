/-! READING, the reference: tokens -/
def pn (g : Nat → Nat) : Nat → Nat
  | 0 => 0
  | k + 1 => pn g k * 256 + g k
theorem pn_inj (g g' : Nat → Nat) : ∀ k j, (∀ i, i < k → 0 < g i ∧ g i < 256) → (∀ i, i < j → 0 < g' i ∧ g' i < 256) → pn g k = pn g' j → k = j ∧ ∀ i, i < k → g i = g' i := by
  intro k
  induction k with
  | zero =>
    intro j _ h2 e
    cases j with
    | zero => exact ⟨rfl, fun i hi => by omega⟩
    | succ j =>
      have h := h2 j (by omega)
      unfold pn at e
      omega
  | succ k ih =>
    intro j h1 h2 e
    cases j with
    | zero =>
      have h := h1 k (by omega)
      unfold pn at e
      omega
    | succ j =>
      have h := h1 k (by omega)
      have h' := h2 j (by omega)
      unfold pn at e
      have e1 : g k = g' j := by omega
      have e2 : pn g k = pn g' j := by omega
      obtain ⟨i1, i2⟩ := ih j (fun i hi => h1 i (by omega)) (fun i hi => h2 i (by omega)) e2
      subst i1
      refine ⟨rfl, ?_⟩
      intro i hi
      by_cases c : i = k
      · rw [c]; exact e1
      · exact i2 i (by omega)
theorem pn_lt (g : Nat → Nat) : ∀ k, (∀ i, i < k → g i < 256) → pn g k < 256 ^ k := by
  intro k
  induction k with
  | zero => intro _; exact Nat.one_pos
  | succ k ih =>
    intro h
    have h1 := ih (fun i hi => h i (by omega))
    have h2 := h k (by omega)
    unfold pn
    rw [Nat.pow_succ]
    omega
def pk (c : Nat → Nat) (f : Nat) : Nat → Int64
  | 0 => 0
  | k + 1 => if k < 8 then (pk c f k <<< ((nI 8).toInt64 &&& 63)) ||| (nI (c (f + k))).toInt64 else 0
theorem i64_nI {b : Nat} (hb : b < 2 ^ 31) : (nI b).toInt64 = Int64.ofNat b := by
  rw [← Int64.toInt_inj, Int32.toInt_toInt64, nI_toInt hb, Int64.toInt_ofNat_of_lt (by omega)]
theorem shl_or {x b : Nat} (hx : x < 2 ^ 56) (hb : b < 256) : (Int64.ofNat x <<< ((nI 8).toInt64 &&& 63)) ||| (nI b).toInt64 = Int64.ofNat (x * 256 + b) := by
  rw [show (nI 8).toInt64 &&& 63 = 8 by decide, i64_nI (by omega), ← Int64.toBitVec_inj]
  have e1 : (Int64.ofNat x <<< (8 : Int64) ||| Int64.ofNat b).toBitVec = (BitVec.ofNat 64 x <<< ((8#64).smod 64#64)) ||| BitVec.ofNat 64 b := rfl
  have e2 : (Int64.ofNat (x * 256 + b)).toBitVec = BitVec.ofNat 64 (x * 256 + b) := rfl
  rw [e1, e2]
  refine BitVec.eq_of_toNat_eq ?_
  rw [BitVec.toNat_or, BitVec.shiftLeft_eq', show ((8#64).smod 64#64).toNat = 8 by decide, BitVec.toNat_shiftLeft, BitVec.toNat_ofNat, BitVec.toNat_ofNat, BitVec.toNat_ofNat, Nat.mod_eq_of_lt (show x < 2 ^ 64 by omega), Nat.mod_eq_of_lt (show b < 2 ^ 64 by omega), Nat.mod_eq_of_lt (show x * 256 + b < 2 ^ 64 by omega), Nat.shiftLeft_eq, Nat.mod_eq_of_lt (show x * 2 ^ 8 < 2 ^ 64 by omega)]
  have := Nat.shiftLeft_add_eq_or_of_lt (i := 8) (b := b) (by omega) x
  rw [Nat.shiftLeft_eq] at this
  omega
theorem pk_pn (c : Nat → Nat) (f : Nat) : ∀ k, k ≤ 8 → (∀ i, i < k → c (f + i) < 256) → pk c f k = Int64.ofNat (pn (fun i => c (f + i)) k) := by
  intro k
  induction k with
  | zero => intro _ _; rfl
  | succ k ih =>
    intro hk h
    have h1 := ih (by omega) (fun i hi => h i (by omega))
    have h2 := pn_lt (fun i => c (f + i)) k (fun i hi => h i (by omega))
    have h3 : 256 ^ k ≤ 256 ^ 7 := Nat.pow_le_pow_right (by omega) (by omega)
    unfold pk pn
    rw [if_pos (by omega), h1, shl_or (by omega) (h k (by omega))]
/-- the reference's name of a word -/
def wL (w : List Nat) : Int64 := Int64.ofNat (pn (fun i => w.getD i 0) w.length)
theorem pk_w {c : Nat → Nat} {f k : Nat} {w : List Nat} (h : ∀ i, i < k → 97 ≤ c (f + i) ∧ c (f + i) ≤ 122) (hw : w.length ≤ 7) (hw0 : 0 < w.length) (hw2 : ∀ i, i < w.length → 0 < w.getD i 0 ∧ w.getD i 0 < 128) : pk c f k = wL w ↔ (k = w.length ∧ ∀ i, i < w.length → c (f + i) = w.getD i 0) := by
  have b2 := pn_lt (fun i => w.getD i 0) w.length (fun i hi => by have := hw2 i hi; omega)
  have b3 : 256 ^ w.length ≤ 256 ^ 7 := Nat.pow_le_pow_right (by omega) hw
  have b4 : 0 < pn (fun i => w.getD i 0) w.length := by
    obtain ⟨j, hj⟩ := Nat.exists_eq_add_of_le' hw0
    have := hw2 j (by omega)
    rw [hj]
    unfold pn
    omega
  by_cases c8 : k ≤ 7
  · rw [pk_pn c f k (by omega) (fun i hi => by have := h i hi; omega)]
    have b5 := pn_lt (fun i => c (f + i)) k (fun i hi => by have := h i hi; omega)
    have b6 : 256 ^ k ≤ 256 ^ 7 := Nat.pow_le_pow_right (by omega) c8
    unfold wL
    constructor
    · intro e
      have := congrArg Int64.toInt e
      rw [Int64.toInt_ofNat_of_lt (by omega), Int64.toInt_ofNat_of_lt (by omega)] at this
      obtain ⟨i1, i2⟩ := pn_inj (fun i => c (f + i)) (fun i => w.getD i 0) k w.length (fun i hi => by have := h i hi; omega) (fun i hi => by have := hw2 i hi; omega) (by omega)
      exact ⟨i1, fun i hi => i2 i (by omega)⟩
    · intro ⟨e1, e2⟩
      subst e1
      congr 1
      have : ∀ j, j ≤ w.length → pn (fun i => c (f + i)) j = pn (fun i => w.getD i 0) j := by
        intro j
        induction j with
        | zero => intro _; rfl
        | succ j ih =>
          intro hj
          unfold pn
          rw [ih (by omega), e2 j (by omega)]
      exact this _ (Nat.le_refl _)
  · constructor
    · intro e
      exfalso
      by_cases c9 : k = 8
      · subst c9
        rw [pk_pn c f 8 (by omega) (fun i hi => by have := h i hi; omega)] at e
        have g0 : ∀ j, j ≤ 7 → 256 ^ j ≤ pn (fun i => c (f + i)) (j + 1) := by
          intro j
          induction j with
          | zero =>
            intro _
            have := h 0 (by omega)
            show 1 ≤ 0 * 256 + c (f + 0)
            omega
          | succ j ih =>
            intro hj
            have i1 := ih (by omega)
            have e3 : pn (fun i => c (f + i)) (j + 1 + 1) = pn (fun i => c (f + i)) (j + 1) * 256 + c (f + (j + 1)) := rfl
            rw [e3, Nat.pow_succ]
            omega
        have g1 : 256 ^ 7 ≤ pn (fun i => c (f + i)) 8 := g0 7 (by omega)
        have hb := congrArg Int64.toInt e
        have l6 : ∀ j, j ≤ 8 → 255 * pn (fun i => c (f + i)) j + 122 ≤ 122 * 256 ^ j := by
          intro j
          induction j with
          | zero => intro _; show 255 * 0 + 122 ≤ 122 * 1; omega
          | succ j ih =>
            intro hj
            have i1 := ih (by omega)
            have hc := h j (by omega)
            have e3 : pn (fun i => c (f + i)) (j + 1) = pn (fun i => c (f + i)) j * 256 + c (f + j) := rfl
            rw [e3, Nat.pow_succ]
            omega
        have l8 := l6 8 (by omega)
        rw [Int64.toInt_ofNat_of_lt (by omega), show wL w = Int64.ofNat (pn (fun i => w.getD i 0) w.length) from rfl, Int64.toInt_ofNat_of_lt (by omega)] at hb
        omega
      · obtain ⟨j, hj⟩ := Nat.exists_eq_add_of_le' (show 1 ≤ k by omega)
        have e0 : pk c f k = 0 := by
          rw [hj]
          unfold pk
          exact if_neg (by omega)
        rw [e0] at e
        have hb := congrArg Int64.toInt e
        rw [show wL w = Int64.ofNat (pn (fun i => w.getD i 0) w.length) from rfl, Int64.toInt_ofNat_of_lt (by omega)] at hb
        have z : (0 : Int64).toInt = 0 := by decide
        omega
    · intro ⟨e1, _⟩
      omega
