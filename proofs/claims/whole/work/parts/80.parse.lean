/-! READING: the words of both sides -/
def runS (P : Nat → Bool) : Nat → Nat → Nat
  | 0, k => k
  | f + 1, k => if P k = true then runS P f (k + 1) else k
abbrev isB (c : Nat → Nat) (t k : Nat) : Prop := k < t ∧ (c k = 32 ∨ c k = 10)
abbrev isL (c : Nat → Nat) (t k : Nat) : Prop := k < t ∧ 97 ≤ c k ∧ c k ≤ 122
abbrev isF (c : Nat → Nat) (t k : Nat) : Prop := k < t ∧ 48 ≤ c k ∧ c k ≤ 57
def eBl (c : Nat → Nat) (t b : Nat) : Nat := runS (fun k => decide (isB c t k)) (t - b) b
def eLe (c : Nat → Nat) (t b : Nat) : Nat := runS (fun k => decide (isL c t k)) (t - b) b
def eFi (c : Nat → Nat) (t b : Nat) : Nat := runS (fun k => decide (isF c t k)) (t - b) b
abbrev pT := Nat × Nat × Nat × Nat
/-- form, first, behind, fault -/
def advF (c : Nat → Nat) (t b : Nat) : pT :=
  if eBl c t b < eLe c t (eBl c t b) then (1, eBl c t b, eLe c t (eBl c t b), 0)
  else if eBl c t b < eFi c t (eBl c t b) then (if 3 < eFi c t (eBl c t b) - eBl c t b then 4 else 2, eBl c t b, eFi c t (eBl c t b), 0)
  else if t ≤ eBl c t b then (0, eBl c t b, eBl c t b, 0)
  else (if c (eBl c t b) = 59 then 3 else 4, eBl c t b, eBl c t b + 1, 0)
def pFl (s : pT) : Nat := s.2.2.2
def advP (c : Nat → Nat) (t : Nat) (s : pT) : pT := if pFl s = 0 then advF c t s.2.2.1 else s
def failP (n : Nat) (s : pT) : pT := if pFl s = 0 then (s.1, s.2.1, s.2.2.1, n) else s
def numS (c : Nat → Nat) (f : Nat) : Nat → Nat
  | 0 => 0
  | k + 1 => numS c f k * 10 + (c (f + k) - 48)
def numV (c : Nat → Nat) (s : pT) : Nat := if s.1 = 2 then numS c s.2.1 (s.2.2.1 - s.2.1) else 0
def numP (c : Nat → Nat) (t lo hi : Nat) (s : pT) : pT := if s.1 = 2 then (if numV c s < lo ∨ hi < numV c s then failP 2 s else advP c t s) else failP 1 s
def endP (c : Nat → Nat) (t : Nat) (s : pT) : pT := if s.1 = 3 then advP c t s else failP 1 s
def isW (c : Nat → Nat) (w : List Nat) (s : pT) : Prop := s.1 = 1 ∧ s.2.2.1 - s.2.1 = w.length ∧ ∀ k, k < w.length → c (s.2.1 + k) = w.getD k 0
noncomputable def wB (c : Nat → Nat) (w : List Nat) (s : pT) : Bool := @decide (isW c w s) (Classical.propDecidable _)
theorem wB_t {c : Nat → Nat} {w : List Nat} {s : pT} : wB c w s = true ↔ isW c w s := by
  unfold wB
  exact @decide_eq_true_iff _ (Classical.propDecidable _)
theorem wB_f {c : Nat → Nat} {w : List Nat} {s : pT} (h : ¬ isW c w s) : wB c w s = false := by
  cases e : wB c w s with
  | true => exact absurd (wB_t.mp e) h
  | false => rfl
def wSpot : List Nat := [115, 112, 111, 116]
def wReader : List Nat := [114, 101, 97, 100, 101, 114]
def wOpen : List Nat := [111, 112, 101, 110]
def wWindow : List Nat := [119, 105, 110, 100, 111, 119]
def wHearth : List Nat := [104, 101, 97, 114, 116, 104]
def wCorner : List Nat := [99, 111, 114, 110, 101, 114]
def wGlass : List Nat := [103, 108, 97, 115, 115]
noncomputable def kindN (c : Nat → Nat) (s : pT) : Nat := if wB c wOpen s then 1 else if wB c wWindow s then 2 else if wB c wHearth s then 3 else if wB c wCorner s then 4 else if wB c wGlass s then 5 else 0
noncomputable def kindP (c : Nat → Nat) (t : Nat) (s : pT) : pT := if kindN c s = 0 then failP 1 s else advP c t s
/-- behind a spot's KIND, its DRAUGHT, its DUST, its FADED, its end -/
noncomputable def sp1 (c : Nat → Nat) (t : Nat) (s : pT) : pT := kindP c t s
noncomputable def sp2 (c : Nat → Nat) (t : Nat) (s : pT) : pT := numP c t 1 5 (sp1 c t s)
noncomputable def sp3 (c : Nat → Nat) (t : Nat) (s : pT) : pT := numP c t 0 99 (sp2 c t s)
noncomputable def sp4 (c : Nat → Nat) (t : Nat) (s : pT) : pT := numP c t 0 99 (sp3 c t s)
noncomputable def sp5 (c : Nat → Nat) (t : Nat) (s : pT) : pT := endP c t (sp4 c t s)
def dSp (f : Nat → Int32) (n kd v1 v2 v3 : Nat) : Nat → Int32 := upd (upd (upd (upd (upd (upd f (3 + n) (nI kd)) (10 + n) (nI v1)) (26 + n) (nI v2)) (33 + n) (nI n)) (40 + n) (nI v3)) 1 (nI (n + 1))
noncomputable def dSpot (c : Nat → Nat) (t : Nat) (s : pT) (n : Nat) (f : Nat → Int32) : Nat → Int32 := dSp f n (kindN c s) (numV c (sp1 c t s)) (numV c (sp2 c t s)) (numV c (sp3 c t s))
abbrev pD := pT × Nat × (Nat → Int32)
/-- one spot, the word behind it -/
noncomputable def spP (c : Nat → Nat) (t : Nat) (y : pD) : pD := if pFl (sp5 c t y.1) = 0 then (sp5 c t y.1, y.2.1 + 1, dSpot c t y.1 y.2.1 y.2.2) else (sp5 c t y.1, y.2.1, y.2.2)
noncomputable def spL (c : Nat → Nat) (t : Nat) : Nat → pD → pD
  | 0, y => y
  | k + 1, y => if pFl y.1 = 0 ∧ wB c wSpot y.1 = true then (if y.2.1 = 7 then (failP 3 y.1, y.2) else spL c t k (spP c t (advP c t y.1, y.2))) else y
noncomputable def rd1 (c : Nat → Nat) (t : Nat) (s : pT) : pT := numP c t 0 23 s
noncomputable def rd2 (c : Nat → Nat) (t : Nat) (s : pT) : pT := numP c t (numV c s) 23 (rd1 c t s)
noncomputable def rd3 (c : Nat → Nat) (t : Nat) (s : pT) : pT := endP c t (rd2 c t s)
def dRd (f : Nat → Int32) (m v1 v2 : Nat) : Nat → Int32 := upd (upd (upd f (17 + m) (nI v1)) (21 + m) (nI v2)) 2 (nI (m + 1))
noncomputable def rdP1 (c : Nat → Nat) (t : Nat) (y : pD) : pD := if pFl (rd3 c t y.1) = 0 then (rd3 c t y.1, y.2.1 + 1, dRd y.2.2 y.2.1 (numV c y.1) (numV c (rd1 c t y.1))) else (rd3 c t y.1, y.2.1, y.2.2)
noncomputable def rdL (c : Nat → Nat) (t : Nat) : Nat → pD → pD
  | 0, y => y
  | k + 1, y => if pFl y.1 = 0 ∧ wB c wReader y.1 = true then (if y.2.1 = 4 then (failP 3 y.1, y.2) else rdL c t k (rdP1 c t (advP c t y.1, y.2))) else y
/-! what does nothing behind a FAULT -/
theorem advP_n {c : Nat → Nat} {t : Nat} {s : pT} (h : ¬ pFl s = 0) : advP c t s = s := if_neg h
theorem failP_n {n : Nat} {s : pT} (h : ¬ pFl s = 0) : failP n s = s := if_neg h
theorem numP_n {c : Nat → Nat} {t lo hi : Nat} {s : pT} (h : ¬ pFl s = 0) : numP c t lo hi s = s := by
  unfold numP
  split
  · split
    · exact failP_n h
    · exact advP_n h
  · exact failP_n h
theorem endP_n {c : Nat → Nat} {t : Nat} {s : pT} (h : ¬ pFl s = 0) : endP c t s = s := by
  unfold endP
  split
  · exact advP_n h
  · exact failP_n h
theorem kindP_n {c : Nat → Nat} {t : Nat} {s : pT} (h : ¬ pFl s = 0) : kindP c t s = s := by
  unfold kindP
  split
  · exact failP_n h
  · exact advP_n h
theorem sp5_n {c : Nat → Nat} {t : Nat} {s : pT} (h : ¬ pFl s = 0) : sp5 c t s = s := by
  unfold sp5 sp4 sp3 sp2 sp1
  rw [kindP_n h, numP_n h, numP_n h, numP_n h, endP_n h]
theorem rd3_n {c : Nat → Nat} {t : Nat} {s : pT} (h : ¬ pFl s = 0) : rd3 c t s = s := by
  unfold rd3 rd2 rd1
  rw [numP_n h, numP_n h, endP_n h]
/-! the run of bytes -/
theorem run_ge (P : Nat → Bool) : ∀ f k, k ≤ runS P f k ∧ runS P f k ≤ k + f := by
  intro f
  induction f with
  | zero => intro k; exact ⟨Nat.le_refl _, Nat.le_refl _⟩
  | succ f ih =>
    intro k
    unfold runS
    split
    · have := ih (k + 1)
      omega
    · omega
theorem run_all (P : Nat → Bool) : ∀ f k j, k ≤ j → j < runS P f k → P j = true := by
  intro f
  induction f with
  | zero => intro k j h1 h2; unfold runS at h2; omega
  | succ f ih =>
    intro k j h1 h2
    unfold runS at h2
    split at h2
    · rename_i g
      by_cases e : j = k
      · rw [e]; exact g
      · exact ih (k + 1) j (by omega) h2
    · omega
theorem eBl_ge (c : Nat → Nat) (t b : Nat) : b ≤ eBl c t b ∧ eBl c t b ≤ b + (t - b) := run_ge _ _ _
theorem eLe_ge (c : Nat → Nat) (t b : Nat) : b ≤ eLe c t b ∧ eLe c t b ≤ b + (t - b) := run_ge _ _ _
theorem eFi_ge (c : Nat → Nat) (t b : Nat) : b ≤ eFi c t b ∧ eFi c t b ≤ b + (t - b) := run_ge _ _ _
theorem eLe_all {c : Nat → Nat} {t b j : Nat} (h1 : b ≤ j) (h2 : j < eLe c t b) : isL c t j := of_decide_eq_true (run_all (fun k => decide (isL c t k)) _ _ _ h1 h2)
theorem eFi_all {c : Nat → Nat} {t b j : Nat} (h1 : b ≤ j) (h2 : j < eFi c t b) : isF c t j := of_decide_eq_true (run_all (fun k => decide (isF c t k)) _ _ _ h1 h2)
theorem eBl_t {c : Nat → Nat} {t b : Nat} (h : isB c t b) : eBl c t b = eBl c t (b + 1) := by
  unfold eBl
  have h2 := h.1
  rw [show t - b = (t - (b + 1)) + 1 by omega]
  exact if_pos (decide_eq_true h)
theorem eBl_f {c : Nat → Nat} {t b : Nat} (h : ¬ isB c t b) : eBl c t b = b := by
  unfold eBl
  cases t - b with
  | zero => rfl
  | succ n => exact if_neg (fun e => h (of_decide_eq_true e))
theorem eLe_t {c : Nat → Nat} {t b : Nat} (h : isL c t b) : eLe c t b = eLe c t (b + 1) := by
  unfold eLe
  have h2 := h.1
  rw [show t - b = (t - (b + 1)) + 1 by omega]
  exact if_pos (decide_eq_true h)
theorem eLe_f {c : Nat → Nat} {t b : Nat} (h : ¬ isL c t b) : eLe c t b = b := by
  unfold eLe
  cases t - b with
  | zero => rfl
  | succ n => exact if_neg (fun e => h (of_decide_eq_true e))
theorem eFi_t {c : Nat → Nat} {t b : Nat} (h : isF c t b) : eFi c t b = eFi c t (b + 1) := by
  unfold eFi
  have h2 := h.1
  rw [show t - b = (t - (b + 1)) + 1 by omega]
  exact if_pos (decide_eq_true h)
theorem eFi_f {c : Nat → Nat} {t b : Nat} (h : ¬ isF c t b) : eFi c t b = b := by
  unfold eFi
  cases t - b with
  | zero => rfl
  | succ n => exact if_neg (fun e => h (of_decide_eq_true e))
/-- where a TOKEN stands -/
def pOk (c : Nat → Nat) (t : Nat) (s : pT) : Prop := s.2.1 ≤ s.2.2.1 ∧ s.2.2.1 ≤ t ∧ (s.1 = 2 → s.2.2.1 - s.2.1 ≤ 3 ∧ ∀ k, s.2.1 ≤ k → k < s.2.2.1 → 48 ≤ c k ∧ c k ≤ 57) ∧ (s.1 = 1 → ∀ k, s.2.1 ≤ k → k < s.2.2.1 → 97 ≤ c k ∧ c k ≤ 122) ∧ s.1 ≤ 4 ∧ pFl s ≤ 3
theorem advF_ok (c : Nat → Nat) (t b : Nat) (h : b ≤ t) : pOk c t (advF c t b) := by
  have h1 := eBl_ge c t b
  have h2 := eLe_ge c t (eBl c t b)
  have h3 := eFi_ge c t (eBl c t b)
  unfold advF
  split
  · refine ⟨?_, ?_, ?_, ?_, ?_, ?_⟩ <;> dsimp only [pFl]
    · omega
    · omega
    · intro e; omega
    · intro _ k k1 k2
      exact (eLe_all k1 k2).2
    · omega
    · omega
  · split
    · refine ⟨?_, ?_, ?_, ?_, ?_, ?_⟩ <;> dsimp only [pFl]
      · omega
      · omega
      · intro e
        refine ⟨?_, fun k k1 k2 => (eFi_all k1 k2).2⟩
        split at e <;> omega
      · intro e
        split at e <;> omega
      · split <;> omega
      · omega
    · split
      · refine ⟨?_, ?_, ?_, ?_, ?_, ?_⟩ <;> dsimp only [pFl]
        · omega
        · omega
        · intro e; omega
        · intro e; omega
        · omega
        · omega
      · refine ⟨?_, ?_, ?_, ?_, ?_, ?_⟩ <;> dsimp only [pFl]
        · omega
        · omega
        · intro e
          split at e <;> omega
        · intro e
          split at e <;> omega
        · split <;> omega
        · omega
theorem advP_ok {c : Nat → Nat} {t : Nat} {s : pT} (h : pOk c t s) : pOk c t (advP c t s) := by
  unfold advP
  split
  · exact advF_ok c t _ h.2.1
  · exact h
theorem failP_ok {c : Nat → Nat} {t n : Nat} {s : pT} (h : pOk c t s) (hn : n ≤ 3) : pOk c t (failP n s) := by
  unfold failP
  split
  · exact ⟨h.1, h.2.1, h.2.2.1, h.2.2.2.1, h.2.2.2.2.1, hn⟩
  · exact h
theorem numP_ok {c : Nat → Nat} {t lo hi : Nat} {s : pT} (h : pOk c t s) : pOk c t (numP c t lo hi s) := by
  unfold numP
  split
  · split
    · exact failP_ok h (by omega)
    · exact advP_ok h
  · exact failP_ok h (by omega)
theorem endP_ok {c : Nat → Nat} {t : Nat} {s : pT} (h : pOk c t s) : pOk c t (endP c t s) := by
  unfold endP
  split
  · exact advP_ok h
  · exact failP_ok h (by omega)
theorem kindP_ok {c : Nat → Nat} {t : Nat} {s : pT} (h : pOk c t s) : pOk c t (kindP c t s) := by
  unfold kindP
  split
  · exact failP_ok h (by omega)
  · exact advP_ok h
theorem sp5_ok {c : Nat → Nat} {t : Nat} {s : pT} (h : pOk c t s) : pOk c t (sp5 c t s) := endP_ok (numP_ok (numP_ok (numP_ok (kindP_ok h))))
theorem rd3_ok {c : Nat → Nat} {t : Nat} {s : pT} (h : pOk c t s) : pOk c t (rd3 c t s) := endP_ok (numP_ok (numP_ok h))
theorem numS_lt {c : Nat → Nat} {f : Nat} : ∀ k, k ≤ 3 → (∀ j, j < k → 48 ≤ c (f + j) ∧ c (f + j) ≤ 57) → numS c f k < 10 ^ k := by
  intro k
  induction k with
  | zero => intro _ _; exact Nat.one_pos
  | succ k ih =>
    intro hk h
    have h1 := ih (by omega) (fun j hj => h j (by omega))
    have h2 := h k (by omega)
    unfold numS
    rw [Nat.pow_succ]
    omega
theorem numV_lt {c : Nat → Nat} {t : Nat} {s : pT} (h : pOk c t s) : numV c s < 1000 := by
  unfold numV
  split
  · rename_i e
    obtain ⟨h1, h2⟩ := h.2.2.1 e
    have := numS_lt (c := c) (f := s.2.1) (s.2.2.1 - s.2.1) h1 (fun j hj => h2 _ (by omega) (by omega))
    have : 10 ^ (s.2.2.1 - s.2.1) ≤ 10 ^ 3 := Nat.pow_le_pow_right (by omega) h1
    omega
  · omega
