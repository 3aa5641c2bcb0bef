/-! the heap as the program sees it: a LIBRARY at b, its plan at p, the places -/
theorem xrv_s (a : Nat) : xrv (some a) = .ref a := rfl
theorem xrv_n : xrv none = .null := rfl
theorem zI_2 : ¬ nI 2 = 0 := by decide
theorem zI_24 : ¬ nI 24 = 0 := by decide
theorem zI_1 : ¬ nI 1 = 0 := by decide
theorem xlt_i {x y : Int32} : x < y ↔ x.toInt < y.toInt := Int32.lt_iff_toInt_lt
theorem xeq_i {x y : Int32} : x = y ↔ x.toInt = y.toInt := Int32.toInt_inj.symm
theorem xti0 : (0 : Int32).toInt = 0 := Int32.toInt_zero
def xday (t : Int32) : Int32 := t - t / nI 24 * nI 24
/-- the kind of a place, by its class -/
def xSort (ci : Nat) (so : Int32) : Prop := (ci = 4 ∧ so = nI 1) ∨ (ci = 9 ∧ so = nI 2) ∨ (ci = 2 ∧ so = nI 3) ∨ (ci = 0 ∧ so = nI 4) ∨ (ci = 1 ∧ so = nI 5)
/-- FALL -/
def fallS (so d t : Int32) : Int32 :=
  if so = nI 4 then (if t - t / nI 2 * nI 2 = 0 then d / nI 2 else d - d / nI 2)
  else if so = nI 5 then nI 0
  else if so = nI 3 then (if nI 5 < xday t then (if xday t < nI 18 then d else nI 2 * d) else nI 2 * d)
  else d
/-- SUN -/
def sunS (so t : Int32) : Int32 := if so = nI 2 then (if xday t < nI 6 then nI 0 else if nI 17 < xday t then nI 0 else nI 1) else nI 0
def atS (x : Int32) : Int32 := if nI 9999 < x then nI 9999 else x
def xLB (X : xS) (h : xH) (b : Nat) (pv : Value) (hr : Int32) (d k a o : Nat → Int32) : Prop :=
  xget X h b = some (.inl (3, [pv, .int hr, .ref (b + 1), .ref (b + 2), .ref (b + 3), .ref (b + 4)])) ∧ xget X h (b + 1) = some (.inr ((0, 7), .inl d)) ∧ xget X h (b + 2) = some (.inr ((0, 7), .inl k)) ∧ xget X h (b + 3) = some (.inr ((0, 7), .inl a)) ∧ xget X h (b + 4) = some (.inr ((0, 7), .inl o)) ∧ 16 ≤ b
def xPB (X : xS) (h : xH) (p n m pl fr to : Nat) (g : Nat → Option Nat) (u v : Nat → Int32) : Prop :=
  xget X h p = some (.inl (5, [.ref pl, .int (nI n), .ref fr, .ref to, .int (nI m)])) ∧ xget X h pl = some (.inr ((4, 7), .inr g)) ∧ xget X h fr = some (.inr ((0, 4), .inl u)) ∧ xget X h to = some (.inr ((0, 4), .inl v)) ∧ n ≤ 7 ∧ m ≤ 4
def xGB (X : xS) (h : xH) (n : Nat) (g : Nat → Option Nat) (so dr : Nat → Int32) : Prop := ∀ s, s < n → ∃ q ci, g s = some q ∧ xget X h q = some (.inl (ci, [.int (nI s), .int (dr s)])) ∧ xSort ci (so s)
