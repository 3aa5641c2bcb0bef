/-! reading and writing the x heap; small ints -/
theorem xb_toInt {x : Int32} (h : ¬ x < 0) : ∃ n, n < 2 ^ 31 ∧ x = nI n := by
  refine ⟨x.toInt.toNat, ?_, ?_⟩
  · have := Int32.toInt_lt x
    rw [Int32.lt_iff_toInt_lt, Int32.toInt_zero] at h
    omega
  · rw [Int32.lt_iff_toInt_lt, Int32.toInt_zero] at h
    have h2 := Int32.toInt_lt x
    rw [← Int32.toInt_inj, nI_toInt (by omega)]
    omega
theorem xin_nI {k n : Nat} (h : k < n) (hn : k < 2 ^ 31) : xin (nI k) n = true := by
  unfold xin
  rw [nI_clamp hn, decide_eq_true (nI_pos hn), decide_eq_true h]
  rfl
section XAR
variable {X : xS} {h : xH} {a b t n k : Nat} {f : Nat → Int32} {g : Nat → Option Nat} {e : xE}
theorem xl_i {K : Value → Option (Option Value × xH)} (h1 : k < n) (h2 : k < 2 ^ 31) : xlK .iaload (some (.inr ((0, n), .inl f))) (nI k) K = K (.int (f k)) := by
  unfold xlK xal
  dsimp only
  rw [if_pos ⟨xin_nI h1 h2, Or.inl ⟨rfl, rfl⟩⟩, nI_clamp h2]
theorem xl_b {K : Value → Option (Option Value × xH)} (h1 : k < n) (h2 : k < 2 ^ 31) : xlK .baload (some (.inr ((1, n), .inl f))) (nI k) K = K (.int (f k)) := by
  unfold xlK xal
  dsimp only
  rw [if_pos ⟨xin_nI h1 h2, Or.inr ⟨rfl, Or.inl rfl⟩⟩, nI_clamp h2]
theorem xl_z {K : Value → Option (Option Value × xH)} (h1 : k < n) (h2 : k < 2 ^ 31) : xlK .baload (some (.inr ((2, n), .inl f))) (nI k) K = K (.int (f k)) := by
  unfold xlK xal
  dsimp only
  rw [if_pos ⟨xin_nI h1 h2, Or.inr ⟨rfl, Or.inr rfl⟩⟩, nI_clamp h2]
theorem xl_a {K : Value → Option (Option Value × xH)} (h1 : k < n) (h2 : k < 2 ^ 31) (h3 : 3 ≤ t ∧ t ≤ 5) : xlK .aaload (some (.inr ((t, n), .inr g))) (nI k) K = K (xrv (g k)) := by
  unfold xlK xal
  dsimp only
  rw [if_pos ⟨xin_nI h1 h2, rfl, h3⟩, nI_clamp h2]
theorem xs_i {x : Int32} {kd : Nat → Option Nat} {K : xE → Option (Option Value × xH)} (h1 : k < n) (h2 : k < 2 ^ 31) (h3 : 16 ≤ a) : xsK .iastore (some (.inr ((0, n), .inl f))) a (nI k) (.int x) kd K = K (.inr ((0, n), .inl (upd f k x))) := by
  unfold xsK xas
  rw [if_neg (show ¬ a < 16 by omega)]
  dsimp only
  rw [if_pos (xin_nI h1 h2), if_pos ⟨rfl, rfl⟩, nI_clamp h2]
theorem xs_b {x : Int32} {kd : Nat → Option Nat} {K : xE → Option (Option Value × xH)} (h1 : k < n) (h2 : k < 2 ^ 31) (h3 : 16 ≤ a) : xsK .bastore (some (.inr ((1, n), .inl f))) a (nI k) (.int x) kd K = K (.inr ((1, n), .inl (upd f k x.toInt8.toInt32))) := by
  unfold xsK xas
  rw [if_neg (show ¬ a < 16 by omega)]
  dsimp only
  rw [if_pos (xin_nI h1 h2), if_neg (fun q => nomatch q.1), if_pos ⟨rfl, rfl⟩, nI_clamp h2]
theorem xs_z {x : Int32} {kd : Nat → Option Nat} {K : xE → Option (Option Value × xH)} (h1 : k < n) (h2 : k < 2 ^ 31) (h3 : 16 ≤ a) (hx : x = 0 ∨ x = 1) : xsK .bastore (some (.inr ((2, n), .inl f))) a (nI k) (.int x) kd K = K (.inr ((2, n), .inl (upd f k x))) := by
  unfold xsK xas
  rw [if_neg (show ¬ a < 16 by omega)]
  dsimp only
  rw [if_pos (xin_nI h1 h2), if_neg (fun q => nomatch q.1), if_neg (fun q => by cases q.2), if_pos ⟨rfl, rfl, hx⟩, nI_clamp h2]
theorem xs_a {ci : Nat} {fs : List Value} {kd : Nat → Option Nat} {K : xE → Option (Option Value × xH)} (h1 : k < n) (h2 : k < 2 ^ 31) (h3 : 16 ≤ a) (h4 : kd b = some ci) (h5 : xelm t ci = true) : xsK .aastore (some (.inr ((t, n), .inr g))) a (nI k) (.ref b) kd K = K (.inr ((t, n), .inr (fun j => if j = k then some b else g j))) := by
  unfold xsK xas
  rw [if_neg (show ¬ a < 16 by omega)]
  dsimp only
  rw [h4]
  dsimp only
  rw [if_pos ⟨xin_nI h1 h2, rfl, h5⟩, nI_clamp h2]
theorem xn_K {x : (Nat → Int32) ⊕ (Nat → Option Nat)} {K : Value → Option (Option Value × xH)} (h1 : t ≤ 5) : xnK (some (.inr ((t, n), x))) K = K (.int (nI n)) := by
  unfold xnK
  dsimp only
  rw [if_pos h1]
  rfl
theorem xg_same (h1 : 16 ≤ a) (h2 : a < h.length + 16) : xget X (xset h a e) a = some e := by
  unfold xget xset
  rw [if_neg (by omega), if_neg (by omega), List.getElem?_set_self (by omega)]
theorem xg_ne (h1 : 16 ≤ a) (h3 : a ≠ b) : xget X (xset h a e) b = xget X h b := by
  unfold xget xset
  by_cases h0 : b = 0
  · rw [if_pos h0, if_pos h0]
  by_cases h4 : b < 16
  · rw [if_neg h0, if_neg h0, if_pos h4, if_pos h4]
  · rw [if_neg h0, if_neg h0, if_neg h4, if_neg h4, List.getElem?_set_ne (by omega)]
theorem xg_live {c : xE} (h0 : 16 ≤ a) (hc : xget X h a = some c) : a < h.length + 16 := by
  unfold xget at hc
  rw [if_neg (by omega), if_neg (by omega)] at hc
  have := (List.getElem?_eq_some_iff.mp hc).1
  omega
theorem xg_app {h' : xH} (h2 : b < h.length + 16) : xget X (h ++ h') b = xget X h b := by
  unfold xget
  by_cases h0 : b = 0
  · rw [if_pos h0, if_pos h0]
  by_cases h4 : b < 16
  · rw [if_neg h0, if_neg h0, if_pos h4, if_pos h4]
  · rw [if_neg h0, if_neg h0, if_neg h4, if_neg h4, List.getElem?_append_left (by omega)]
theorem xg_new {h' : xH} (k : Nat) : xget X (h ++ h') (h.length + 16 + k) = h'[k]? := by
  unfold xget
  rw [if_neg (by omega), if_neg (by omega), List.getElem?_append_right (by omega)]
  congr 1
  omega
end XAR
