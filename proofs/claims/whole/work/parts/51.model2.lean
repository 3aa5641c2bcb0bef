/-! the reference: small methods -/
theorem pred7 : ∀ n, n ≤ 7 → (nI n - nI 1).toInt = (n : Int) - 1 := by decide
section XMP
variable {X : xS} {h : xH} {S : Nat → Int32} {nm : Int64} {A : Nat → Nat → Int32}
theorem m_isSpot (hM : xMB X h S nm A) {n : Nat} (hn : n ≤ 7) (hA : A 0 1 = nI n) (x : Int32) : xR X m_X12_isSpot 0 [.ref 169, .int x] [] h = some (some (.int (if x < 0 then nI 0 else if x < nI n then nI 1 else nI 0)), h) := by
  have hc := hM.1
  have a0 := hM.2.1
  have xl1 : ∀ K : Value → Option (Option Value × xH), xlK .iaload (some (.inr ((0, 54), .inl (A 0)))) (nI 1) K = K (.int (A 0 1)) := fun K => xl_i (by omega) (by omega)
  have q : xR X m_X12_in 0 [.int x, .int (nI 0), .int (nI n - nI 1)] [] h = some (some (.int (if x < 0 then nI 0 else if x < nI n then nI 1 else nI 0)), h) := by
    rw [m_in]
    by_cases c : x < 0
    · rw [if_pos (show x < nI 0 from c), if_pos c]
    · rw [if_neg (show ¬ x < nI 0 from c), if_neg c]
      by_cases c2 : x < nI n
      · rw [if_pos c2, if_neg]
        rw [xlt_i, nI_toInt (by omega)] at c2
        rw [xlt_i, pred7 n hn]
        omega
      · rw [if_neg c2, if_pos]
        rw [xlt_i, nI_toInt (by omega)] at c2
        rw [xlt_i, pred7 n hn]
        omega
  have e01 : ∀ b : Int32, (b = nI 0 ∨ b = nI 1) → b = 0 ∨ b = 1 := fun b hb => hb
  by_cases c : x < 0
  · rw [if_pos c] at q ⊢
    simp (disch := first | exact xnl_i _ | exact xnl_r _ | exact xnl_u _ | exact xnl_n | exact zI_2 | exact zI_24 | assumption | omega | (simp only [xset_len]; omega)) only [↓reduceIte, xbd_s, xpv_n, xpv_s, e_X12_isSpot_0, e_X12_isSpot_1, e_X12_isSpot_2, e_X12_isSpot_3, e_X12_isSpot_6, e_X12_isSpot_7, e_X12_isSpot_8, e_X12_isSpot_9, e_X12_isSpot_10, e_X12_isSpot_13, e_X12_isSpot_13_0, e_X12_isSpot_13_1, g_12_7_11, hc, a0, xl1, hA, q]
  · rw [if_neg c] at q ⊢
    by_cases c2 : x < nI n
    · rw [if_pos c2] at q ⊢
      simp (disch := first | exact xnl_i _ | exact xnl_r _ | exact xnl_u _ | exact xnl_n | exact zI_2 | exact zI_24 | assumption | omega | (simp only [xset_len]; omega)) only [↓reduceIte, xbd_s, xpv_n, xpv_s, e_X12_isSpot_0, e_X12_isSpot_1, e_X12_isSpot_2, e_X12_isSpot_3, e_X12_isSpot_6, e_X12_isSpot_7, e_X12_isSpot_8, e_X12_isSpot_9, e_X12_isSpot_10, e_X12_isSpot_13, e_X12_isSpot_13_0, e_X12_isSpot_13_1, g_12_7_11, hc, a0, xl1, hA, q]
    · rw [if_neg c2] at q ⊢
      simp (disch := first | exact xnl_i _ | exact xnl_r _ | exact xnl_u _ | exact xnl_n | exact zI_2 | exact zI_24 | assumption | omega | (simp only [xset_len]; omega)) only [↓reduceIte, xbd_s, xpv_n, xpv_s, e_X12_isSpot_0, e_X12_isSpot_1, e_X12_isSpot_2, e_X12_isSpot_3, e_X12_isSpot_6, e_X12_isSpot_7, e_X12_isSpot_8, e_X12_isSpot_9, e_X12_isSpot_10, e_X12_isSpot_13, e_X12_isSpot_13_0, e_X12_isSpot_13_1, g_12_7_11, hc, a0, xl1, hA, q]
theorem m_isLibrary (hM : xMB X h S nm A) : xR X m_X12_isLibrary 0 [.ref 169] [] h = some (some (.int (if A 0 0 = nI 1 then nI 1 else nI 0)), h) := by
  have hc := hM.1
  have a0 := hM.2.1
  have xl1 : ∀ K : Value → Option (Option Value × xH), xlK .iaload (some (.inr ((0, 54), .inl (A 0)))) (nI 0) K = K (.int (A 0 0)) := fun K => xl_i (by omega) (by omega)
  simp (disch := first | exact xnl_i _ | exact xnl_r _ | exact xnl_u _ | exact xnl_n | exact zI_2 | exact zI_24 | assumption | omega | (simp only [xset_len]; omega)) only [↓reduceIte, xbd_s, xpv_n, xpv_s, e_X12_isLibrary_0, e_X12_isLibrary_1, e_X12_isLibrary_4, e_X12_isLibrary_5, e_X12_isLibrary_6, e_X12_isLibrary_7, e_X12_isLibrary_10, e_X12_isLibrary_11, e_X12_isLibrary_14, e_X12_isLibrary_15, e_X12_isLibrary_15_0, e_X12_isLibrary_15_1, g_12_7_11, hc, a0, xl1]
  split
  all_goals rfl
theorem m_isRow (x : Int32) : xR X m_X12_isRow 0 [.int x] [] h = some (some (.int (if x < 0 then nI 0 else if x < nI 8 then nI 1 else nI 0)), h) := by
  have q : xR X m_X12_in 0 [.int x, .int (nI 0), .int (nI 7)] [] h = some (some (.int (if x < 0 then nI 0 else if x < nI 8 then nI 1 else nI 0)), h) := by
    have b7 : (nI 7).toInt = 7 := by decide
    have b8 : (nI 8).toInt = 8 := by decide
    rw [m_in]
    by_cases c : x < 0
    · rw [if_pos (show x < nI 0 from c), if_pos c]
    · rw [if_neg (show ¬ x < nI 0 from c), if_neg c]
      by_cases c2 : x < nI 8
      · rw [if_pos c2, if_neg]
        rw [xlt_i] at c2 ⊢
        omega
      · rw [if_neg c2, if_pos]
        rw [xlt_i] at c2 ⊢
        omega
  by_cases c : x < 0
  · rw [if_pos c] at q ⊢
    simp (disch := first | exact xnl_i _ | exact xnl_r _ | exact xnl_u _ | exact xnl_n | exact zI_2 | exact zI_24 | assumption | omega | (simp only [xset_len]; omega)) only [↓reduceIte, xbd_s, xpv_n, xpv_s, e_X12_isRow_0, e_X12_isRow_1, e_X12_isRow_2, e_X12_isRow_4, e_X12_isRow_7, e_X12_isRow_7_0, e_X12_isRow_7_1, q]
  · rw [if_neg c] at q ⊢
    by_cases c2 : x < nI 8
    · rw [if_pos c2] at q ⊢
      simp (disch := first | exact xnl_i _ | exact xnl_r _ | exact xnl_u _ | exact xnl_n | exact zI_2 | exact zI_24 | assumption | omega | (simp only [xset_len]; omega)) only [↓reduceIte, xbd_s, xpv_n, xpv_s, e_X12_isRow_0, e_X12_isRow_1, e_X12_isRow_2, e_X12_isRow_4, e_X12_isRow_7, e_X12_isRow_7_0, e_X12_isRow_7_1, q]
    · rw [if_neg c2] at q ⊢
      simp (disch := first | exact xnl_i _ | exact xnl_r _ | exact xnl_u _ | exact xnl_n | exact zI_2 | exact zI_24 | assumption | omega | (simp only [xset_len]; omega)) only [↓reduceIte, xbd_s, xpv_n, xpv_s, e_X12_isRow_0, e_X12_isRow_1, e_X12_isRow_2, e_X12_isRow_4, e_X12_isRow_7, e_X12_isRow_7_0, e_X12_isRow_7_1, q]
theorem m_status (hM : xMB X h S nm A) : xR X m_X12_status 0 [.ref 169] [] h = some (some (.int (S 1)), h) := by
  have hc := hM.1
  simp (disch := first | exact xnl_i _ | exact xnl_r _ | exact xnl_u _ | exact xnl_n | exact zI_2 | exact zI_24 | assumption | omega | (simp only [xset_len]; omega)) only [↓reduceIte, xbd_s, xpv_n, xpv_s, e_X12_status_0, e_X12_status_1, e_X12_status_4, g_12_42_11, hc]
theorem m_fault (hM : xMB X h S nm A) : xR X m_X12_fault 0 [.ref 169] [] h = some (some (.int (S 8)), h) := by
  have hc := hM.1
  simp (disch := first | exact xnl_i _ | exact xnl_r _ | exact xnl_u _ | exact xnl_n | exact zI_2 | exact zI_24 | assumption | omega | (simp only [xset_len]; omega)) only [↓reduceIte, xbd_s, xpv_n, xpv_s, e_X12_fault_0, e_X12_fault_1, e_X12_fault_4, g_12_139_11, hc]
theorem m_fallOf (hM : xMB X h S nm A) {s so : Nat} (hs : s < 7) (hso : A 0 (3 + s) = nI so) (h1 : 1 ≤ so) (h2 : so ≤ 5) (t : Int32) : xR X m_X12_fallOf 0 [.ref 169, .int (nI s), .int t] [] h = some (some (.int (fallS (nI so) (A 0 (10 + s)) t)), h) := by
  have q := m_fallBy hM hs hso h1 h2 t (A 0 (10 + s))
  have hc := hM.1
  have a0 := hM.2.1
  simp (disch := first | exact xnl_i _ | exact xnl_r _ | exact xnl_u _ | exact xnl_n | exact zI_2 | exact zI_24 | assumption | omega | (simp only [xset_len]; omega)) only [↓reduceIte, xbd_s, xpv_n, xpv_s, e_X12_fallOf_0, e_X12_fallOf_1, e_X12_fallOf_2, e_X12_fallOf_3, e_X12_fallOf_4, e_X12_fallOf_7, e_X12_fallOf_9, e_X12_fallOf_10, e_X12_fallOf_11, e_X12_fallOf_12, c_X12_fallOf_146_11_0, e_X12_fallOf_15, g_12_7_11, hc, a0, nI_add, xl_i, q]
/-- after a change of one scalar -/
theorem xMB_S {S' : Nat → Int32} {nm' : Int64} (hM : xMB X h S nm A) : xMB X (xset h 169 (xMc S' nm')) S' nm' A := by
  obtain ⟨c, a0, a1, a2, a3, a4, a5, a6, a7, a8, a9⟩ := hM
  have lv := xg_live (by omega) c
  exact ⟨xg_same (by omega) lv, (xg_ne (by omega) (by omega)).trans a0, (xg_ne (by omega) (by omega)).trans a1, (xg_ne (by omega) (by omega)).trans a2, (xg_ne (by omega) (by omega)).trans a3, (xg_ne (by omega) (by omega)).trans a4, (xg_ne (by omega) (by omega)).trans a5, (xg_ne (by omega) (by omega)).trans a6, (xg_ne (by omega) (by omega)).trans a7, (xg_ne (by omega) (by omega)).trans a8, (xg_ne (by omega) (by omega)).trans a9⟩
theorem m_found (hM : xMB X h S nm A) (x : Int32) : xR X m_X12_found 0 [.ref 169, .int x] [] h = some (some (.int (-1000010 - x)), xset h 169 (xMc (upd S 1 x) nm)) := by
  have hc := hM.1
  simp (disch := first | exact xnl_i _ | exact xnl_r _ | exact xnl_u _ | exact xnl_n | exact zI_2 | exact zI_24 | assumption | omega | (simp only [xset_len]; omega)) only [↓reduceIte, xbd_s, xpv_n, xpv_s, e_X12_found_0, e_X12_found_1, e_X12_found_2, e_X12_found_5, e_X12_found_7, e_X12_found_8, e_X12_found_9, p_12_42_11, hc]
  rfl
theorem m_well (hM : xMB X h S nm A) (x : Int32) : xR X m_X12_well 0 [.ref 169, .int x] [] h = some (some (.int x), xset h 169 (xMc (upd S 1 (nI 0)) nm)) := by
  have hc := hM.1
  simp (disch := first | exact xnl_i _ | exact xnl_r _ | exact xnl_u _ | exact xnl_n | exact zI_2 | exact zI_24 | assumption | omega | (simp only [xset_len]; omega)) only [↓reduceIte, xbd_s, xpv_n, xpv_s, e_X12_well_0, e_X12_well_1, e_X12_well_2, e_X12_well_5, e_X12_well_6, p_12_42_11, hc]
  rfl
end XMP
