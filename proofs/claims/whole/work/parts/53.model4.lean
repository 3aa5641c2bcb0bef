/-! the reference: sunOf, isSet, drop, set -/
section XMR
variable {X : xS} {h : xH} {S : Nat → Int32} {nm : Int64} {A : Nat → Nat → Int32}
theorem m_sunOf (hM : xMB X h S nm A) {s so : Nat} (hs : s < 7) (hso : A 0 (3 + s) = nI so) (t : Int32) : xR X m_X12_sunOf 0 [.ref 169, .int (nI s), .int t] [] h = some (some (.int (sunS (nI so) t)), h) := by
  have hc := hM.1
  have a0 := hM.2.1
  unfold sunS
  by_cases c : nI so = nI 2
  · rw [if_pos c]
    by_cases c1 : xday t < nI 6
    · have q := fun hh : xH => m_inF (X := X) (h := hh) (x := xday t) (lo := nI 6) (hi := nI 17) (Or.inl c1)
      rw [if_pos c1]
      unfold xday at q
      simp (disch := first | exact xnl_i _ | exact xnl_r _ | exact xnl_u _ | exact xnl_n | exact zI_2 | exact zI_24 | assumption | omega | (simp only [xset_len]; omega)) only [↓reduceIte, xbd_s, xpv_n, xpv_s, e_X12_sunOf_0, e_X12_sunOf_1, e_X12_sunOf_4, e_X12_sunOf_5, e_X12_sunOf_6, e_X12_sunOf_7, e_X12_sunOf_8, e_X12_sunOf_9, e_X12_sunOf_12, e_X12_sunOf_13, e_X12_sunOf_15, e_X12_sunOf_16, e_X12_sunOf_18, e_X12_sunOf_20, e_X12_sunOf_23, e_X12_sunOf_26, e_X12_sunOf_27, e_X12_sunOf_30, e_X12_sunOf_31, g_12_7_11, hc, a0, nI_add, xl_i, hso, if_pos c, q]
    · by_cases c2 : nI 17 < xday t
      · have q := fun hh : xH => m_inF (X := X) (h := hh) (x := xday t) (lo := nI 6) (hi := nI 17) (Or.inr c2)
        rw [if_neg c1, if_pos c2]
        unfold xday at q
        simp (disch := first | exact xnl_i _ | exact xnl_r _ | exact xnl_u _ | exact xnl_n | exact zI_2 | exact zI_24 | assumption | omega | (simp only [xset_len]; omega)) only [↓reduceIte, xbd_s, xpv_n, xpv_s, e_X12_sunOf_0, e_X12_sunOf_1, e_X12_sunOf_4, e_X12_sunOf_5, e_X12_sunOf_6, e_X12_sunOf_7, e_X12_sunOf_8, e_X12_sunOf_9, e_X12_sunOf_12, e_X12_sunOf_13, e_X12_sunOf_15, e_X12_sunOf_16, e_X12_sunOf_18, e_X12_sunOf_20, e_X12_sunOf_23, e_X12_sunOf_26, e_X12_sunOf_27, e_X12_sunOf_30, e_X12_sunOf_31, g_12_7_11, hc, a0, nI_add, xl_i, hso, if_pos c, q]
      · have q := fun hh : xH => m_inT (X := X) (h := hh) (x := xday t) (lo := nI 6) (hi := nI 17) c1 c2
        rw [if_neg c1, if_neg c2]
        unfold xday at q
        simp (disch := first | exact xnl_i _ | exact xnl_r _ | exact xnl_u _ | exact xnl_n | exact zI_2 | exact zI_24 | assumption | omega | (simp only [xset_len]; omega)) only [↓reduceIte, xbd_s, xpv_n, xpv_s, e_X12_sunOf_0, e_X12_sunOf_1, e_X12_sunOf_4, e_X12_sunOf_5, e_X12_sunOf_6, e_X12_sunOf_7, e_X12_sunOf_8, e_X12_sunOf_9, e_X12_sunOf_12, e_X12_sunOf_13, e_X12_sunOf_15, e_X12_sunOf_16, e_X12_sunOf_18, e_X12_sunOf_20, e_X12_sunOf_23, e_X12_sunOf_26, e_X12_sunOf_27, e_X12_sunOf_30, e_X12_sunOf_31, g_12_7_11, hc, a0, nI_add, xl_i, hso, if_pos c, q, ne10]
  · rw [if_neg c]
    simp (disch := first | exact xnl_i _ | exact xnl_r _ | exact xnl_u _ | exact xnl_n | exact zI_2 | exact zI_24 | assumption | omega | (simp only [xset_len]; omega)) only [↓reduceIte, xbd_s, xpv_n, xpv_s, e_X12_sunOf_0, e_X12_sunOf_1, e_X12_sunOf_4, e_X12_sunOf_5, e_X12_sunOf_6, e_X12_sunOf_7, e_X12_sunOf_8, e_X12_sunOf_9, e_X12_sunOf_12, e_X12_sunOf_13, e_X12_sunOf_15, e_X12_sunOf_16, e_X12_sunOf_18, e_X12_sunOf_20, e_X12_sunOf_23, e_X12_sunOf_26, e_X12_sunOf_27, e_X12_sunOf_30, e_X12_sunOf_31, g_12_7_11, hc, a0, nI_add, xl_i, hso, if_neg c]
theorem m_isRowT {r : Nat} (hr : r < 8) : xR X m_X12_isRow 0 [.int (nI r)] [] h = some (some (.int 1), h) := by
  rw [m_isRow, if_neg (nI_pos (by omega)), if_pos (nI_lt hr (by omega))]; rfl
theorem m_isRowF {x : Int32} (hx : x < 0 ∨ ¬ x < nI 8) : xR X m_X12_isRow 0 [.int x] [] h = some (some (.int 0), h) := by
  rw [m_isRow]
  by_cases c1 : x < 0
  · rw [if_pos c1]; rfl
  · rw [if_neg c1, if_neg (hx.resolve_left c1)]; rfl
theorem m_dropX (hM : xMB X h S nm A) {x : Int32} (hx : x < 0 ∨ ¬ x < nI 8) : xR X m_X12_drop 0 [.ref 169, .int x] [] h = some (some (.int cBAD), h) := by
  have q := m_isRowF (X := X) (h := h) hx
  simp (disch := first | exact xnl_i _ | exact xnl_r _ | exact xnl_u _ | exact xnl_n | exact zI_2 | exact zI_24 | assumption | omega | (simp only [xset_len]; omega)) only [↓reduceIte, xbd_s, xpv_n, xpv_s, e_X12_drop_0, e_X12_drop_1, e_X12_drop_4, e_X12_drop_7, e_X12_drop_9, e_X12_drop_10, e_X12_drop_11, e_X12_drop_14, e_X12_drop_15, e_X12_drop_16, e_X12_drop_18, e_X12_drop_21, e_X12_drop_22, e_X12_drop_23, c_X12_drop_56_11_0, c_X12_drop_60_11_0, e_X12_drop_26, e_X12_drop_27, e_X12_drop_28, e_X12_drop_31, e_X12_drop_32, e_X12_drop_34, e_X12_drop_35, e_X12_drop_36, e_X12_drop_37, e_X12_drop_40, e_X12_drop_41, e_X12_drop_42, e_X12_drop_45, g_12_23_11, g_12_26_11, q]
theorem m_dropF (hM : xMB X h S nm A) {r : Nat} (hr : r < 8) (hl : A 4 r = -1000000) : xR X m_X12_drop 0 [.ref 169, .int (nI r)] [] h = some (some (.int (cFIND - nI 1)), xset h 169 (xMc (upd S 1 (nI 1)) nm)) := by
  have q := m_isRowT (X := X) (h := h) hr
  have q2 := m_found hM (nI 1)
  obtain ⟨hc, a0, a1, a2, a3, a4, a5, a6, a7, a8, a9⟩ := hM
  simp (disch := first | exact xnl_i _ | exact xnl_r _ | exact xnl_u _ | exact xnl_n | exact zI_2 | exact zI_24 | assumption | omega | (simp only [xset_len]; omega)) only [↓reduceIte, xbd_s, xpv_n, xpv_s, e_X12_drop_0, e_X12_drop_1, e_X12_drop_4, e_X12_drop_7, e_X12_drop_9, e_X12_drop_10, e_X12_drop_11, e_X12_drop_14, e_X12_drop_15, e_X12_drop_16, e_X12_drop_18, e_X12_drop_21, e_X12_drop_22, e_X12_drop_23, c_X12_drop_56_11_0, c_X12_drop_60_11_0, e_X12_drop_26, e_X12_drop_27, e_X12_drop_28, e_X12_drop_31, e_X12_drop_32, e_X12_drop_34, e_X12_drop_35, e_X12_drop_36, e_X12_drop_37, e_X12_drop_40, e_X12_drop_41, e_X12_drop_42, e_X12_drop_45, g_12_23_11, g_12_26_11, hc, a4, q, ne10, xl_i, if_pos hl, q2]
theorem m_dropG (hM : xMB X h S nm A) {r : Nat} (hr : r < 8) (hl : ¬ A 4 r = -1000000) : ∃ h', xR X m_X12_drop 0 [.ref 169, .int (nI r)] [] h = some (some (.int (A 5 r)), h') ∧ xMB X h' (upd S 1 (nI 0)) nm (setA A 4 (upd (A 4) r (-1000000))) ∧ xFr X inM h h' := by
  have q := m_isRowT (X := X) (h := h) hr
  have hM1 := xMB_4 (f := upd (A 4) r (-1000000)) hM
  have q2 := m_well hM1 (A 5 r)
  have f1 : xFr X inM h _ := xFr_tr (xFr_set (a := 174) (e := .inr ((0, 8), .inl (upd (A 4) r (-1000000)))) (by omega) ⟨by omega, by omega⟩) (xFr_set (a := 169) (e := xMc (upd S 1 (nI 0)) nm) (by omega) ⟨by omega, by omega⟩)
  refine ⟨_, ?_, xMB_S hM1, f1⟩
  have c1 := hM1.1
  obtain ⟨hc, a0, a1, a2, a3, a4, a5, a6, a7, a8, a9⟩ := hM
  simp (disch := first | exact xnl_i _ | exact xnl_r _ | exact xnl_u _ | exact xnl_n | exact zI_2 | exact zI_24 | assumption | omega | (simp only [xset_len]; omega)) only [↓reduceIte, xbd_s, xpv_n, xpv_s, e_X12_drop_0, e_X12_drop_1, e_X12_drop_4, e_X12_drop_7, e_X12_drop_9, e_X12_drop_10, e_X12_drop_11, e_X12_drop_14, e_X12_drop_15, e_X12_drop_16, e_X12_drop_18, e_X12_drop_21, e_X12_drop_22, e_X12_drop_23, c_X12_drop_56_11_0, c_X12_drop_60_11_0, e_X12_drop_26, e_X12_drop_27, e_X12_drop_28, e_X12_drop_31, e_X12_drop_32, e_X12_drop_34, e_X12_drop_35, e_X12_drop_36, e_X12_drop_37, e_X12_drop_40, e_X12_drop_41, e_X12_drop_42, e_X12_drop_45, g_12_23_11, g_12_26_11, hc, a4, a5, q, ne10, xl_i, xs_i, if_neg hl, xg_ne, c1, q2]
end XMR
