/-! the reference: rows -/
theorem lg_gt (x y : Int64) : 0 < lg_cmp x y ↔ y < x := by
  unfold lg_cmp
  by_cases c : x > y
  · rw [if_pos c]
    exact ⟨fun _ => c, fun _ => by decide⟩
  · rw [if_neg c]
    refine ⟨fun e => ?_, fun e => absurd e c⟩
    split at e
    · exact absurd e (by decide)
    · exact absurd e (by decide)
theorem sub_i {x y : Int32} (h1 : -2147483648 ≤ x.toInt - y.toInt) (h2 : x.toInt - y.toInt ≤ 2147483647) : (x - y).toInt = x.toInt - y.toInt := by
  rw [Int32.toInt_sub, Int.bmod_def]
  split <;> omega
theorem add_i {x y : Int32} (h1 : -2147483648 ≤ x.toInt + y.toInt) (h2 : x.toInt + y.toInt ≤ 2147483647) : (x + y).toInt = x.toInt + y.toInt := by
  rw [Int32.toInt_add, Int.bmod_def]
  split <;> omega
theorem i_rng (x : Int32) : -2147483648 ≤ x.toInt ∧ x.toInt ≤ 2147483647 := by
  have h1 := Int32.le_toInt x
  have h2 := Int32.toInt_lt x
  omega
theorem span_lg {i n z : Int32} (hi : ¬ i < 0) (hn : ¬ n < 0) (hz : 0 ≤ z.toInt) : 0 < lg_cmp (i.toInt64 + n.toInt64) z.toInt64 ↔ z - n < i := by
  have r1 := i_rng i
  have r2 := i_rng n
  have r3 := i_rng z
  rw [xlt_i, xti0] at hi hn
  have e1 := sub_i (x := z) (y := n) (by omega) (by omega)
  rw [lg_gt, xlt_i, e1, Int64.lt_iff_toInt_lt, Int64.toInt_add, Int32.toInt_toInt64, Int32.toInt_toInt64, Int32.toInt_toInt64, Int.bmod_def]
  split <;> omega
section XMU
variable {X : xS} {h : xH} {S : Nat → Int32} {nm : Int64} {A : Nat → Nat → Int32}
theorem m_isSpan (hM : xMB X h S nm A) {r : Nat} (hr : r < 8) (hz : 0 ≤ (A 5 r).toInt) (i n : Int32) : xR X m_X12_isSpan 0 [.ref 169, .int (nI r), .int i, .int n] [] h = some (some (.int (wiS (A 5 r) i n)), h) := by
  obtain ⟨hc, a0, a1, a2, a3, a4, a5, a6, a7, a8, a9⟩ := hM
  unfold wiS
  by_cases c1 : i < 0
  · simp (disch := first | exact xnl_i _ | exact xnl_r _ | exact xnl_u _ | exact xnl_n | exact zI_2 | exact zI_24 | assumption | omega | (simp only [xset_len]; omega)) only [↓reduceIte, xbd_s, xpv_n, xpv_s, e_X12_isSpan_0, e_X12_isSpan_1, e_X12_isSpan_4, e_X12_isSpan_5, e_X12_isSpan_8, e_X12_isSpan_9, e_X12_isSpan_10, e_X12_isSpan_11, e_X12_isSpan_12, e_X12_isSpan_13, e_X12_isSpan_14, e_X12_isSpan_17, e_X12_isSpan_18, e_X12_isSpan_19, e_X12_isSpan_20, e_X12_isSpan_21, e_X12_isSpan_24, e_X12_isSpan_25, e_X12_isSpan_28, e_X12_isSpan_29, e_X12_isSpan_29_0, e_X12_isSpan_29_1, g_12_26_11, if_pos c1]
  by_cases c2 : n < 0
  · simp (disch := first | exact xnl_i _ | exact xnl_r _ | exact xnl_u _ | exact xnl_n | exact zI_2 | exact zI_24 | assumption | omega | (simp only [xset_len]; omega)) only [↓reduceIte, xbd_s, xpv_n, xpv_s, e_X12_isSpan_0, e_X12_isSpan_1, e_X12_isSpan_4, e_X12_isSpan_5, e_X12_isSpan_8, e_X12_isSpan_9, e_X12_isSpan_10, e_X12_isSpan_11, e_X12_isSpan_12, e_X12_isSpan_13, e_X12_isSpan_14, e_X12_isSpan_17, e_X12_isSpan_18, e_X12_isSpan_19, e_X12_isSpan_20, e_X12_isSpan_21, e_X12_isSpan_24, e_X12_isSpan_25, e_X12_isSpan_28, e_X12_isSpan_29, e_X12_isSpan_29_0, e_X12_isSpan_29_1, g_12_26_11, if_neg c1, if_pos c2]
  have e := span_lg c1 c2 hz
  by_cases c3 : A 5 r - n < i
  · simp (disch := first | exact xnl_i _ | exact xnl_r _ | exact xnl_u _ | exact xnl_n | exact zI_2 | exact zI_24 | assumption | omega | (simp only [xset_len]; omega)) only [↓reduceIte, xbd_s, xpv_n, xpv_s, e_X12_isSpan_0, e_X12_isSpan_1, e_X12_isSpan_4, e_X12_isSpan_5, e_X12_isSpan_8, e_X12_isSpan_9, e_X12_isSpan_10, e_X12_isSpan_11, e_X12_isSpan_12, e_X12_isSpan_13, e_X12_isSpan_14, e_X12_isSpan_17, e_X12_isSpan_18, e_X12_isSpan_19, e_X12_isSpan_20, e_X12_isSpan_21, e_X12_isSpan_24, e_X12_isSpan_25, e_X12_isSpan_28, e_X12_isSpan_29, e_X12_isSpan_29_0, e_X12_isSpan_29_1, g_12_26_11, hc, a5, xl_i, if_neg c1, if_neg c2, if_pos (e.mpr c3), if_pos c3]
  · simp (disch := first | exact xnl_i _ | exact xnl_r _ | exact xnl_u _ | exact xnl_n | exact zI_2 | exact zI_24 | assumption | omega | (simp only [xset_len]; omega)) only [↓reduceIte, xbd_s, xpv_n, xpv_s, e_X12_isSpan_0, e_X12_isSpan_1, e_X12_isSpan_4, e_X12_isSpan_5, e_X12_isSpan_8, e_X12_isSpan_9, e_X12_isSpan_10, e_X12_isSpan_11, e_X12_isSpan_12, e_X12_isSpan_13, e_X12_isSpan_14, e_X12_isSpan_17, e_X12_isSpan_18, e_X12_isSpan_19, e_X12_isSpan_20, e_X12_isSpan_21, e_X12_isSpan_24, e_X12_isSpan_25, e_X12_isSpan_28, e_X12_isSpan_29, e_X12_isSpan_29_0, e_X12_isSpan_29_1, g_12_26_11, hc, a5, xl_i, if_neg c1, if_neg c2, if_neg (fun q => c3 (e.mp q)), if_neg c3]
theorem m_rowN (hM : xMB X h S nm A) {r : Nat} {l n : Int32} (hr : r < 8) (hl : ¬ l < 0) (hl2 : ¬ nI 2 < l) (hn : n < 0) : xR X m_X12_row 0 [.ref 169, .int (nI r), .int l, .int n, xU] [] h = some (some (.int (cFIND - nI 4)), xset h 169 (xMc (upd S 1 (nI 4)) nm)) := by
  have q := m_isRowT (X := X) (h := h) hr
  have q1 := fun hh : xH => m_inT (X := X) (h := hh) (x := l) (lo := 0) (hi := nI 2) hl hl2
  have q2 := m_found hM (nI 4)
  have hc := hM.1
  have e1 : ¬ nI 40 < n := by
    rw [xlt_i] at hn ⊢
    have b : (nI 40).toInt = 40 := by decide
    rw [xti0] at hn
    omega
  simp (disch := first | exact xnl_i _ | exact xnl_r _ | exact xnl_u _ | exact xnl_n | exact zI_2 | exact zI_24 | assumption | omega | (simp only [xset_len]; omega)) only [↓reduceIte, xbd_s, xpv_n, xpv_s, e_X12_row_0, e_X12_row_1, e_X12_row_4, e_X12_row_7, e_X12_row_8, e_X12_row_9, e_X12_row_10, e_X12_row_13, e_X12_row_16, e_X12_row_17, e_X12_row_19, e_X12_row_22, e_X12_row_24, e_X12_row_25, e_X12_row_26, e_X12_row_29, e_X12_row_30, e_X12_row_31, c_X12_row_56_11_0, c_X12_row_60_11_0, e_X12_row_34, e_X12_row_35, e_X12_row_36, e_X12_row_39, e_X12_row_40, e_X12_row_41, e_X12_row_42, e_X12_row_43, e_X12_row_46, e_X12_row_47, e_X12_row_48, e_X12_row_49, e_X12_row_50, e_X12_row_52, e_X12_row_54, e_X12_row_56, e_X12_row_59, e_X12_row_60, e_X12_row_63, e_X12_row_65, e_X12_row_66, e_X12_row_67, e_X12_row_69, e_X12_row_70, e_X12_row_71, e_X12_row_72, e_X12_row_75, e_X12_row_78, e_X12_row_79, e_X12_row_80, e_X12_row_83, g_12_23_11, g_12_26_11, g_12_29_11, hc, q, z0, q1, ne10, if_neg e1, if_pos hn, q2]
def mrF (r k : Nat) (y : Nat → Int32) : Nat → Int32 := upd y (40 * r + k) (nI 0)
theorem nI_mul (x y : Nat) : nI x * nI y = nI (x * y) := by unfold nI; rw [Int32.ofNat_mul]
theorem m_rowG (hM : xMB X h S nm A) {r : Nat} {l n : Int32} (hr : r < 8) (hl : ¬ l < 0) (hl2 : ¬ nI 2 < l) (hn : ¬ n < 0) (hn2 : ¬ nI 40 < n) : ∃ h', xR X m_X12_row 0 [.ref 169, .int (nI r), .int l, .int n, xU] [] h = some (some (.int n), h') ∧ xMB X h' (upd S 1 (nI 0)) nm (setA (setA (setA A 4 (upd (A 4) r l)) 5 (upd (A 5) r n)) 6 (xfold (mrF r) 40 (A 6))) ∧ xFr X inM h h' := by
  have q := m_isRowT (X := X) (h := h) hr
  have q1 := fun hh : xH => m_inT (X := X) (h := hh) (x := l) (lo := 0) (hi := nI 2) hl hl2
  have hM1 := xMB_4 (f := upd (A 4) r l) hM
  have hM2 := xMB_5 (f := upd (A 5) r n) hM1
  have L := x_loopH (X := X) (A := inM) (fun k (y : Nat → Int32) h => xR X m_X12_row 52 [.ref 169, .int (nI r), .int l, .int n, .int (nI k)] [] h) (fun y h => xMB X h S nm (setA (setA (setA A 4 (upd (A 4) r l)) 5 (upd (A 5) r n)) 6 y)) (mrF r) 40 (by
    intro k hk y h hM
    have hc := hM.1
    have a6 := hM.2.2.2.2.2.2.2.1
    rw [setA_eq] at a6
    have e1 : nI k < nI 40 := nI_lt hk (by omega)
    have hM1 := xMB_6 (f := mrF r k y) hM
    rw [setA_setA] at hM1
    refine ⟨_, ?_, hM1, xFr_set (by omega) ⟨by omega, by omega⟩⟩
    rw [e_X12_row_52]
    simp (disch := first | exact xnl_i _ | exact xnl_r _ | exact xnl_u _ | exact xnl_n | exact zI_2 | exact zI_24 | assumption | omega | (simp only [xset_len]; omega)) only [↓reduceIte, xbd_s, xpv_n, xpv_s, e_X12_row_0, e_X12_row_1, e_X12_row_4, e_X12_row_7, e_X12_row_8, e_X12_row_9, e_X12_row_10, e_X12_row_13, e_X12_row_16, e_X12_row_17, e_X12_row_19, e_X12_row_22, e_X12_row_24, e_X12_row_25, e_X12_row_26, e_X12_row_29, e_X12_row_30, e_X12_row_31, c_X12_row_56_11_0, c_X12_row_60_11_0, e_X12_row_34, e_X12_row_35, e_X12_row_36, e_X12_row_39, e_X12_row_40, e_X12_row_41, e_X12_row_42, e_X12_row_43, e_X12_row_46, e_X12_row_47, e_X12_row_48, e_X12_row_49, e_X12_row_50, e_X12_row_54, e_X12_row_56, e_X12_row_59, e_X12_row_60, e_X12_row_63, e_X12_row_65, e_X12_row_66, e_X12_row_67, e_X12_row_69, e_X12_row_70, e_X12_row_71, e_X12_row_72, e_X12_row_75, e_X12_row_78, e_X12_row_79, e_X12_row_80, e_X12_row_83, g_12_23_11, g_12_26_11, g_12_29_11, hc, a6, if_pos e1, nI_add, nI_mul, xl_i, xs_i]
    rfl) (A 6) _ (by
      have e6 : A 6 = (setA (setA A 4 (upd (A 4) r l)) 5 (upd (A 5) r n)) 6 := by rw [setA_ne (by decide), setA_ne (by decide)]
      have := hM2
      rw [← setA_id (A := setA (setA A 4 (upd (A 4) r l)) 5 (upd (A 5) r n)) (i := 6), ← e6] at this
      exact this)
  obtain ⟨h1, e1, e2, e3⟩ := L
  have q2 := m_well e2 n
  have f1 := xFr_tr (xFr_tr (xFr_tr (xFr_set (X := X) (h := h) (A := inM) (a := 174) (e := .inr ((0, 8), .inl (upd (A 4) r l))) (by omega) ⟨by omega, by omega⟩) (xFr_set (a := 175) (e := .inr ((0, 8), .inl (upd (A 5) r n))) (by omega) ⟨by omega, by omega⟩)) e3) (xFr_set (a := 169) (e := xMc (upd S 1 (nI 0)) nm) (by omega) ⟨by omega, by omega⟩)
  refine ⟨_, ?_, xMB_S e2, f1⟩
  have c1 := hM1.1
  have c5 := hM1.2.2.2.2.2.2.1
  rw [setA_ne (by decide)] at c5
  obtain ⟨hc, a0, a1, a2, a3, a4, a5, a6, a7, a8, a9⟩ := hM
  have e4 : ¬ nI 40 < nI 40 := by decide
  simp (disch := first | exact xnl_i _ | exact xnl_r _ | exact xnl_u _ | exact xnl_n | exact zI_2 | exact zI_24 | assumption | omega | (simp only [xset_len]; omega)) only [↓reduceIte, xbd_s, xpv_n, xpv_s, e_X12_row_0, e_X12_row_1, e_X12_row_4, e_X12_row_7, e_X12_row_8, e_X12_row_9, e_X12_row_10, e_X12_row_13, e_X12_row_16, e_X12_row_17, e_X12_row_19, e_X12_row_22, e_X12_row_24, e_X12_row_25, e_X12_row_26, e_X12_row_29, e_X12_row_30, e_X12_row_31, c_X12_row_56_11_0, c_X12_row_60_11_0, e_X12_row_34, e_X12_row_35, e_X12_row_36, e_X12_row_39, e_X12_row_40, e_X12_row_41, e_X12_row_42, e_X12_row_43, e_X12_row_46, e_X12_row_47, e_X12_row_48, e_X12_row_49, e_X12_row_50, e_X12_row_54, e_X12_row_56, e_X12_row_59, e_X12_row_60, e_X12_row_63, e_X12_row_65, e_X12_row_66, e_X12_row_67, e_X12_row_69, e_X12_row_70, e_X12_row_71, e_X12_row_72, e_X12_row_75, e_X12_row_78, e_X12_row_79, e_X12_row_80, e_X12_row_83, g_12_23_11, g_12_26_11, g_12_29_11, hc, a4, q, z0, q1, ne10, if_neg hn2, if_neg hn, xs_i, c1, c5]
  refine e1.trans ?_
  have c6 := e2.1
  simp (disch := first | exact xnl_i _ | exact xnl_r _ | exact xnl_u _ | exact xnl_n | exact zI_2 | exact zI_24 | assumption | omega | (simp only [xset_len]; omega)) only [↓reduceIte, xbd_s, xpv_n, xpv_s, e_X12_row_0, e_X12_row_1, e_X12_row_4, e_X12_row_7, e_X12_row_8, e_X12_row_9, e_X12_row_10, e_X12_row_13, e_X12_row_16, e_X12_row_17, e_X12_row_19, e_X12_row_22, e_X12_row_24, e_X12_row_25, e_X12_row_26, e_X12_row_29, e_X12_row_30, e_X12_row_31, c_X12_row_56_11_0, c_X12_row_60_11_0, e_X12_row_34, e_X12_row_35, e_X12_row_36, e_X12_row_39, e_X12_row_40, e_X12_row_41, e_X12_row_42, e_X12_row_43, e_X12_row_46, e_X12_row_47, e_X12_row_48, e_X12_row_49, e_X12_row_50, e_X12_row_52, e_X12_row_54, e_X12_row_56, e_X12_row_59, e_X12_row_60, e_X12_row_63, e_X12_row_65, e_X12_row_66, e_X12_row_67, e_X12_row_69, e_X12_row_70, e_X12_row_71, e_X12_row_72, e_X12_row_75, e_X12_row_78, e_X12_row_79, e_X12_row_80, e_X12_row_83, g_12_23_11, g_12_26_11, g_12_29_11, c6, if_neg e4, q2]
  rfl
end XMU
