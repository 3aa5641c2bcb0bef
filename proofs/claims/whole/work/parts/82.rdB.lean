/-! READING, the class: words, numbers, kinds -/
theorem xtx_get {w : List Nat} {k : Nat} (hk : k < w.length) : (w.map nI).getD k 0 = nI (w.getD k 0) := by
  rw [List.getD_eq_getElem?_getD, List.getD_eq_getElem?_getD, List.getElem?_map, List.getElem?_eq_getElem hk]
  rfl
section XRB
variable {X : xS} {h : xH} {r t : Nat} {tp : Nat → Int32} {c : Nat → Nat} {s : pT}
theorem rd_isWord (hT : tOk c tp t) (H : xRD X h r t tp s) (hok : pOk c t s) {a : Nat} {w : List Nat} (ha : 1 ≤ a ∧ a ≤ 7) (hw : xtxt a = w.map nI) (hl : w.length ≤ 8) (h128 : ∀ k, k < w.length → w.getD k 0 < 128) : xR X m_X7_isWord 0 [.ref r, .ref a, xU] [] h = some (some (.int (if wB c w s = true then nI 1 else nI 0)), h) := by
  have ht4 := hT.1
  have hr := H.2.2
  have c0 := H.1
  have t0 := H.2.1
  have ll : (xtxt a).length = w.length := by rw [hw, List.length_map]
  have ql : ∀ pc, (pc = 18 ∨ pc = 30) → ∀ ls st (h : xH), st.length ≤ 4 → xR X m_X7_isWord pc ls (.ref a :: st) h = xR X m_X7_isWord (pc + 3) ls (.int (nI w.length) :: st) h := by
    intro pc hp ls st h hs
    rw [← ll]
    rcases hp with rfl | rfl
    · exact q_slen dX7_isWord_18 rfl (Nat.le_of_ble_eq_true rfl) ⟨ha.1, ha.2, hs⟩
    · exact q_slen dX7_isWord_30 rfl (Nat.le_of_ble_eq_true rfl) ⟨ha.1, ha.2, hs⟩
  have ql1 := fun st => ql 18 (Or.inl rfl) [.ref r, .ref a, xU] st h
  have ql2 := fun k st => ql 30 (Or.inr rfl) [.ref r, .ref a, .int (nI k)] st h
  have qc : ∀ k ls st (h : xH), k < w.length → st.length ≤ 4 → xR X m_X7_isWord 49 ls (.int (nI k) :: .ref a :: st) h = xR X m_X7_isWord 52 ls (.int (nI (w.getD k 0)) :: st) h := by
    intro k ls st h hk hs
    have := q_schar (X := X) (m := m_X7_isWord) (pc := 49) (ls := ls) (st := st) (h := h) (a := a) (i := nI k) dX7_isWord_49 rfl (Nat.le_of_ble_eq_true rfl) ⟨ha.1, ha.2, hs, by rw [ll]; exact xin_nI hk (by omega)⟩
    rw [nat_nI (by omega), hw, xtx_get hk] at this
    exact this
  by_cases k1 : s.1 = 1
  · have e1 : nI s.1 = nI 1 := by rw [k1]
    have eb : nI s.2.2.1 - nI s.2.1 = nI (s.2.2.1 - s.2.1) := nI_sub' hok.1
    have hb1 := hok.2.1
    by_cases k2 : s.2.2.1 - s.2.1 = w.length
    · have L : ∀ n k, k + n = w.length → (∀ j, j < k → c (s.2.1 + j) = w.getD j 0) → xR X m_X7_isWord 28 [.ref r, .ref a, .int (nI k)] [] h = some (some (.int (if wB c w s = true then nI 1 else nI 0)), h) := by
        intro n
        induction n with
        | zero =>
          intro k hk hj
          have e2 : ¬ nI k < nI w.length := nI_nlt (by omega) (by omega)
          rw [if_pos (wB_t.mpr ⟨k1, k2, fun j hj' => hj j (by omega)⟩)]
          rw [e_X7_isWord_28]
          simp (disch := first | exact xnl_i _ | exact xnl_r _ | exact xnl_u _ | exact xnl_n | exact zI_2 | exact zI_24 | assumption | omega | (simp only [xset_len]; omega)) only [↓reduceIte, xbd_s, xpv_n, xpv_s, e_X7_isWord_0, e_X7_isWord_1, e_X7_isWord_4, e_X7_isWord_5, e_X7_isWord_8, e_X7_isWord_9, e_X7_isWord_12, e_X7_isWord_13, e_X7_isWord_16, e_X7_isWord_17, e_X7_isWord_21, e_X7_isWord_24, e_X7_isWord_25, e_X7_isWord_25_0, e_X7_isWord_25_1, e_X7_isWord_26, e_X7_isWord_27, e_X7_isWord_29, e_X7_isWord_33, e_X7_isWord_36, e_X7_isWord_37, e_X7_isWord_40, e_X7_isWord_41, e_X7_isWord_44, e_X7_isWord_45, e_X7_isWord_46, e_X7_isWord_47, e_X7_isWord_48, e_X7_isWord_52, e_X7_isWord_55, e_X7_isWord_56, e_X7_isWord_56_0, e_X7_isWord_56_1, e_X7_isWord_57, e_X7_isWord_60, e_X7_isWord_63, e_X7_isWord_64, e_X7_isWord_64_0, e_X7_isWord_64_1, g_7_135_6, g_7_138_6, g_7_50_6, g_7_9_6]
          rw [ql2 k [.int (nI k)] (Nat.le_of_ble_eq_true rfl)]
          simp (disch := first | exact xnl_i _ | exact xnl_r _ | exact xnl_u _ | exact xnl_n | exact zI_2 | exact zI_24 | assumption | omega | (simp only [xset_len]; omega)) only [↓reduceIte, xbd_s, xpv_n, xpv_s, e_X7_isWord_0, e_X7_isWord_1, e_X7_isWord_4, e_X7_isWord_5, e_X7_isWord_8, e_X7_isWord_9, e_X7_isWord_12, e_X7_isWord_13, e_X7_isWord_16, e_X7_isWord_17, e_X7_isWord_21, e_X7_isWord_24, e_X7_isWord_25, e_X7_isWord_25_0, e_X7_isWord_25_1, e_X7_isWord_26, e_X7_isWord_27, e_X7_isWord_29, e_X7_isWord_33, e_X7_isWord_36, e_X7_isWord_37, e_X7_isWord_40, e_X7_isWord_41, e_X7_isWord_44, e_X7_isWord_45, e_X7_isWord_46, e_X7_isWord_47, e_X7_isWord_48, e_X7_isWord_52, e_X7_isWord_55, e_X7_isWord_56, e_X7_isWord_56_0, e_X7_isWord_56_1, e_X7_isWord_57, e_X7_isWord_60, e_X7_isWord_63, e_X7_isWord_64, e_X7_isWord_64_0, e_X7_isWord_64_1, g_7_135_6, g_7_138_6, g_7_50_6, g_7_9_6, Nat.reduceAdd, e2]
        | succ n ih =>
          intro k hk hj
          have e2 : nI k < nI w.length := nI_lt (by omega) (by omega)
          obtain ⟨b1, b2⟩ := hT.2 (s.2.1 + k) (by omega)
          have q := fun K : Value → Option (Option Value × xH) => xl_b (n := 400) (f := tp) (K := K) (k := s.2.1 + k) (by omega) (by omega)
          rw [b2] at q
          have e3 : nI s.2.1 + nI k = nI (s.2.1 + k) := nI_add _ _
          have w128 := h128 k (by omega)
          rw [e_X7_isWord_28]
          simp (disch := first | exact xnl_i _ | exact xnl_r _ | exact xnl_u _ | exact xnl_n | exact zI_2 | exact zI_24 | assumption | omega | (simp only [xset_len]; omega)) only [↓reduceIte, xbd_s, xpv_n, xpv_s, e_X7_isWord_0, e_X7_isWord_1, e_X7_isWord_4, e_X7_isWord_5, e_X7_isWord_8, e_X7_isWord_9, e_X7_isWord_12, e_X7_isWord_13, e_X7_isWord_16, e_X7_isWord_17, e_X7_isWord_21, e_X7_isWord_24, e_X7_isWord_25, e_X7_isWord_25_0, e_X7_isWord_25_1, e_X7_isWord_26, e_X7_isWord_27, e_X7_isWord_29, e_X7_isWord_33, e_X7_isWord_36, e_X7_isWord_37, e_X7_isWord_40, e_X7_isWord_41, e_X7_isWord_44, e_X7_isWord_45, e_X7_isWord_46, e_X7_isWord_47, e_X7_isWord_48, e_X7_isWord_52, e_X7_isWord_55, e_X7_isWord_56, e_X7_isWord_56_0, e_X7_isWord_56_1, e_X7_isWord_57, e_X7_isWord_60, e_X7_isWord_63, e_X7_isWord_64, e_X7_isWord_64_0, e_X7_isWord_64_1, g_7_135_6, g_7_138_6, g_7_50_6, g_7_9_6]
          rw [ql2 k [.int (nI k)] (Nat.le_of_ble_eq_true rfl)]
          simp (disch := first | exact xnl_i _ | exact xnl_r _ | exact xnl_u _ | exact xnl_n | exact zI_2 | exact zI_24 | assumption | omega | (simp only [xset_len]; omega)) only [↓reduceIte, xbd_s, xpv_n, xpv_s, e_X7_isWord_0, e_X7_isWord_1, e_X7_isWord_4, e_X7_isWord_5, e_X7_isWord_8, e_X7_isWord_9, e_X7_isWord_12, e_X7_isWord_13, e_X7_isWord_16, e_X7_isWord_17, e_X7_isWord_21, e_X7_isWord_24, e_X7_isWord_25, e_X7_isWord_25_0, e_X7_isWord_25_1, e_X7_isWord_26, e_X7_isWord_27, e_X7_isWord_29, e_X7_isWord_33, e_X7_isWord_36, e_X7_isWord_37, e_X7_isWord_40, e_X7_isWord_41, e_X7_isWord_44, e_X7_isWord_45, e_X7_isWord_46, e_X7_isWord_47, e_X7_isWord_48, e_X7_isWord_52, e_X7_isWord_55, e_X7_isWord_56, e_X7_isWord_56_0, e_X7_isWord_56_1, e_X7_isWord_57, e_X7_isWord_60, e_X7_isWord_63, e_X7_isWord_64, e_X7_isWord_64_0, e_X7_isWord_64_1, g_7_135_6, g_7_138_6, g_7_50_6, g_7_9_6, Nat.reduceAdd, if_pos e2, c0, t0, e3, q]
          rw [qc k _ [.int (bt (c (s.2.1 + k)))] _ (by omega) (Nat.le_of_ble_eq_true rfl)]
          by_cases k3 : c (s.2.1 + k) = w.getD k 0
          · have e4 : bt (c (s.2.1 + k)) = nI (w.getD k 0) := (bt_eq b1 w128).mpr k3
            rw [← ih (k + 1) (by omega) (fun j hj' => by
              by_cases e : j = k
              · rw [e]; exact k3
              · exact hj j (by omega))]
            simp (disch := first | exact xnl_i _ | exact xnl_r _ | exact xnl_u _ | exact xnl_n | exact zI_2 | exact zI_24 | assumption | omega | (simp only [xset_len]; omega)) only [↓reduceIte, xbd_s, xpv_n, xpv_s, e_X7_isWord_0, e_X7_isWord_1, e_X7_isWord_4, e_X7_isWord_5, e_X7_isWord_8, e_X7_isWord_9, e_X7_isWord_12, e_X7_isWord_13, e_X7_isWord_16, e_X7_isWord_17, e_X7_isWord_21, e_X7_isWord_24, e_X7_isWord_25, e_X7_isWord_25_0, e_X7_isWord_25_1, e_X7_isWord_26, e_X7_isWord_27, e_X7_isWord_29, e_X7_isWord_33, e_X7_isWord_36, e_X7_isWord_37, e_X7_isWord_40, e_X7_isWord_41, e_X7_isWord_44, e_X7_isWord_45, e_X7_isWord_46, e_X7_isWord_47, e_X7_isWord_48, e_X7_isWord_52, e_X7_isWord_55, e_X7_isWord_56, e_X7_isWord_56_0, e_X7_isWord_56_1, e_X7_isWord_57, e_X7_isWord_60, e_X7_isWord_63, e_X7_isWord_64, e_X7_isWord_64_0, e_X7_isWord_64_1, g_7_135_6, g_7_138_6, g_7_50_6, g_7_9_6, if_pos e4, nI_inc]
          · have e4 : ¬ bt (c (s.2.1 + k)) = nI (w.getD k 0) := fun e => k3 ((bt_eq b1 w128).mp e)
            rw [if_neg (show ¬ wB c w s = true from fun e => k3 ((wB_t.mp e).2.2 k (by omega)))]
            simp (disch := first | exact xnl_i _ | exact xnl_r _ | exact xnl_u _ | exact xnl_n | exact zI_2 | exact zI_24 | assumption | omega | (simp only [xset_len]; omega)) only [↓reduceIte, xbd_s, xpv_n, xpv_s, e_X7_isWord_0, e_X7_isWord_1, e_X7_isWord_4, e_X7_isWord_5, e_X7_isWord_8, e_X7_isWord_9, e_X7_isWord_12, e_X7_isWord_13, e_X7_isWord_16, e_X7_isWord_17, e_X7_isWord_21, e_X7_isWord_24, e_X7_isWord_25, e_X7_isWord_25_0, e_X7_isWord_25_1, e_X7_isWord_26, e_X7_isWord_27, e_X7_isWord_29, e_X7_isWord_33, e_X7_isWord_36, e_X7_isWord_37, e_X7_isWord_40, e_X7_isWord_41, e_X7_isWord_44, e_X7_isWord_45, e_X7_isWord_46, e_X7_isWord_47, e_X7_isWord_48, e_X7_isWord_52, e_X7_isWord_55, e_X7_isWord_56, e_X7_isWord_56_0, e_X7_isWord_56_1, e_X7_isWord_57, e_X7_isWord_60, e_X7_isWord_63, e_X7_isWord_64, e_X7_isWord_64_0, e_X7_isWord_64_1, g_7_135_6, g_7_138_6, g_7_50_6, g_7_9_6, if_neg e4]
      have e2 : nI (s.2.2.1 - s.2.1) = nI w.length := by rw [k2]
      rw [← L w.length 0 (by omega) (fun j hj => by omega)]
      simp (disch := first | exact xnl_i _ | exact xnl_r _ | exact xnl_u _ | exact xnl_n | exact zI_2 | exact zI_24 | assumption | omega | (simp only [xset_len]; omega)) only [↓reduceIte, xbd_s, xpv_n, xpv_s, e_X7_isWord_0, e_X7_isWord_1, e_X7_isWord_4, e_X7_isWord_5, e_X7_isWord_8, e_X7_isWord_9, e_X7_isWord_12, e_X7_isWord_13, e_X7_isWord_16, e_X7_isWord_17, e_X7_isWord_21, e_X7_isWord_24, e_X7_isWord_25, e_X7_isWord_25_0, e_X7_isWord_25_1, e_X7_isWord_26, e_X7_isWord_27, e_X7_isWord_29, e_X7_isWord_33, e_X7_isWord_36, e_X7_isWord_37, e_X7_isWord_40, e_X7_isWord_41, e_X7_isWord_44, e_X7_isWord_45, e_X7_isWord_46, e_X7_isWord_47, e_X7_isWord_48, e_X7_isWord_52, e_X7_isWord_55, e_X7_isWord_56, e_X7_isWord_56_0, e_X7_isWord_56_1, e_X7_isWord_57, e_X7_isWord_60, e_X7_isWord_63, e_X7_isWord_64, e_X7_isWord_64_0, e_X7_isWord_64_1, g_7_135_6, g_7_138_6, g_7_50_6, g_7_9_6, c0, if_pos e1, eb]
      rw [ql1 [.int (nI (s.2.2.1 - s.2.1))] (Nat.le_of_ble_eq_true rfl)]
      simp (disch := first | exact xnl_i _ | exact xnl_r _ | exact xnl_u _ | exact xnl_n | exact zI_2 | exact zI_24 | assumption | omega | (simp only [xset_len]; omega)) only [↓reduceIte, xbd_s, xpv_n, xpv_s, e_X7_isWord_0, e_X7_isWord_1, e_X7_isWord_4, e_X7_isWord_5, e_X7_isWord_8, e_X7_isWord_9, e_X7_isWord_12, e_X7_isWord_13, e_X7_isWord_16, e_X7_isWord_17, e_X7_isWord_21, e_X7_isWord_24, e_X7_isWord_25, e_X7_isWord_25_0, e_X7_isWord_25_1, e_X7_isWord_26, e_X7_isWord_27, e_X7_isWord_29, e_X7_isWord_33, e_X7_isWord_36, e_X7_isWord_37, e_X7_isWord_40, e_X7_isWord_41, e_X7_isWord_44, e_X7_isWord_45, e_X7_isWord_46, e_X7_isWord_47, e_X7_isWord_48, e_X7_isWord_52, e_X7_isWord_55, e_X7_isWord_56, e_X7_isWord_56_0, e_X7_isWord_56_1, e_X7_isWord_57, e_X7_isWord_60, e_X7_isWord_63, e_X7_isWord_64, e_X7_isWord_64_0, e_X7_isWord_64_1, g_7_135_6, g_7_138_6, g_7_50_6, g_7_9_6, Nat.reduceAdd, if_pos e2]
    · have e2 : ¬ nI (s.2.2.1 - s.2.1) = nI w.length := by
        rw [xeq_i, nI_toInt (by omega), nI_toInt (by omega)]
        omega
      rw [if_neg (show ¬ wB c w s = true from fun e => k2 (wB_t.mp e).2.1)]
      simp (disch := first | exact xnl_i _ | exact xnl_r _ | exact xnl_u _ | exact xnl_n | exact zI_2 | exact zI_24 | assumption | omega | (simp only [xset_len]; omega)) only [↓reduceIte, xbd_s, xpv_n, xpv_s, e_X7_isWord_0, e_X7_isWord_1, e_X7_isWord_4, e_X7_isWord_5, e_X7_isWord_8, e_X7_isWord_9, e_X7_isWord_12, e_X7_isWord_13, e_X7_isWord_16, e_X7_isWord_17, e_X7_isWord_21, e_X7_isWord_24, e_X7_isWord_25, e_X7_isWord_25_0, e_X7_isWord_25_1, e_X7_isWord_26, e_X7_isWord_27, e_X7_isWord_29, e_X7_isWord_33, e_X7_isWord_36, e_X7_isWord_37, e_X7_isWord_40, e_X7_isWord_41, e_X7_isWord_44, e_X7_isWord_45, e_X7_isWord_46, e_X7_isWord_47, e_X7_isWord_48, e_X7_isWord_52, e_X7_isWord_55, e_X7_isWord_56, e_X7_isWord_56_0, e_X7_isWord_56_1, e_X7_isWord_57, e_X7_isWord_60, e_X7_isWord_63, e_X7_isWord_64, e_X7_isWord_64_0, e_X7_isWord_64_1, g_7_135_6, g_7_138_6, g_7_50_6, g_7_9_6, c0, if_pos e1, eb]
      rw [ql1 [.int (nI (s.2.2.1 - s.2.1))] (Nat.le_of_ble_eq_true rfl)]
      simp (disch := first | exact xnl_i _ | exact xnl_r _ | exact xnl_u _ | exact xnl_n | exact zI_2 | exact zI_24 | assumption | omega | (simp only [xset_len]; omega)) only [↓reduceIte, xbd_s, xpv_n, xpv_s, e_X7_isWord_0, e_X7_isWord_1, e_X7_isWord_4, e_X7_isWord_5, e_X7_isWord_8, e_X7_isWord_9, e_X7_isWord_12, e_X7_isWord_13, e_X7_isWord_16, e_X7_isWord_17, e_X7_isWord_21, e_X7_isWord_24, e_X7_isWord_25, e_X7_isWord_25_0, e_X7_isWord_25_1, e_X7_isWord_26, e_X7_isWord_27, e_X7_isWord_29, e_X7_isWord_33, e_X7_isWord_36, e_X7_isWord_37, e_X7_isWord_40, e_X7_isWord_41, e_X7_isWord_44, e_X7_isWord_45, e_X7_isWord_46, e_X7_isWord_47, e_X7_isWord_48, e_X7_isWord_52, e_X7_isWord_55, e_X7_isWord_56, e_X7_isWord_56_0, e_X7_isWord_56_1, e_X7_isWord_57, e_X7_isWord_60, e_X7_isWord_63, e_X7_isWord_64, e_X7_isWord_64_0, e_X7_isWord_64_1, g_7_135_6, g_7_138_6, g_7_50_6, g_7_9_6, Nat.reduceAdd, if_neg e2]
  · have h4 := hok.2.2.2.2.1
    have e1 : ¬ nI s.1 = nI 1 := by
      rw [xeq_i, nI_toInt (by omega), nI_toInt (by omega)]
      omega
    rw [if_neg (show ¬ wB c w s = true from fun e => k1 (wB_t.mp e).1)]
    simp (disch := first | exact xnl_i _ | exact xnl_r _ | exact xnl_u _ | exact xnl_n | exact zI_2 | exact zI_24 | assumption | omega | (simp only [xset_len]; omega)) only [↓reduceIte, xbd_s, xpv_n, xpv_s, e_X7_isWord_0, e_X7_isWord_1, e_X7_isWord_4, e_X7_isWord_5, e_X7_isWord_8, e_X7_isWord_9, e_X7_isWord_12, e_X7_isWord_13, e_X7_isWord_16, e_X7_isWord_17, e_X7_isWord_21, e_X7_isWord_24, e_X7_isWord_25, e_X7_isWord_25_0, e_X7_isWord_25_1, e_X7_isWord_26, e_X7_isWord_27, e_X7_isWord_29, e_X7_isWord_33, e_X7_isWord_36, e_X7_isWord_37, e_X7_isWord_40, e_X7_isWord_41, e_X7_isWord_44, e_X7_isWord_45, e_X7_isWord_46, e_X7_isWord_47, e_X7_isWord_48, e_X7_isWord_52, e_X7_isWord_55, e_X7_isWord_56, e_X7_isWord_56_0, e_X7_isWord_56_1, e_X7_isWord_57, e_X7_isWord_60, e_X7_isWord_63, e_X7_isWord_64, e_X7_isWord_64_0, e_X7_isWord_64_1, g_7_135_6, g_7_138_6, g_7_50_6, g_7_9_6, c0, if_neg e1]
theorem x128 : ∀ w ∈ [wSpot, wReader, wOpen, wWindow, wHearth, wCorner, wGlass], w.length ≤ 8 ∧ ∀ k, k < w.length → w.getD k 0 < 128 := by decide
theorem rd_word (hT : tOk c tp t) (H : xRD X h r t tp s) (hok : pOk c t s) {a : Nat} {w : List Nat} (ha : 1 ≤ a ∧ a ≤ 7) (hw : xtxt a = w.map nI) (hm : w ∈ [wSpot, wReader, wOpen, wWindow, wHearth, wCorner, wGlass]) : xR X m_X7_isWord 0 [.ref r, .ref a, xU] [] h = some (some (.int (if wB c w s = true then nI 1 else nI 0)), h) := rd_isWord hT H hok ha hw (x128 w hm).1 (x128 w hm).2
theorem rd_number (hT : tOk c tp t) (H : xRD X h r t tp s) (hok : pOk c t s) {lo hi : Nat} (hlo : lo < 1000) (hhi : hi < 1000) : ∃ h', xR X m_X7_readNumber 0 [.ref r, .int (nI lo), .int (nI hi), xU, xU] [] h = some (some (.int (nI (numV c s))), h') ∧ xRD X h' r t tp (numP c t lo hi s) ∧ xFr X (inR r) h h' := by
  have ht4 := hT.1
  have hr := H.2.2
  have c0 := H.1
  have t0 := H.2.1
  have hv := numV_lt hok
  by_cases k1 : s.1 = 2
  · have e1 : nI s.1 = nI 2 := by rw [k1]
    obtain ⟨o1, o2⟩ := hok.2.2.1 k1
    have o3 := hok.1
    have o4 := hok.2.1
    have L : ∀ n j, j + n = s.2.2.1 - s.2.1 → xR X m_X7_readNumber 16 [.ref r, .int (nI lo), .int (nI hi), .int (nI (numS c s.2.1 j)), .int (nI (s.2.1 + j))] [] h = xR X m_X7_readNumber 47 [.ref r, .int (nI lo), .int (nI hi), .int (nI (numV c s)), .int (nI s.2.2.1)] [] h := by
      intro n
      induction n with
      | zero =>
        intro j hj
        have e2 : ¬ nI (s.2.1 + j) < nI s.2.2.1 := nI_nlt (by omega) (by omega)
        rw [e_X7_readNumber_16]
        simp (disch := first | exact xnl_i _ | exact xnl_r _ | exact xnl_u _ | exact xnl_n | exact zI_2 | exact zI_24 | assumption | omega | (simp only [xset_len]; omega)) only [↓reduceIte, xbd_s, xpv_n, xpv_s, e_X7_readNumber_0, e_X7_readNumber_1, e_X7_readNumber_2, e_X7_readNumber_3, e_X7_readNumber_6, e_X7_readNumber_7, e_X7_readNumber_10, e_X7_readNumber_11, e_X7_readNumber_14, e_X7_readNumber_18, e_X7_readNumber_19, e_X7_readNumber_22, e_X7_readNumber_25, e_X7_readNumber_26, e_X7_readNumber_28, e_X7_readNumber_29, e_X7_readNumber_30, e_X7_readNumber_33, e_X7_readNumber_35, e_X7_readNumber_36, e_X7_readNumber_37, e_X7_readNumber_39, e_X7_readNumber_40, e_X7_readNumber_41, e_X7_readNumber_44, e_X7_readNumber_48, e_X7_readNumber_51, e_X7_readNumber_52, e_X7_readNumber_55, e_X7_readNumber_56, e_X7_readNumber_57, c_X7_readNumber_53_6_0, c_X7_readNumber_41_6_0, e_X7_readNumber_60, e_X7_readNumber_63, e_X7_readNumber_64, e_X7_readNumber_65, e_X7_readNumber_68, e_X7_readNumber_69, e_X7_readNumber_70, e_X7_readNumber_73, e_X7_readNumber_74, e_X7_readNumber_75, e_X7_readNumber_78, e_X7_readNumber_81, e_X7_readNumber_82, e_X7_readNumber_85, e_X7_readNumber_86, g_7_135_6, g_7_138_6, g_7_50_6, g_7_9_6, c0, e2]
        unfold numV
        rw [if_pos k1, show s.2.2.1 - s.2.1 = j by omega, show s.2.1 + j = s.2.2.1 by omega]
      | succ n ih =>
        intro j hj
        have e2 : nI (s.2.1 + j) < nI s.2.2.1 := nI_lt (by omega) (by omega)
        obtain ⟨b1, b2⟩ := hT.2 (s.2.1 + j) (by omega)
        obtain ⟨d1, d2⟩ := o2 (s.2.1 + j) (by omega) (by omega)
        have q := fun K : Value → Option (Option Value × xH) => xl_b (n := 400) (f := tp) (K := K) (k := s.2.1 + j) (by omega) (by omega)
        rw [b2, bt_lo _ (by omega)] at q
        have e3 : nI (numS c s.2.1 j * 10 + c (s.2.1 + j)) - nI 48 = nI (numS c s.2.1 (j + 1)) := by
          rw [nI_sub' (by omega)]
          show _ = nI (numS c s.2.1 j * 10 + (c (s.2.1 + j) - 48))
          congr 1
          omega
        rw [← ih (j + 1) (by omega), e_X7_readNumber_16]
        simp (disch := first | exact xnl_i _ | exact xnl_r _ | exact xnl_u _ | exact xnl_n | exact zI_2 | exact zI_24 | assumption | omega | (simp only [xset_len]; omega)) only [↓reduceIte, xbd_s, xpv_n, xpv_s, e_X7_readNumber_0, e_X7_readNumber_1, e_X7_readNumber_2, e_X7_readNumber_3, e_X7_readNumber_6, e_X7_readNumber_7, e_X7_readNumber_10, e_X7_readNumber_11, e_X7_readNumber_14, e_X7_readNumber_18, e_X7_readNumber_19, e_X7_readNumber_22, e_X7_readNumber_25, e_X7_readNumber_26, e_X7_readNumber_28, e_X7_readNumber_29, e_X7_readNumber_30, e_X7_readNumber_33, e_X7_readNumber_35, e_X7_readNumber_36, e_X7_readNumber_37, e_X7_readNumber_39, e_X7_readNumber_40, e_X7_readNumber_41, e_X7_readNumber_44, e_X7_readNumber_48, e_X7_readNumber_51, e_X7_readNumber_52, e_X7_readNumber_55, e_X7_readNumber_56, e_X7_readNumber_57, c_X7_readNumber_53_6_0, c_X7_readNumber_41_6_0, e_X7_readNumber_60, e_X7_readNumber_63, e_X7_readNumber_64, e_X7_readNumber_65, e_X7_readNumber_68, e_X7_readNumber_69, e_X7_readNumber_70, e_X7_readNumber_73, e_X7_readNumber_74, e_X7_readNumber_75, e_X7_readNumber_78, e_X7_readNumber_81, e_X7_readNumber_82, e_X7_readNumber_85, e_X7_readNumber_86, g_7_135_6, g_7_138_6, g_7_50_6, g_7_9_6, c0, t0, if_pos e2, q, nI_mul, nI_add, e3, nI_inc]
        rfl
    have P0 : xR X m_X7_readNumber 0 [.ref r, .int (nI lo), .int (nI hi), xU, xU] [] h = xR X m_X7_readNumber 47 [.ref r, .int (nI lo), .int (nI hi), .int (nI (numV c s)), .int (nI s.2.2.1)] [] h := by
      rw [← L (s.2.2.1 - s.2.1) 0 (by omega)]
      simp (disch := first | exact xnl_i _ | exact xnl_r _ | exact xnl_u _ | exact xnl_n | exact zI_2 | exact zI_24 | assumption | omega | (simp only [xset_len]; omega)) only [↓reduceIte, xbd_s, xpv_n, xpv_s, e_X7_readNumber_0, e_X7_readNumber_1, e_X7_readNumber_2, e_X7_readNumber_3, e_X7_readNumber_6, e_X7_readNumber_7, e_X7_readNumber_10, e_X7_readNumber_11, e_X7_readNumber_14, e_X7_readNumber_18, e_X7_readNumber_19, e_X7_readNumber_22, e_X7_readNumber_25, e_X7_readNumber_26, e_X7_readNumber_28, e_X7_readNumber_29, e_X7_readNumber_30, e_X7_readNumber_33, e_X7_readNumber_35, e_X7_readNumber_36, e_X7_readNumber_37, e_X7_readNumber_39, e_X7_readNumber_40, e_X7_readNumber_41, e_X7_readNumber_44, e_X7_readNumber_48, e_X7_readNumber_51, e_X7_readNumber_52, e_X7_readNumber_55, e_X7_readNumber_56, e_X7_readNumber_57, c_X7_readNumber_53_6_0, c_X7_readNumber_41_6_0, e_X7_readNumber_60, e_X7_readNumber_63, e_X7_readNumber_64, e_X7_readNumber_65, e_X7_readNumber_68, e_X7_readNumber_69, e_X7_readNumber_70, e_X7_readNumber_73, e_X7_readNumber_74, e_X7_readNumber_75, e_X7_readNumber_78, e_X7_readNumber_81, e_X7_readNumber_82, e_X7_readNumber_85, e_X7_readNumber_86, g_7_135_6, g_7_138_6, g_7_50_6, g_7_9_6, c0, if_pos e1]
      rfl
    unfold numP
    rw [if_pos k1]
    by_cases k2 : numV c s < lo ∨ hi < numV c s
    · rw [if_pos k2]
      obtain ⟨h', f1, f2, f3⟩ := rd_fail H 2 hok.2.2.2.2.2
      refine ⟨h', ?_, f2, f3⟩
      refine P0.trans ?_
      by_cases k3 : numV c s < lo
      · have e4 : nI (numV c s) < nI lo := nI_lt k3 (by omega)
        simp (disch := first | exact xnl_i _ | exact xnl_r _ | exact xnl_u _ | exact xnl_n | exact zI_2 | exact zI_24 | assumption | omega | (simp only [xset_len]; omega)) only [↓reduceIte, xbd_s, xpv_n, xpv_s, e_X7_readNumber_0, e_X7_readNumber_1, e_X7_readNumber_2, e_X7_readNumber_3, e_X7_readNumber_6, e_X7_readNumber_7, e_X7_readNumber_10, e_X7_readNumber_11, e_X7_readNumber_14, e_X7_readNumber_18, e_X7_readNumber_19, e_X7_readNumber_22, e_X7_readNumber_25, e_X7_readNumber_26, e_X7_readNumber_28, e_X7_readNumber_29, e_X7_readNumber_30, e_X7_readNumber_33, e_X7_readNumber_35, e_X7_readNumber_36, e_X7_readNumber_37, e_X7_readNumber_39, e_X7_readNumber_40, e_X7_readNumber_41, e_X7_readNumber_44, e_X7_readNumber_47, e_X7_readNumber_48, e_X7_readNumber_51, e_X7_readNumber_52, e_X7_readNumber_55, e_X7_readNumber_56, e_X7_readNumber_57, c_X7_readNumber_53_6_0, c_X7_readNumber_41_6_0, e_X7_readNumber_60, e_X7_readNumber_63, e_X7_readNumber_64, e_X7_readNumber_65, e_X7_readNumber_68, e_X7_readNumber_69, e_X7_readNumber_70, e_X7_readNumber_73, e_X7_readNumber_74, e_X7_readNumber_75, e_X7_readNumber_78, e_X7_readNumber_81, e_X7_readNumber_82, e_X7_readNumber_85, e_X7_readNumber_86, g_7_135_6, g_7_138_6, g_7_50_6, g_7_9_6, c0, if_pos e1, if_pos e4, f1]
      · have e4 : ¬ nI (numV c s) < nI lo := nI_nlt (by omega) (by omega)
        have e5 : nI hi < nI (numV c s) := nI_lt (k2.resolve_left k3) (by omega)
        simp (disch := first | exact xnl_i _ | exact xnl_r _ | exact xnl_u _ | exact xnl_n | exact zI_2 | exact zI_24 | assumption | omega | (simp only [xset_len]; omega)) only [↓reduceIte, xbd_s, xpv_n, xpv_s, e_X7_readNumber_0, e_X7_readNumber_1, e_X7_readNumber_2, e_X7_readNumber_3, e_X7_readNumber_6, e_X7_readNumber_7, e_X7_readNumber_10, e_X7_readNumber_11, e_X7_readNumber_14, e_X7_readNumber_18, e_X7_readNumber_19, e_X7_readNumber_22, e_X7_readNumber_25, e_X7_readNumber_26, e_X7_readNumber_28, e_X7_readNumber_29, e_X7_readNumber_30, e_X7_readNumber_33, e_X7_readNumber_35, e_X7_readNumber_36, e_X7_readNumber_37, e_X7_readNumber_39, e_X7_readNumber_40, e_X7_readNumber_41, e_X7_readNumber_44, e_X7_readNumber_47, e_X7_readNumber_48, e_X7_readNumber_51, e_X7_readNumber_52, e_X7_readNumber_55, e_X7_readNumber_56, e_X7_readNumber_57, c_X7_readNumber_53_6_0, c_X7_readNumber_41_6_0, e_X7_readNumber_60, e_X7_readNumber_63, e_X7_readNumber_64, e_X7_readNumber_65, e_X7_readNumber_68, e_X7_readNumber_69, e_X7_readNumber_70, e_X7_readNumber_73, e_X7_readNumber_74, e_X7_readNumber_75, e_X7_readNumber_78, e_X7_readNumber_81, e_X7_readNumber_82, e_X7_readNumber_85, e_X7_readNumber_86, g_7_135_6, g_7_138_6, g_7_50_6, g_7_9_6, c0, if_pos e1, if_neg e4, if_pos e5, f1]
    · rw [if_neg k2]
      have e4 : ¬ nI (numV c s) < nI lo := nI_nlt (by omega) (by omega)
      have e5 : ¬ nI hi < nI (numV c s) := nI_nlt (by omega) (by omega)
      obtain ⟨h', f1, f2, f3⟩ := rd_advance hT H hok
      refine ⟨h', ?_, f2, f3⟩
      refine P0.trans ?_
      simp (disch := first | exact xnl_i _ | exact xnl_r _ | exact xnl_u _ | exact xnl_n | exact zI_2 | exact zI_24 | assumption | omega | (simp only [xset_len]; omega)) only [↓reduceIte, xbd_s, xpv_n, xpv_s, e_X7_readNumber_0, e_X7_readNumber_1, e_X7_readNumber_2, e_X7_readNumber_3, e_X7_readNumber_6, e_X7_readNumber_7, e_X7_readNumber_10, e_X7_readNumber_11, e_X7_readNumber_14, e_X7_readNumber_18, e_X7_readNumber_19, e_X7_readNumber_22, e_X7_readNumber_25, e_X7_readNumber_26, e_X7_readNumber_28, e_X7_readNumber_29, e_X7_readNumber_30, e_X7_readNumber_33, e_X7_readNumber_35, e_X7_readNumber_36, e_X7_readNumber_37, e_X7_readNumber_39, e_X7_readNumber_40, e_X7_readNumber_41, e_X7_readNumber_44, e_X7_readNumber_47, e_X7_readNumber_48, e_X7_readNumber_51, e_X7_readNumber_52, e_X7_readNumber_55, e_X7_readNumber_56, e_X7_readNumber_57, c_X7_readNumber_53_6_0, c_X7_readNumber_41_6_0, e_X7_readNumber_60, e_X7_readNumber_63, e_X7_readNumber_64, e_X7_readNumber_65, e_X7_readNumber_68, e_X7_readNumber_69, e_X7_readNumber_70, e_X7_readNumber_73, e_X7_readNumber_74, e_X7_readNumber_75, e_X7_readNumber_78, e_X7_readNumber_81, e_X7_readNumber_82, e_X7_readNumber_85, e_X7_readNumber_86, g_7_135_6, g_7_138_6, g_7_50_6, g_7_9_6, c0, if_pos e1, if_neg e4, if_neg e5, f1]
  · have h4 := hok.2.2.2.2.1
    have e1 : ¬ nI s.1 = nI 2 := by
      rw [xeq_i, nI_toInt (by omega), nI_toInt (by omega)]
      omega
    unfold numP
    rw [if_neg k1]
    obtain ⟨h', f1, f2, f3⟩ := rd_fail H 1 hok.2.2.2.2.2
    refine ⟨h', ?_, f2, f3⟩
    have e2 : numV c s = 0 := if_neg k1
    rw [e2]
    simp (disch := first | exact xnl_i _ | exact xnl_r _ | exact xnl_u _ | exact xnl_n | exact zI_2 | exact zI_24 | assumption | omega | (simp only [xset_len]; omega)) only [↓reduceIte, xbd_s, xpv_n, xpv_s, e_X7_readNumber_0, e_X7_readNumber_1, e_X7_readNumber_2, e_X7_readNumber_3, e_X7_readNumber_6, e_X7_readNumber_7, e_X7_readNumber_10, e_X7_readNumber_11, e_X7_readNumber_14, e_X7_readNumber_18, e_X7_readNumber_19, e_X7_readNumber_22, e_X7_readNumber_25, e_X7_readNumber_26, e_X7_readNumber_28, e_X7_readNumber_29, e_X7_readNumber_30, e_X7_readNumber_33, e_X7_readNumber_35, e_X7_readNumber_36, e_X7_readNumber_37, e_X7_readNumber_39, e_X7_readNumber_40, e_X7_readNumber_41, e_X7_readNumber_44, e_X7_readNumber_47, e_X7_readNumber_48, e_X7_readNumber_51, e_X7_readNumber_52, e_X7_readNumber_55, e_X7_readNumber_56, e_X7_readNumber_57, c_X7_readNumber_53_6_0, c_X7_readNumber_41_6_0, e_X7_readNumber_60, e_X7_readNumber_63, e_X7_readNumber_64, e_X7_readNumber_65, e_X7_readNumber_68, e_X7_readNumber_69, e_X7_readNumber_70, e_X7_readNumber_73, e_X7_readNumber_74, e_X7_readNumber_75, e_X7_readNumber_78, e_X7_readNumber_81, e_X7_readNumber_82, e_X7_readNumber_85, e_X7_readNumber_86, g_7_135_6, g_7_138_6, g_7_50_6, g_7_9_6, c0, if_neg e1, f1]
theorem rd_end (hT : tOk c tp t) (H : xRD X h r t tp s) (hok : pOk c t s) : ∃ h', xR X m_X7_readEnd 0 [.ref r] [] h = some (none, h') ∧ xRD X h' r t tp (endP c t s) ∧ xFr X (inR r) h h' := by
  have c0 := H.1
  have hr := H.2.2
  unfold endP
  by_cases k1 : s.1 = 3
  · have e1 : nI s.1 = nI 3 := by rw [k1]
    rw [if_pos k1]
    obtain ⟨h', f1, f2, f3⟩ := rd_advance hT H hok
    exact ⟨h', by simp (disch := first | exact xnl_i _ | exact xnl_r _ | exact xnl_u _ | exact xnl_n | exact zI_2 | exact zI_24 | assumption | omega | (simp only [xset_len]; omega)) only [↓reduceIte, xbd_s, xpv_n, xpv_s, e_X7_readEnd_0, e_X7_readEnd_1, e_X7_readEnd_4, e_X7_readEnd_5, e_X7_readEnd_8, e_X7_readEnd_9, c_X7_readEnd_41_6_0, c_X7_readEnd_53_6_0, e_X7_readEnd_12, e_X7_readEnd_15, e_X7_readEnd_16, e_X7_readEnd_17, e_X7_readEnd_20, g_7_50_6, c0, if_pos e1, f1], f2, f3⟩
  · have h4 := hok.2.2.2.2.1
    have e1 : ¬ nI s.1 = nI 3 := by
      rw [xeq_i, nI_toInt (by omega), nI_toInt (by omega)]
      omega
    rw [if_neg k1]
    obtain ⟨h', f1, f2, f3⟩ := rd_fail H 1 hok.2.2.2.2.2
    exact ⟨h', by simp (disch := first | exact xnl_i _ | exact xnl_r _ | exact xnl_u _ | exact xnl_n | exact zI_2 | exact zI_24 | assumption | omega | (simp only [xset_len]; omega)) only [↓reduceIte, xbd_s, xpv_n, xpv_s, e_X7_readEnd_0, e_X7_readEnd_1, e_X7_readEnd_4, e_X7_readEnd_5, e_X7_readEnd_8, e_X7_readEnd_9, c_X7_readEnd_41_6_0, c_X7_readEnd_53_6_0, e_X7_readEnd_12, e_X7_readEnd_15, e_X7_readEnd_16, e_X7_readEnd_17, e_X7_readEnd_20, g_7_50_6, c0, if_neg e1, f1], f2, f3⟩
theorem rd_kindOf (hT : tOk c tp t) (H : xRD X h r t tp s) (hok : pOk c t s) : xR X m_X7_kindOfWord 0 [.ref r] [] h = some (some (.int (nI (kindN c s))), h) := by
  have c0 := H.1
  have hr := H.2.2
  have q3 := rd_word hT H hok (a := 3) (w := wOpen) (by omega) rfl (by decide)
  have q4 := rd_word hT H hok (a := 4) (w := wWindow) (by omega) rfl (by decide)
  have q5 := rd_word hT H hok (a := 5) (w := wHearth) (by omega) rfl (by decide)
  have q6 := rd_word hT H hok (a := 6) (w := wCorner) (by omega) rfl (by decide)
  have q7 := rd_word hT H hok (a := 7) (w := wGlass) (by omega) rfl (by decide)
  unfold kindN
  by_cases k3 : wB c wOpen s = true
  · rw [if_pos k3] at q3 ⊢
    simp (disch := first | exact xnl_i _ | exact xnl_r _ | exact xnl_u _ | exact xnl_n | exact zI_2 | exact zI_24 | assumption | omega | (simp only [xset_len]; omega)) only [↓reduceIte, xbd_s, xpv_n, xpv_s, e_X7_kindOfWord_0, e_X7_kindOfWord_1, e_X7_kindOfWord_3, c_X7_kindOfWord_62_6_0, e_X7_kindOfWord_6, e_X7_kindOfWord_9, e_X7_kindOfWord_10, e_X7_kindOfWord_11, e_X7_kindOfWord_12, e_X7_kindOfWord_14, e_X7_kindOfWord_17, e_X7_kindOfWord_20, e_X7_kindOfWord_21, e_X7_kindOfWord_22, e_X7_kindOfWord_23, e_X7_kindOfWord_25, e_X7_kindOfWord_28, e_X7_kindOfWord_31, e_X7_kindOfWord_32, e_X7_kindOfWord_33, e_X7_kindOfWord_34, e_X7_kindOfWord_36, e_X7_kindOfWord_39, e_X7_kindOfWord_42, e_X7_kindOfWord_43, e_X7_kindOfWord_44, e_X7_kindOfWord_45, e_X7_kindOfWord_47, e_X7_kindOfWord_50, e_X7_kindOfWord_53, e_X7_kindOfWord_54, e_X7_kindOfWord_57, e_X7_kindOfWord_58, c0, q3, zI_1]
  rw [if_neg k3] at q3 ⊢
  by_cases k4 : wB c wWindow s = true
  · rw [if_pos k4] at q4 ⊢
    simp (disch := first | exact xnl_i _ | exact xnl_r _ | exact xnl_u _ | exact xnl_n | exact zI_2 | exact zI_24 | assumption | omega | (simp only [xset_len]; omega)) only [↓reduceIte, xbd_s, xpv_n, xpv_s, e_X7_kindOfWord_0, e_X7_kindOfWord_1, e_X7_kindOfWord_3, c_X7_kindOfWord_62_6_0, e_X7_kindOfWord_6, e_X7_kindOfWord_9, e_X7_kindOfWord_10, e_X7_kindOfWord_11, e_X7_kindOfWord_12, e_X7_kindOfWord_14, e_X7_kindOfWord_17, e_X7_kindOfWord_20, e_X7_kindOfWord_21, e_X7_kindOfWord_22, e_X7_kindOfWord_23, e_X7_kindOfWord_25, e_X7_kindOfWord_28, e_X7_kindOfWord_31, e_X7_kindOfWord_32, e_X7_kindOfWord_33, e_X7_kindOfWord_34, e_X7_kindOfWord_36, e_X7_kindOfWord_39, e_X7_kindOfWord_42, e_X7_kindOfWord_43, e_X7_kindOfWord_44, e_X7_kindOfWord_45, e_X7_kindOfWord_47, e_X7_kindOfWord_50, e_X7_kindOfWord_53, e_X7_kindOfWord_54, e_X7_kindOfWord_57, e_X7_kindOfWord_58, c0, q3, q4, if_pos z0, zI_1]
  rw [if_neg k4] at q4 ⊢
  by_cases k5 : wB c wHearth s = true
  · rw [if_pos k5] at q5 ⊢
    simp (disch := first | exact xnl_i _ | exact xnl_r _ | exact xnl_u _ | exact xnl_n | exact zI_2 | exact zI_24 | assumption | omega | (simp only [xset_len]; omega)) only [↓reduceIte, xbd_s, xpv_n, xpv_s, e_X7_kindOfWord_0, e_X7_kindOfWord_1, e_X7_kindOfWord_3, c_X7_kindOfWord_62_6_0, e_X7_kindOfWord_6, e_X7_kindOfWord_9, e_X7_kindOfWord_10, e_X7_kindOfWord_11, e_X7_kindOfWord_12, e_X7_kindOfWord_14, e_X7_kindOfWord_17, e_X7_kindOfWord_20, e_X7_kindOfWord_21, e_X7_kindOfWord_22, e_X7_kindOfWord_23, e_X7_kindOfWord_25, e_X7_kindOfWord_28, e_X7_kindOfWord_31, e_X7_kindOfWord_32, e_X7_kindOfWord_33, e_X7_kindOfWord_34, e_X7_kindOfWord_36, e_X7_kindOfWord_39, e_X7_kindOfWord_42, e_X7_kindOfWord_43, e_X7_kindOfWord_44, e_X7_kindOfWord_45, e_X7_kindOfWord_47, e_X7_kindOfWord_50, e_X7_kindOfWord_53, e_X7_kindOfWord_54, e_X7_kindOfWord_57, e_X7_kindOfWord_58, c0, q3, q4, q5, if_pos z0, zI_1]
  rw [if_neg k5] at q5 ⊢
  by_cases k6 : wB c wCorner s = true
  · rw [if_pos k6] at q6 ⊢
    simp (disch := first | exact xnl_i _ | exact xnl_r _ | exact xnl_u _ | exact xnl_n | exact zI_2 | exact zI_24 | assumption | omega | (simp only [xset_len]; omega)) only [↓reduceIte, xbd_s, xpv_n, xpv_s, e_X7_kindOfWord_0, e_X7_kindOfWord_1, e_X7_kindOfWord_3, c_X7_kindOfWord_62_6_0, e_X7_kindOfWord_6, e_X7_kindOfWord_9, e_X7_kindOfWord_10, e_X7_kindOfWord_11, e_X7_kindOfWord_12, e_X7_kindOfWord_14, e_X7_kindOfWord_17, e_X7_kindOfWord_20, e_X7_kindOfWord_21, e_X7_kindOfWord_22, e_X7_kindOfWord_23, e_X7_kindOfWord_25, e_X7_kindOfWord_28, e_X7_kindOfWord_31, e_X7_kindOfWord_32, e_X7_kindOfWord_33, e_X7_kindOfWord_34, e_X7_kindOfWord_36, e_X7_kindOfWord_39, e_X7_kindOfWord_42, e_X7_kindOfWord_43, e_X7_kindOfWord_44, e_X7_kindOfWord_45, e_X7_kindOfWord_47, e_X7_kindOfWord_50, e_X7_kindOfWord_53, e_X7_kindOfWord_54, e_X7_kindOfWord_57, e_X7_kindOfWord_58, c0, q3, q4, q5, q6, if_pos z0, zI_1]
  rw [if_neg k6] at q6 ⊢
  by_cases k7 : wB c wGlass s = true
  · rw [if_pos k7] at q7 ⊢
    simp (disch := first | exact xnl_i _ | exact xnl_r _ | exact xnl_u _ | exact xnl_n | exact zI_2 | exact zI_24 | assumption | omega | (simp only [xset_len]; omega)) only [↓reduceIte, xbd_s, xpv_n, xpv_s, e_X7_kindOfWord_0, e_X7_kindOfWord_1, e_X7_kindOfWord_3, c_X7_kindOfWord_62_6_0, e_X7_kindOfWord_6, e_X7_kindOfWord_9, e_X7_kindOfWord_10, e_X7_kindOfWord_11, e_X7_kindOfWord_12, e_X7_kindOfWord_14, e_X7_kindOfWord_17, e_X7_kindOfWord_20, e_X7_kindOfWord_21, e_X7_kindOfWord_22, e_X7_kindOfWord_23, e_X7_kindOfWord_25, e_X7_kindOfWord_28, e_X7_kindOfWord_31, e_X7_kindOfWord_32, e_X7_kindOfWord_33, e_X7_kindOfWord_34, e_X7_kindOfWord_36, e_X7_kindOfWord_39, e_X7_kindOfWord_42, e_X7_kindOfWord_43, e_X7_kindOfWord_44, e_X7_kindOfWord_45, e_X7_kindOfWord_47, e_X7_kindOfWord_50, e_X7_kindOfWord_53, e_X7_kindOfWord_54, e_X7_kindOfWord_57, e_X7_kindOfWord_58, c0, q3, q4, q5, q6, q7, if_pos z0, zI_1]
  · rw [if_neg k7] at q7 ⊢
    simp (disch := first | exact xnl_i _ | exact xnl_r _ | exact xnl_u _ | exact xnl_n | exact zI_2 | exact zI_24 | assumption | omega | (simp only [xset_len]; omega)) only [↓reduceIte, xbd_s, xpv_n, xpv_s, e_X7_kindOfWord_0, e_X7_kindOfWord_1, e_X7_kindOfWord_3, c_X7_kindOfWord_62_6_0, e_X7_kindOfWord_6, e_X7_kindOfWord_9, e_X7_kindOfWord_10, e_X7_kindOfWord_11, e_X7_kindOfWord_12, e_X7_kindOfWord_14, e_X7_kindOfWord_17, e_X7_kindOfWord_20, e_X7_kindOfWord_21, e_X7_kindOfWord_22, e_X7_kindOfWord_23, e_X7_kindOfWord_25, e_X7_kindOfWord_28, e_X7_kindOfWord_31, e_X7_kindOfWord_32, e_X7_kindOfWord_33, e_X7_kindOfWord_34, e_X7_kindOfWord_36, e_X7_kindOfWord_39, e_X7_kindOfWord_42, e_X7_kindOfWord_43, e_X7_kindOfWord_44, e_X7_kindOfWord_45, e_X7_kindOfWord_47, e_X7_kindOfWord_50, e_X7_kindOfWord_53, e_X7_kindOfWord_54, e_X7_kindOfWord_57, e_X7_kindOfWord_58, c0, q3, q4, q5, q6, q7, if_pos z0]
theorem kindN_le (c : Nat → Nat) (s : pT) : kindN c s ≤ 5 := by
  unfold kindN
  repeat' split
  all_goals omega
theorem rd_kind (hT : tOk c tp t) (H : xRD X h r t tp s) (hok : pOk c t s) : ∃ h', xR X m_X7_readKind 0 [.ref r, xU] [] h = some (some (.int (nI (kindN c s))), h') ∧ xRD X h' r t tp (kindP c t s) ∧ xFr X (inR r) h h' := by
  have c0 := H.1
  have hr := H.2.2
  have q := rd_kindOf hT H hok
  have h5 := kindN_le c s
  unfold kindP
  by_cases k1 : kindN c s = 0
  · have e1 : nI (kindN c s) = 0 := by rw [k1]; rfl
    rw [if_pos k1]
    obtain ⟨h', f1, f2, f3⟩ := rd_fail H 1 hok.2.2.2.2.2
    exact ⟨h', by simp (disch := first | exact xnl_i _ | exact xnl_r _ | exact xnl_u _ | exact xnl_n | exact zI_2 | exact zI_24 | assumption | omega | (simp only [xset_len]; omega)) only [↓reduceIte, xbd_s, xpv_n, xpv_s, e_X7_readKind_0, e_X7_readKind_1, c_X7_readKind_106_6_0, c_X7_readKind_53_6_0, c_X7_readKind_41_6_0, e_X7_readKind_4, e_X7_readKind_5, e_X7_readKind_6, e_X7_readKind_9, e_X7_readKind_10, e_X7_readKind_11, e_X7_readKind_14, e_X7_readKind_17, e_X7_readKind_18, e_X7_readKind_21, e_X7_readKind_22, c0, q, if_pos e1, f1], f2, f3⟩
  · have e1 : ¬ nI (kindN c s) = 0 := by
      rw [xeq_i, nI_toInt (by omega), xti0]
      omega
    rw [if_neg k1]
    obtain ⟨h', f1, f2, f3⟩ := rd_advance hT H hok
    exact ⟨h', by simp (disch := first | exact xnl_i _ | exact xnl_r _ | exact xnl_u _ | exact xnl_n | exact zI_2 | exact zI_24 | assumption | omega | (simp only [xset_len]; omega)) only [↓reduceIte, xbd_s, xpv_n, xpv_s, e_X7_readKind_0, e_X7_readKind_1, c_X7_readKind_106_6_0, c_X7_readKind_53_6_0, c_X7_readKind_41_6_0, e_X7_readKind_4, e_X7_readKind_5, e_X7_readKind_6, e_X7_readKind_9, e_X7_readKind_10, e_X7_readKind_11, e_X7_readKind_14, e_X7_readKind_17, e_X7_readKind_18, e_X7_readKind_21, e_X7_readKind_22, c0, q, if_neg e1, f1], f2, f3⟩
end XRB
