/-! the reference: when, whoOf, who, oneHand -/
section XMI
variable {X : xS} {h : xH} {S : Nat → Int32} {nm : Int64} {A : Nat → Nat → Int32} {n m hr : Nat}
theorem m_whenX (hM : xMB X h S nm A) (hn : n ≤ 7) (hA : A 0 1 = nI n) {x : Int32} (t w : Int32) (hx : x < 0 ∨ ¬ x < nI n) : xR X m_X12_when 0 [.ref 169, .int x, .int t, .int w] [] h = some (some (.int cBAD), h) := by
  have q := m_isSpotF hM hn hA hx
  have hc := hM.1
  simp (disch := first | exact xnl_i _ | exact xnl_r _ | exact xnl_u _ | exact xnl_n | exact zI_2 | exact zI_24 | assumption | omega | (simp only [xset_len]; omega)) only [↓reduceIte, xbd_s, xpv_n, xpv_s, e_X12_when_0, e_X12_when_1, e_X12_when_2, c_X12_when_167_11_0, c_X12_when_193_11_0, e_X12_when_5, e_X12_when_8, e_X12_when_9, e_X12_when_10, e_X12_when_13, e_X12_when_16, e_X12_when_19, e_X12_when_20, e_X12_when_21, e_X12_when_22, e_X12_when_25, e_X12_when_28, e_X12_when_30, e_X12_when_31, e_X12_when_32, e_X12_when_33, e_X12_when_34, e_X12_when_37, e_X12_when_38, e_X12_when_41, e_X12_when_42, e_X12_when_45, e_X12_when_48, e_X12_when_49, e_X12_when_52, g_12_187_11, g_12_190_11, hc, q]
theorem m_whoX (hM : xMB X h S nm A) (hn : n ≤ 7) (hA : A 0 1 = nI n) {x : Int32} (t w : Int32) (hx : x < 0 ∨ ¬ x < nI n) : xR X m_X12_who 0 [.ref 169, .int x, .int t, .int w] [] h = some (some (.int cBAD), h) := by
  have q := m_isSpotF hM hn hA hx
  have hc := hM.1
  simp (disch := first | exact xnl_i _ | exact xnl_r _ | exact xnl_u _ | exact xnl_n | exact zI_2 | exact zI_24 | assumption | omega | (simp only [xset_len]; omega)) only [↓reduceIte, xbd_s, xpv_n, xpv_s, e_X12_who_0, e_X12_who_1, e_X12_who_2, c_X12_who_167_11_0, c_X12_who_193_11_0, c_X12_who_196_11_0, e_X12_who_5, e_X12_who_8, e_X12_who_9, e_X12_who_10, e_X12_who_13, e_X12_who_16, e_X12_who_19, e_X12_who_20, e_X12_who_21, e_X12_who_22, e_X12_who_25, e_X12_who_28, e_X12_who_30, e_X12_who_31, e_X12_who_32, e_X12_who_33, e_X12_who_34, e_X12_who_37, e_X12_who_38, e_X12_who_41, e_X12_who_43, e_X12_who_46, e_X12_who_48, e_X12_who_51, e_X12_who_52, e_X12_who_53, e_X12_who_54, e_X12_who_57, e_X12_who_58, e_X12_who_61, e_X12_who_62, e_X12_who_65, g_12_187_11, hc, q]
theorem m_whenB (hM : xMB X h S nm A) (T : xST (A 0) n m hr) {s : Nat} (hs : s < n) {t w : Int32} (hx : t < 0 ∨ nI 9999 < t ∨ (¬ w = 0 ∧ ¬ w = 1)) : xR X m_X12_when 0 [.ref 169, .int (nI s), .int t, .int w] [] h = some (some (.int cBAD), h) := by
  have q := m_isSpotT hM T.2.2.1 T.2.1 hs
  have hc := hM.1
  by_cases c1 : t < 0 ∨ nI 9999 < t
  · have q2 := fun hh : xH => m_inF (X := X) (h := hh) (x := t) (lo := 0) (hi := nI 9999) c1
    simp (disch := first | exact xnl_i _ | exact xnl_r _ | exact xnl_u _ | exact xnl_n | exact zI_2 | exact zI_24 | assumption | omega | (simp only [xset_len]; omega)) only [↓reduceIte, xbd_s, xpv_n, xpv_s, e_X12_when_0, e_X12_when_1, e_X12_when_2, c_X12_when_167_11_0, c_X12_when_193_11_0, e_X12_when_5, e_X12_when_8, e_X12_when_9, e_X12_when_10, e_X12_when_13, e_X12_when_16, e_X12_when_19, e_X12_when_20, e_X12_when_21, e_X12_when_22, e_X12_when_25, e_X12_when_28, e_X12_when_30, e_X12_when_31, e_X12_when_32, e_X12_when_33, e_X12_when_34, e_X12_when_37, e_X12_when_38, e_X12_when_41, e_X12_when_42, e_X12_when_45, e_X12_when_48, e_X12_when_49, e_X12_when_52, g_12_187_11, g_12_190_11, hc, q, z0, q2, ne10]
  · have q2 := fun hh : xH => m_inT (X := X) (h := hh) (x := t) (lo := 0) (hi := nI 9999) (fun e => c1 (Or.inl e)) (fun e => c1 (Or.inr e))
    have c2 : ¬ w = 0 ∧ ¬ w = 1 := by
      rcases hx with e | e | e
      · exact absurd (Or.inl e) c1
      · exact absurd (Or.inr e) c1
      · exact e
    have q3 := fun hh : xH => m_inF (X := X) (h := hh) (x := w) (lo := 0) (hi := 1) (in01F c2.1 c2.2)
    simp (disch := first | exact xnl_i _ | exact xnl_r _ | exact xnl_u _ | exact xnl_n | exact zI_2 | exact zI_24 | assumption | omega | (simp only [xset_len]; omega)) only [↓reduceIte, xbd_s, xpv_n, xpv_s, e_X12_when_0, e_X12_when_1, e_X12_when_2, c_X12_when_167_11_0, c_X12_when_193_11_0, e_X12_when_5, e_X12_when_8, e_X12_when_9, e_X12_when_10, e_X12_when_13, e_X12_when_16, e_X12_when_19, e_X12_when_20, e_X12_when_21, e_X12_when_22, e_X12_when_25, e_X12_when_28, e_X12_when_30, e_X12_when_31, e_X12_when_32, e_X12_when_33, e_X12_when_34, e_X12_when_37, e_X12_when_38, e_X12_when_41, e_X12_when_42, e_X12_when_45, e_X12_when_48, e_X12_when_49, e_X12_when_52, g_12_187_11, g_12_190_11, hc, q, z0, z1, q2, q3, ne10]
theorem m_whoB (hM : xMB X h S nm A) (T : xST (A 0) n m hr) {s : Nat} (hs : s < n) {t w : Int32} (hx : t < 0 ∨ nI 9999 < t ∨ (¬ w = 0 ∧ ¬ w = 1)) : xR X m_X12_who 0 [.ref 169, .int (nI s), .int t, .int w] [] h = some (some (.int cBAD), h) := by
  have q := m_isSpotT hM T.2.2.1 T.2.1 hs
  have hc := hM.1
  by_cases c1 : t < 0 ∨ nI 9999 < t
  · have q2 := fun hh : xH => m_inF (X := X) (h := hh) (x := t) (lo := 0) (hi := nI 9999) c1
    simp (disch := first | exact xnl_i _ | exact xnl_r _ | exact xnl_u _ | exact xnl_n | exact zI_2 | exact zI_24 | assumption | omega | (simp only [xset_len]; omega)) only [↓reduceIte, xbd_s, xpv_n, xpv_s, e_X12_who_0, e_X12_who_1, e_X12_who_2, c_X12_who_167_11_0, c_X12_who_193_11_0, c_X12_who_196_11_0, e_X12_who_5, e_X12_who_8, e_X12_who_9, e_X12_who_10, e_X12_who_13, e_X12_who_16, e_X12_who_19, e_X12_who_20, e_X12_who_21, e_X12_who_22, e_X12_who_25, e_X12_who_28, e_X12_who_30, e_X12_who_31, e_X12_who_32, e_X12_who_33, e_X12_who_34, e_X12_who_37, e_X12_who_38, e_X12_who_41, e_X12_who_43, e_X12_who_46, e_X12_who_48, e_X12_who_51, e_X12_who_52, e_X12_who_53, e_X12_who_54, e_X12_who_57, e_X12_who_58, e_X12_who_61, e_X12_who_62, e_X12_who_65, g_12_187_11, hc, q, z0, q2, ne10]
  · have q2 := fun hh : xH => m_inT (X := X) (h := hh) (x := t) (lo := 0) (hi := nI 9999) (fun e => c1 (Or.inl e)) (fun e => c1 (Or.inr e))
    have c2 : ¬ w = 0 ∧ ¬ w = 1 := by
      rcases hx with e | e | e
      · exact absurd (Or.inl e) c1
      · exact absurd (Or.inr e) c1
      · exact e
    have q3 := fun hh : xH => m_inF (X := X) (h := hh) (x := w) (lo := 0) (hi := 1) (in01F c2.1 c2.2)
    simp (disch := first | exact xnl_i _ | exact xnl_r _ | exact xnl_u _ | exact xnl_n | exact zI_2 | exact zI_24 | assumption | omega | (simp only [xset_len]; omega)) only [↓reduceIte, xbd_s, xpv_n, xpv_s, e_X12_who_0, e_X12_who_1, e_X12_who_2, c_X12_who_167_11_0, c_X12_who_193_11_0, c_X12_who_196_11_0, e_X12_who_5, e_X12_who_8, e_X12_who_9, e_X12_who_10, e_X12_who_13, e_X12_who_16, e_X12_who_19, e_X12_who_20, e_X12_who_21, e_X12_who_22, e_X12_who_25, e_X12_who_28, e_X12_who_30, e_X12_who_31, e_X12_who_32, e_X12_who_33, e_X12_who_34, e_X12_who_37, e_X12_who_38, e_X12_who_41, e_X12_who_43, e_X12_who_46, e_X12_who_48, e_X12_who_51, e_X12_who_52, e_X12_who_53, e_X12_who_54, e_X12_who_57, e_X12_who_58, e_X12_who_61, e_X12_who_62, e_X12_who_65, g_12_187_11, hc, q, z0, z1, q2, q3, ne10]
theorem m_find2 (hM : xMB X h S nm A) (T : xST (A 0) n m hr) {s : Nat} (hs : s < n) {d : Int32} (h1 : ¬ d < 0) (h2 : ¬ nI 9999 < d) (hF : ∀ t, 0 ≤ (mfl (A 0) s t).toInt ∧ (mfl (A 0) s t).toInt ≤ 10) : ∃ h', xR X m_X12_findWhen 0 [.ref 169, .int (nI s), .int d, xU, xU] [] h = some (none, h') ∧ xMB X h' (upd (upd S 11 (fwP (lTS (mfl (A 0) s) d hr (nI 0)) (mfl (A 0) s)).1) 12 (fwP (lTS (mfl (A 0) s) d hr (nI 0)) (mfl (A 0) s)).2) nm A ∧ xFr X inM h h' := by
  have hr9 := T.2.2.2.2.2.2.1
  rw [xlt_i] at h1 h2
  rw [xti0] at h1
  rw [nI_toInt (by omega)] at h2
  have e := fw_D (mfl (A 0) s) hF d hr hr9 (by omega)
  rw [← e]
  exact m_findWhen hM T hs d
theorem m_when (hM : xMB X h S nm A) (T : xST (A 0) n m hr) {s : Nat} (hs : s < n) {d : Int32} (h1 : ¬ d < 0) (h2 : ¬ nI 9999 < d) (hF : ∀ t, 0 ≤ (mfl (A 0) s t).toInt ∧ (mfl (A 0) s t).toInt ≤ 10) {w : Int32} (hw : w = 0 ∨ w = 1) : ∃ h' S', xR X m_X12_when 0 [.ref 169, .int (nI s), .int d, .int w] [] h = some (some (.int (if w = 0 then (fwP (lTS (mfl (A 0) s) d hr (nI 0)) (mfl (A 0) s)).1 else (fwP (lTS (mfl (A 0) s) d hr (nI 0)) (mfl (A 0) s)).2)), h') ∧ xMB X h' S' nm A ∧ kpt S S' ∧ xFr X inM h h' := by
  have q := m_isSpotT hM T.2.2.1 T.2.1 hs
  have q2 := fun hh : xH => m_inT (X := X) (h := hh) (x := d) (lo := 0) (hi := nI 9999) h1 h2
  have q3 := fun hh : xH => m_in01 (X := X) (h := hh) hw
  obtain ⟨h', e1, e2, e3⟩ := m_find2 hM T hs h1 h2 hF
  refine ⟨h', _, ?_, e2, kpt_2 (by omega) (by omega), e3⟩
  have hc := hM.1
  have hc1 := e2.1
  rw [upd_eq, upd_ne (show 11 ≠ 12 by decide), upd_eq] at hc1
  by_cases c : w = 0
  · simp (disch := first | exact xnl_i _ | exact xnl_r _ | exact xnl_u _ | exact xnl_n | exact zI_2 | exact zI_24 | assumption | omega | (simp only [xset_len]; omega)) only [↓reduceIte, xbd_s, xpv_n, xpv_s, e_X12_when_0, e_X12_when_1, e_X12_when_2, c_X12_when_167_11_0, c_X12_when_193_11_0, e_X12_when_5, e_X12_when_8, e_X12_when_9, e_X12_when_10, e_X12_when_13, e_X12_when_16, e_X12_when_19, e_X12_when_20, e_X12_when_21, e_X12_when_22, e_X12_when_25, e_X12_when_28, e_X12_when_30, e_X12_when_31, e_X12_when_32, e_X12_when_33, e_X12_when_34, e_X12_when_37, e_X12_when_38, e_X12_when_41, e_X12_when_42, e_X12_when_45, e_X12_when_48, e_X12_when_49, e_X12_when_52, g_12_187_11, g_12_190_11, hc, q, z0, z1, q2, q3, ne10, e1, hc1, if_pos c]
  · simp (disch := first | exact xnl_i _ | exact xnl_r _ | exact xnl_u _ | exact xnl_n | exact zI_2 | exact zI_24 | assumption | omega | (simp only [xset_len]; omega)) only [↓reduceIte, xbd_s, xpv_n, xpv_s, e_X12_when_0, e_X12_when_1, e_X12_when_2, c_X12_when_167_11_0, c_X12_when_193_11_0, e_X12_when_5, e_X12_when_8, e_X12_when_9, e_X12_when_10, e_X12_when_13, e_X12_when_16, e_X12_when_19, e_X12_when_20, e_X12_when_21, e_X12_when_22, e_X12_when_25, e_X12_when_28, e_X12_when_30, e_X12_when_31, e_X12_when_32, e_X12_when_33, e_X12_when_34, e_X12_when_37, e_X12_when_38, e_X12_when_41, e_X12_when_42, e_X12_when_45, e_X12_when_48, e_X12_when_49, e_X12_when_52, g_12_187_11, g_12_190_11, hc, q, z0, z1, q2, q3, ne10, e1, hc1, if_neg c]
theorem m_whoOf (hM : xMB X h S nm A) (T : xST (A 0) n m hr) {fst l : Nat} (hf : S 11 = nI fst) (hl : S 12 = nI l) (hfl : fst ≤ l) (hl9 : l ≤ 999) (e : Int32) : xR X m_X12_whoOf 0 [.ref 169, .int e, xU, xU, xU, xU, xU] [] h = some (some (.int (if e = 0 then (xfold (whoF (cmS m (fun r => A 0 (17 + r)) (fun r => A 0 (21 + r))) fst) (l - fst + 1) (nI 0, allS m)).1 else (xfold (whoF (cmS m (fun r => A 0 (17 + r)) (fun r => A 0 (21 + r))) fst) (l - fst + 1) (nI 0, allS m)).2)), h) := by
  obtain ⟨hc, a0, a1, a2, a3, a4, a5, a6, a7, a8, a9⟩ := hM
  rw [hf, hl] at hc
  have h2m := T.2.2.2.1
  have hm4 := T.2.2.2.2.1
  have In : ∀ t one each w0 w1, t ≤ 999 → xnl w0 = true → xnl w1 = true → xR X m_X12_whoOf 28 [.ref 169, .int e, .int one, .int each, .int (nI t), w0, w1] [] h = xR X m_X12_whoOf 95 [.ref 169, .int e, .int one, .int each, .int (nI t), .int (cmS m (fun r => A 0 (17 + r)) (fun r => A 0 (21 + r)) (nI t)), .int (nI m)] [] h := by
    intro t one each w0 w1 ht i0 i1
    have L := x_loop (fun k (y : Int32) => xR X m_X12_whoOf 34 [.ref 169, .int e, .int one, .int each, .int (nI t), .int y, .int (nI k)] [] h) (fun y => xR X m_X12_whoOf 95 [.ref 169, .int e, .int one, .int each, .int (nI t), .int y, .int (nI m)] [] h) (fun r x => if xday (nI t) < A 0 (17 + r) then x else if A 0 (21 + r) < xday (nI t) then x else x ||| (nI 1 <<< (nI r &&& 31))) m (nI 0)
      (by
        intro k hk y
        have e1 : nI k < nI m := nI_lt hk (by omega)
        rw [e_X12_whoOf_34]
        by_cases c1 : xday (nI t) < A 0 (17 + k)
        · have q := fun hh : xH => m_inF (X := X) (h := hh) (x := xday (nI t)) (lo := A 0 (17 + k)) (hi := A 0 (21 + k)) (Or.inl c1)
          rw [if_pos c1]
          unfold xday at q
          simp (disch := first | exact xnl_i _ | exact xnl_r _ | exact xnl_u _ | exact xnl_n | exact zI_2 | exact zI_24 | assumption | omega | (simp only [xset_len]; omega)) only [↓reduceIte, xbd_s, xpv_n, xpv_s, e_X12_whoOf_0, e_X12_whoOf_1, e_X12_whoOf_2, e_X12_whoOf_3, e_X12_whoOf_4, e_X12_whoOf_7, e_X12_whoOf_8, e_X12_whoOf_9, e_X12_whoOf_10, e_X12_whoOf_11, e_X12_whoOf_12, e_X12_whoOf_13, e_X12_whoOf_14, e_X12_whoOf_17, e_X12_whoOf_19, e_X12_whoOf_21, e_X12_whoOf_22, e_X12_whoOf_25, e_X12_whoOf_28, e_X12_whoOf_29, e_X12_whoOf_31, e_X12_whoOf_32, e_X12_whoOf_36, e_X12_whoOf_37, e_X12_whoOf_40, e_X12_whoOf_41, e_X12_whoOf_42, e_X12_whoOf_45, e_X12_whoOf_47, e_X12_whoOf_49, e_X12_whoOf_51, e_X12_whoOf_52, e_X12_whoOf_53, e_X12_whoOf_56, e_X12_whoOf_58, e_X12_whoOf_60, e_X12_whoOf_61, e_X12_whoOf_62, e_X12_whoOf_63, e_X12_whoOf_66, e_X12_whoOf_68, e_X12_whoOf_70, e_X12_whoOf_71, e_X12_whoOf_72, e_X12_whoOf_75, e_X12_whoOf_78, e_X12_whoOf_79, e_X12_whoOf_81, e_X12_whoOf_82, e_X12_whoOf_85, e_X12_whoOf_86, e_X12_whoOf_87, e_X12_whoOf_89, e_X12_whoOf_92, e_X12_whoOf_96, e_X12_whoOf_98, e_X12_whoOf_99, e_X12_whoOf_100, e_X12_whoOf_101, e_X12_whoOf_103, e_X12_whoOf_104, e_X12_whoOf_105, e_X12_whoOf_108, e_X12_whoOf_111, e_X12_whoOf_112, e_X12_whoOf_115, e_X12_whoOf_116, e_X12_whoOf_119, e_X12_whoOf_120, g_12_187_11, g_12_190_11, g_12_7_11, hc, a0, h2m, xl_i, if_pos e1, nI_add, nI_inc, q, z0, Int32.or_zero]
        · by_cases c2 : A 0 (21 + k) < xday (nI t)
          · have q := fun hh : xH => m_inF (X := X) (h := hh) (x := xday (nI t)) (lo := A 0 (17 + k)) (hi := A 0 (21 + k)) (Or.inr c2)
            rw [if_neg c1, if_pos c2]
            unfold xday at q
            simp (disch := first | exact xnl_i _ | exact xnl_r _ | exact xnl_u _ | exact xnl_n | exact zI_2 | exact zI_24 | assumption | omega | (simp only [xset_len]; omega)) only [↓reduceIte, xbd_s, xpv_n, xpv_s, e_X12_whoOf_0, e_X12_whoOf_1, e_X12_whoOf_2, e_X12_whoOf_3, e_X12_whoOf_4, e_X12_whoOf_7, e_X12_whoOf_8, e_X12_whoOf_9, e_X12_whoOf_10, e_X12_whoOf_11, e_X12_whoOf_12, e_X12_whoOf_13, e_X12_whoOf_14, e_X12_whoOf_17, e_X12_whoOf_19, e_X12_whoOf_21, e_X12_whoOf_22, e_X12_whoOf_25, e_X12_whoOf_28, e_X12_whoOf_29, e_X12_whoOf_31, e_X12_whoOf_32, e_X12_whoOf_36, e_X12_whoOf_37, e_X12_whoOf_40, e_X12_whoOf_41, e_X12_whoOf_42, e_X12_whoOf_45, e_X12_whoOf_47, e_X12_whoOf_49, e_X12_whoOf_51, e_X12_whoOf_52, e_X12_whoOf_53, e_X12_whoOf_56, e_X12_whoOf_58, e_X12_whoOf_60, e_X12_whoOf_61, e_X12_whoOf_62, e_X12_whoOf_63, e_X12_whoOf_66, e_X12_whoOf_68, e_X12_whoOf_70, e_X12_whoOf_71, e_X12_whoOf_72, e_X12_whoOf_75, e_X12_whoOf_78, e_X12_whoOf_79, e_X12_whoOf_81, e_X12_whoOf_82, e_X12_whoOf_85, e_X12_whoOf_86, e_X12_whoOf_87, e_X12_whoOf_89, e_X12_whoOf_92, e_X12_whoOf_96, e_X12_whoOf_98, e_X12_whoOf_99, e_X12_whoOf_100, e_X12_whoOf_101, e_X12_whoOf_103, e_X12_whoOf_104, e_X12_whoOf_105, e_X12_whoOf_108, e_X12_whoOf_111, e_X12_whoOf_112, e_X12_whoOf_115, e_X12_whoOf_116, e_X12_whoOf_119, e_X12_whoOf_120, g_12_187_11, g_12_190_11, g_12_7_11, hc, a0, h2m, xl_i, if_pos e1, nI_add, nI_inc, q, z0, Int32.or_zero]
          · have q := fun hh : xH => m_inT (X := X) (h := hh) (x := xday (nI t)) (lo := A 0 (17 + k)) (hi := A 0 (21 + k)) c1 c2
            rw [if_neg c1, if_neg c2]
            unfold xday at q
            simp (disch := first | exact xnl_i _ | exact xnl_r _ | exact xnl_u _ | exact xnl_n | exact zI_2 | exact zI_24 | assumption | omega | (simp only [xset_len]; omega)) only [↓reduceIte, xbd_s, xpv_n, xpv_s, e_X12_whoOf_0, e_X12_whoOf_1, e_X12_whoOf_2, e_X12_whoOf_3, e_X12_whoOf_4, e_X12_whoOf_7, e_X12_whoOf_8, e_X12_whoOf_9, e_X12_whoOf_10, e_X12_whoOf_11, e_X12_whoOf_12, e_X12_whoOf_13, e_X12_whoOf_14, e_X12_whoOf_17, e_X12_whoOf_19, e_X12_whoOf_21, e_X12_whoOf_22, e_X12_whoOf_25, e_X12_whoOf_28, e_X12_whoOf_29, e_X12_whoOf_31, e_X12_whoOf_32, e_X12_whoOf_36, e_X12_whoOf_37, e_X12_whoOf_40, e_X12_whoOf_41, e_X12_whoOf_42, e_X12_whoOf_45, e_X12_whoOf_47, e_X12_whoOf_49, e_X12_whoOf_51, e_X12_whoOf_52, e_X12_whoOf_53, e_X12_whoOf_56, e_X12_whoOf_58, e_X12_whoOf_60, e_X12_whoOf_61, e_X12_whoOf_62, e_X12_whoOf_63, e_X12_whoOf_66, e_X12_whoOf_68, e_X12_whoOf_70, e_X12_whoOf_71, e_X12_whoOf_72, e_X12_whoOf_75, e_X12_whoOf_78, e_X12_whoOf_79, e_X12_whoOf_81, e_X12_whoOf_82, e_X12_whoOf_85, e_X12_whoOf_86, e_X12_whoOf_87, e_X12_whoOf_89, e_X12_whoOf_92, e_X12_whoOf_96, e_X12_whoOf_98, e_X12_whoOf_99, e_X12_whoOf_100, e_X12_whoOf_101, e_X12_whoOf_103, e_X12_whoOf_104, e_X12_whoOf_105, e_X12_whoOf_108, e_X12_whoOf_111, e_X12_whoOf_112, e_X12_whoOf_115, e_X12_whoOf_116, e_X12_whoOf_119, e_X12_whoOf_120, g_12_187_11, g_12_190_11, g_12_7_11, hc, a0, h2m, xl_i, if_pos e1, nI_add, nI_inc, q, ne10])
      (by
        intro y
        have e1 : ¬ nI m < nI m := nI_nlt (Nat.le_refl m) (by omega)
        simp (disch := first | exact xnl_i _ | exact xnl_r _ | exact xnl_u _ | exact xnl_n | exact zI_2 | exact zI_24 | assumption | omega | (simp only [xset_len]; omega)) only [↓reduceIte, xbd_s, xpv_n, xpv_s, e_X12_whoOf_0, e_X12_whoOf_1, e_X12_whoOf_2, e_X12_whoOf_3, e_X12_whoOf_4, e_X12_whoOf_7, e_X12_whoOf_8, e_X12_whoOf_9, e_X12_whoOf_10, e_X12_whoOf_11, e_X12_whoOf_12, e_X12_whoOf_13, e_X12_whoOf_14, e_X12_whoOf_17, e_X12_whoOf_19, e_X12_whoOf_21, e_X12_whoOf_22, e_X12_whoOf_25, e_X12_whoOf_28, e_X12_whoOf_29, e_X12_whoOf_31, e_X12_whoOf_32, e_X12_whoOf_34, e_X12_whoOf_36, e_X12_whoOf_37, e_X12_whoOf_40, e_X12_whoOf_41, e_X12_whoOf_42, e_X12_whoOf_45, e_X12_whoOf_47, e_X12_whoOf_49, e_X12_whoOf_51, e_X12_whoOf_52, e_X12_whoOf_53, e_X12_whoOf_56, e_X12_whoOf_58, e_X12_whoOf_60, e_X12_whoOf_61, e_X12_whoOf_62, e_X12_whoOf_63, e_X12_whoOf_66, e_X12_whoOf_68, e_X12_whoOf_70, e_X12_whoOf_71, e_X12_whoOf_72, e_X12_whoOf_75, e_X12_whoOf_78, e_X12_whoOf_79, e_X12_whoOf_81, e_X12_whoOf_82, e_X12_whoOf_85, e_X12_whoOf_86, e_X12_whoOf_87, e_X12_whoOf_89, e_X12_whoOf_92, e_X12_whoOf_96, e_X12_whoOf_98, e_X12_whoOf_99, e_X12_whoOf_100, e_X12_whoOf_101, e_X12_whoOf_103, e_X12_whoOf_104, e_X12_whoOf_105, e_X12_whoOf_108, e_X12_whoOf_111, e_X12_whoOf_112, e_X12_whoOf_115, e_X12_whoOf_116, e_X12_whoOf_119, e_X12_whoOf_120, g_12_187_11, g_12_190_11, g_12_7_11, hc, a0, h2m, xl_i, if_neg e1])
    refine Eq.trans ?_ L
    rcases w0 with _ | _ | _ | _ | _ | _ | _ <;> simp (disch := first | exact xnl_i _ | exact xnl_r _ | exact xnl_u _ | exact xnl_n | exact zI_2 | exact zI_24 | assumption | omega | (simp only [xset_len]; omega)) only [↓reduceIte, xbd_s, xpv_n, xpv_s, e_X12_whoOf_0, e_X12_whoOf_1, e_X12_whoOf_2, e_X12_whoOf_3, e_X12_whoOf_4, e_X12_whoOf_7, e_X12_whoOf_8, e_X12_whoOf_9, e_X12_whoOf_10, e_X12_whoOf_11, e_X12_whoOf_12, e_X12_whoOf_13, e_X12_whoOf_14, e_X12_whoOf_17, e_X12_whoOf_19, e_X12_whoOf_21, e_X12_whoOf_22, e_X12_whoOf_25, e_X12_whoOf_28, e_X12_whoOf_29, e_X12_whoOf_31, e_X12_whoOf_32, e_X12_whoOf_36, e_X12_whoOf_37, e_X12_whoOf_40, e_X12_whoOf_41, e_X12_whoOf_42, e_X12_whoOf_45, e_X12_whoOf_47, e_X12_whoOf_49, e_X12_whoOf_51, e_X12_whoOf_52, e_X12_whoOf_53, e_X12_whoOf_56, e_X12_whoOf_58, e_X12_whoOf_60, e_X12_whoOf_61, e_X12_whoOf_62, e_X12_whoOf_63, e_X12_whoOf_66, e_X12_whoOf_68, e_X12_whoOf_70, e_X12_whoOf_71, e_X12_whoOf_72, e_X12_whoOf_75, e_X12_whoOf_78, e_X12_whoOf_79, e_X12_whoOf_81, e_X12_whoOf_82, e_X12_whoOf_85, e_X12_whoOf_86, e_X12_whoOf_87, e_X12_whoOf_89, e_X12_whoOf_92, e_X12_whoOf_95, e_X12_whoOf_96, e_X12_whoOf_98, e_X12_whoOf_99, e_X12_whoOf_100, e_X12_whoOf_101, e_X12_whoOf_103, e_X12_whoOf_104, e_X12_whoOf_105, e_X12_whoOf_108, e_X12_whoOf_111, e_X12_whoOf_112, e_X12_whoOf_115, e_X12_whoOf_116, e_X12_whoOf_119, e_X12_whoOf_120, g_12_187_11, g_12_190_11, g_12_7_11, i0, i1]
  have L : ∀ c k w0 w1, fst + k + c = l + 1 → xnl w0 = true → xnl w1 = true → xR X m_X12_whoOf 19 [.ref 169, .int e, .int (xfold (whoF (cmS m (fun r => A 0 (17 + r)) (fun r => A 0 (21 + r))) fst) k (nI 0, allS m)).1, .int (xfold (whoF (cmS m (fun r => A 0 (17 + r)) (fun r => A 0 (21 + r))) fst) k (nI 0, allS m)).2, .int (nI (fst + k)), w0, w1] [] h = some (some (.int (if e = 0 then (xfold (whoF (cmS m (fun r => A 0 (17 + r)) (fun r => A 0 (21 + r))) fst) (l - fst + 1) (nI 0, allS m)).1 else (xfold (whoF (cmS m (fun r => A 0 (17 + r)) (fun r => A 0 (21 + r))) fst) (l - fst + 1) (nI 0, allS m)).2)), h) := by
    intro c
    induction c with
    | zero =>
      intro k w0 w1 hk i0 i1
      have e1 : nI l < nI (fst + k) := nI_lt (by omega) (by omega)
      rw [show l - fst + 1 = k by omega]
      by_cases c2 : e = 0
      · simp (disch := first | exact xnl_i _ | exact xnl_r _ | exact xnl_u _ | exact xnl_n | exact zI_2 | exact zI_24 | assumption | omega | (simp only [xset_len]; omega)) only [↓reduceIte, xbd_s, xpv_n, xpv_s, e_X12_whoOf_0, e_X12_whoOf_1, e_X12_whoOf_2, e_X12_whoOf_3, e_X12_whoOf_4, e_X12_whoOf_7, e_X12_whoOf_8, e_X12_whoOf_9, e_X12_whoOf_10, e_X12_whoOf_11, e_X12_whoOf_12, e_X12_whoOf_13, e_X12_whoOf_14, e_X12_whoOf_17, e_X12_whoOf_19, e_X12_whoOf_21, e_X12_whoOf_22, e_X12_whoOf_25, e_X12_whoOf_29, e_X12_whoOf_31, e_X12_whoOf_32, e_X12_whoOf_34, e_X12_whoOf_36, e_X12_whoOf_37, e_X12_whoOf_40, e_X12_whoOf_41, e_X12_whoOf_42, e_X12_whoOf_45, e_X12_whoOf_47, e_X12_whoOf_49, e_X12_whoOf_51, e_X12_whoOf_52, e_X12_whoOf_53, e_X12_whoOf_56, e_X12_whoOf_58, e_X12_whoOf_60, e_X12_whoOf_61, e_X12_whoOf_62, e_X12_whoOf_63, e_X12_whoOf_66, e_X12_whoOf_68, e_X12_whoOf_70, e_X12_whoOf_71, e_X12_whoOf_72, e_X12_whoOf_75, e_X12_whoOf_78, e_X12_whoOf_79, e_X12_whoOf_81, e_X12_whoOf_82, e_X12_whoOf_85, e_X12_whoOf_86, e_X12_whoOf_87, e_X12_whoOf_89, e_X12_whoOf_92, e_X12_whoOf_95, e_X12_whoOf_96, e_X12_whoOf_98, e_X12_whoOf_99, e_X12_whoOf_100, e_X12_whoOf_101, e_X12_whoOf_103, e_X12_whoOf_104, e_X12_whoOf_105, e_X12_whoOf_108, e_X12_whoOf_111, e_X12_whoOf_112, e_X12_whoOf_115, e_X12_whoOf_116, e_X12_whoOf_119, e_X12_whoOf_120, g_12_187_11, g_12_190_11, g_12_7_11, hc, if_pos e1, if_pos c2]
      · simp (disch := first | exact xnl_i _ | exact xnl_r _ | exact xnl_u _ | exact xnl_n | exact zI_2 | exact zI_24 | assumption | omega | (simp only [xset_len]; omega)) only [↓reduceIte, xbd_s, xpv_n, xpv_s, e_X12_whoOf_0, e_X12_whoOf_1, e_X12_whoOf_2, e_X12_whoOf_3, e_X12_whoOf_4, e_X12_whoOf_7, e_X12_whoOf_8, e_X12_whoOf_9, e_X12_whoOf_10, e_X12_whoOf_11, e_X12_whoOf_12, e_X12_whoOf_13, e_X12_whoOf_14, e_X12_whoOf_17, e_X12_whoOf_19, e_X12_whoOf_21, e_X12_whoOf_22, e_X12_whoOf_25, e_X12_whoOf_29, e_X12_whoOf_31, e_X12_whoOf_32, e_X12_whoOf_34, e_X12_whoOf_36, e_X12_whoOf_37, e_X12_whoOf_40, e_X12_whoOf_41, e_X12_whoOf_42, e_X12_whoOf_45, e_X12_whoOf_47, e_X12_whoOf_49, e_X12_whoOf_51, e_X12_whoOf_52, e_X12_whoOf_53, e_X12_whoOf_56, e_X12_whoOf_58, e_X12_whoOf_60, e_X12_whoOf_61, e_X12_whoOf_62, e_X12_whoOf_63, e_X12_whoOf_66, e_X12_whoOf_68, e_X12_whoOf_70, e_X12_whoOf_71, e_X12_whoOf_72, e_X12_whoOf_75, e_X12_whoOf_78, e_X12_whoOf_79, e_X12_whoOf_81, e_X12_whoOf_82, e_X12_whoOf_85, e_X12_whoOf_86, e_X12_whoOf_87, e_X12_whoOf_89, e_X12_whoOf_92, e_X12_whoOf_95, e_X12_whoOf_96, e_X12_whoOf_98, e_X12_whoOf_99, e_X12_whoOf_100, e_X12_whoOf_101, e_X12_whoOf_103, e_X12_whoOf_104, e_X12_whoOf_105, e_X12_whoOf_108, e_X12_whoOf_111, e_X12_whoOf_112, e_X12_whoOf_115, e_X12_whoOf_116, e_X12_whoOf_119, e_X12_whoOf_120, g_12_187_11, g_12_190_11, g_12_7_11, hc, if_pos e1, if_neg c2]
    | succ c ih =>
      intro k w0 w1 hk i0 i1
      have e1 : ¬ nI l < nI (fst + k) := nI_nlt (by omega) (by omega)
      have i2 := ih (k + 1) (.int (cmS m (fun r => A 0 (17 + r)) (fun r => A 0 (21 + r)) (nI (fst + k)))) (.int (nI m)) (by omega) rfl rfl
      rw [← i2, e_X12_whoOf_19]
      simp (disch := first | exact xnl_i _ | exact xnl_r _ | exact xnl_u _ | exact xnl_n | exact zI_2 | exact zI_24 | assumption | omega | (simp only [xset_len]; omega)) only [↓reduceIte, xbd_s, xpv_n, xpv_s, e_X12_whoOf_0, e_X12_whoOf_1, e_X12_whoOf_2, e_X12_whoOf_3, e_X12_whoOf_4, e_X12_whoOf_7, e_X12_whoOf_8, e_X12_whoOf_9, e_X12_whoOf_10, e_X12_whoOf_11, e_X12_whoOf_12, e_X12_whoOf_13, e_X12_whoOf_14, e_X12_whoOf_17, e_X12_whoOf_21, e_X12_whoOf_22, e_X12_whoOf_25, e_X12_whoOf_29, e_X12_whoOf_31, e_X12_whoOf_32, e_X12_whoOf_34, e_X12_whoOf_36, e_X12_whoOf_37, e_X12_whoOf_40, e_X12_whoOf_41, e_X12_whoOf_42, e_X12_whoOf_45, e_X12_whoOf_47, e_X12_whoOf_49, e_X12_whoOf_51, e_X12_whoOf_52, e_X12_whoOf_53, e_X12_whoOf_56, e_X12_whoOf_58, e_X12_whoOf_60, e_X12_whoOf_61, e_X12_whoOf_62, e_X12_whoOf_63, e_X12_whoOf_66, e_X12_whoOf_68, e_X12_whoOf_70, e_X12_whoOf_71, e_X12_whoOf_72, e_X12_whoOf_75, e_X12_whoOf_78, e_X12_whoOf_79, e_X12_whoOf_81, e_X12_whoOf_82, e_X12_whoOf_85, e_X12_whoOf_86, e_X12_whoOf_87, e_X12_whoOf_89, e_X12_whoOf_92, e_X12_whoOf_95, e_X12_whoOf_96, e_X12_whoOf_98, e_X12_whoOf_99, e_X12_whoOf_100, e_X12_whoOf_101, e_X12_whoOf_103, e_X12_whoOf_104, e_X12_whoOf_105, e_X12_whoOf_108, e_X12_whoOf_111, e_X12_whoOf_112, e_X12_whoOf_115, e_X12_whoOf_116, e_X12_whoOf_119, e_X12_whoOf_120, g_12_187_11, g_12_190_11, g_12_7_11, hc, if_neg e1]
      rw [In (fst + k) _ _ w0 w1 (by omega) i0 i1]
      simp (disch := first | exact xnl_i _ | exact xnl_r _ | exact xnl_u _ | exact xnl_n | exact zI_2 | exact zI_24 | assumption | omega | (simp only [xset_len]; omega)) only [↓reduceIte, xbd_s, xpv_n, xpv_s, e_X12_whoOf_0, e_X12_whoOf_1, e_X12_whoOf_2, e_X12_whoOf_3, e_X12_whoOf_4, e_X12_whoOf_7, e_X12_whoOf_8, e_X12_whoOf_9, e_X12_whoOf_10, e_X12_whoOf_11, e_X12_whoOf_12, e_X12_whoOf_13, e_X12_whoOf_14, e_X12_whoOf_17, e_X12_whoOf_21, e_X12_whoOf_22, e_X12_whoOf_25, e_X12_whoOf_28, e_X12_whoOf_29, e_X12_whoOf_31, e_X12_whoOf_32, e_X12_whoOf_34, e_X12_whoOf_36, e_X12_whoOf_37, e_X12_whoOf_40, e_X12_whoOf_41, e_X12_whoOf_42, e_X12_whoOf_45, e_X12_whoOf_47, e_X12_whoOf_49, e_X12_whoOf_51, e_X12_whoOf_52, e_X12_whoOf_53, e_X12_whoOf_56, e_X12_whoOf_58, e_X12_whoOf_60, e_X12_whoOf_61, e_X12_whoOf_62, e_X12_whoOf_63, e_X12_whoOf_66, e_X12_whoOf_68, e_X12_whoOf_70, e_X12_whoOf_71, e_X12_whoOf_72, e_X12_whoOf_75, e_X12_whoOf_78, e_X12_whoOf_79, e_X12_whoOf_81, e_X12_whoOf_82, e_X12_whoOf_85, e_X12_whoOf_86, e_X12_whoOf_87, e_X12_whoOf_89, e_X12_whoOf_92, e_X12_whoOf_95, e_X12_whoOf_96, e_X12_whoOf_98, e_X12_whoOf_99, e_X12_whoOf_100, e_X12_whoOf_101, e_X12_whoOf_103, e_X12_whoOf_104, e_X12_whoOf_105, e_X12_whoOf_108, e_X12_whoOf_111, e_X12_whoOf_112, e_X12_whoOf_115, e_X12_whoOf_116, e_X12_whoOf_119, e_X12_whoOf_120, g_12_187_11, g_12_190_11, g_12_7_11, nI_inc]
      all_goals rfl
  have i := L (l + 1 - fst) 0 xU xU (by omega) rfl rfl
  rw [← i]
  have b2 : allS m = (nI 1 <<< (nI m &&& 31)) - nI 1 := rfl
  simp (disch := first | exact xnl_i _ | exact xnl_r _ | exact xnl_u _ | exact xnl_n | exact zI_2 | exact zI_24 | assumption | omega | (simp only [xset_len]; omega)) only [↓reduceIte, xbd_s, xpv_n, xpv_s, e_X12_whoOf_0, e_X12_whoOf_1, e_X12_whoOf_2, e_X12_whoOf_3, e_X12_whoOf_4, e_X12_whoOf_7, e_X12_whoOf_8, e_X12_whoOf_9, e_X12_whoOf_10, e_X12_whoOf_11, e_X12_whoOf_12, e_X12_whoOf_13, e_X12_whoOf_14, e_X12_whoOf_17, e_X12_whoOf_21, e_X12_whoOf_22, e_X12_whoOf_25, e_X12_whoOf_28, e_X12_whoOf_29, e_X12_whoOf_31, e_X12_whoOf_32, e_X12_whoOf_34, e_X12_whoOf_36, e_X12_whoOf_37, e_X12_whoOf_40, e_X12_whoOf_41, e_X12_whoOf_42, e_X12_whoOf_45, e_X12_whoOf_47, e_X12_whoOf_49, e_X12_whoOf_51, e_X12_whoOf_52, e_X12_whoOf_53, e_X12_whoOf_56, e_X12_whoOf_58, e_X12_whoOf_60, e_X12_whoOf_61, e_X12_whoOf_62, e_X12_whoOf_63, e_X12_whoOf_66, e_X12_whoOf_68, e_X12_whoOf_70, e_X12_whoOf_71, e_X12_whoOf_72, e_X12_whoOf_75, e_X12_whoOf_78, e_X12_whoOf_79, e_X12_whoOf_81, e_X12_whoOf_82, e_X12_whoOf_85, e_X12_whoOf_86, e_X12_whoOf_87, e_X12_whoOf_89, e_X12_whoOf_92, e_X12_whoOf_95, e_X12_whoOf_96, e_X12_whoOf_98, e_X12_whoOf_99, e_X12_whoOf_100, e_X12_whoOf_101, e_X12_whoOf_103, e_X12_whoOf_104, e_X12_whoOf_105, e_X12_whoOf_108, e_X12_whoOf_111, e_X12_whoOf_112, e_X12_whoOf_115, e_X12_whoOf_116, e_X12_whoOf_119, e_X12_whoOf_120, g_12_187_11, g_12_190_11, g_12_7_11, hc, a0, h2m, xl_i, b2]
  all_goals rfl
theorem m_whoOf2 (hM : xMB X h S nm A) (T : xST (A 0) n m hr) {d : Int32} {s r : Nat} (hr1 : lTS (mfl (A 0) s) d hr (nI 0) = some r) (hf : S 11 = nI (fTS (mfl (A 0) s) r)) (hl : S 12 = nI r) (e : Int32) : xR X m_X12_whoOf 0 [.ref 169, .int e, xU, xU, xU, xU, xU] [] h = some (some (.int (whoO e (whoS (cmS m (fun r => A 0 (17 + r)) (fun r => A 0 (21 + r))) m (mfl (A 0) s) d hr))), h) := by
  have hr9 := T.2.2.2.2.2.2.1
  have l1 := lTS_le _ _ _ _ _ hr1
  have l2 := fTS_le (mfl (A 0) s) r
  rw [m_whoOf hM T hf hl l2 (by omega) e]
  unfold whoS
  rw [hr1]
  all_goals rfl
theorem m_who (hM : xMB X h S nm A) (T : xST (A 0) n m hr) {s : Nat} (hs : s < n) {d : Int32} (h1 : ¬ d < 0) (h2 : ¬ nI 9999 < d) (hF : ∀ t, 0 ≤ (mfl (A 0) s t).toInt ∧ (mfl (A 0) s t).toInt ≤ 10) {w : Int32} (hw : w = 0 ∨ w = 1) : ∃ h' S', xR X m_X12_who 0 [.ref 169, .int (nI s), .int d, .int w] [] h = some (some (.int (whoO w (whoS (cmS m (fun r => A 0 (17 + r)) (fun r => A 0 (21 + r))) m (mfl (A 0) s) d hr))), h') ∧ xMB X h' S' nm A ∧ kpt S S' ∧ xFr X inM h h' := by
  have q := m_isSpotT hM T.2.2.1 T.2.1 hs
  have q2 := fun hh : xH => m_inT (X := X) (h := hh) (x := d) (lo := 0) (hi := nI 9999) h1 h2
  have q3 := fun hh : xH => m_in01 (X := X) (h := hh) hw
  obtain ⟨h', e1, e2, e3⟩ := m_find2 hM T hs h1 h2 hF
  refine ⟨h', _, ?_, e2, kpt_2 (by omega) (by omega), e3⟩
  have hc := hM.1
  have hc1 := e2.1
  rw [upd_eq, upd_ne (show 11 ≠ 12 by decide), upd_eq] at hc1
  have hr9 := T.2.2.2.2.2.2.1
  cases hL : lTS (mfl (A 0) s) d hr (nI 0) with
  | none =>
    have e4 : whoS (cmS m (fun r => A 0 (17 + r)) (fun r => A 0 (21 + r))) m (mfl (A 0) s) d hr = none := by
      unfold whoS
      rw [hL]
    have e5 : (-1000000 : Int32) = (-1000000 : Int32) := rfl
    rw [hL] at hc1
    rw [e4]
    dsimp only [fwP] at hc1
    simp (disch := first | exact xnl_i _ | exact xnl_r _ | exact xnl_u _ | exact xnl_n | exact zI_2 | exact zI_24 | assumption | omega | (simp only [xset_len]; omega)) only [↓reduceIte, xbd_s, xpv_n, xpv_s, e_X12_who_0, e_X12_who_1, e_X12_who_2, c_X12_who_167_11_0, c_X12_who_193_11_0, c_X12_who_196_11_0, e_X12_who_5, e_X12_who_8, e_X12_who_9, e_X12_who_10, e_X12_who_13, e_X12_who_16, e_X12_who_19, e_X12_who_20, e_X12_who_21, e_X12_who_22, e_X12_who_25, e_X12_who_28, e_X12_who_30, e_X12_who_31, e_X12_who_32, e_X12_who_33, e_X12_who_34, e_X12_who_37, e_X12_who_38, e_X12_who_41, e_X12_who_43, e_X12_who_46, e_X12_who_48, e_X12_who_51, e_X12_who_52, e_X12_who_53, e_X12_who_54, e_X12_who_57, e_X12_who_58, e_X12_who_61, e_X12_who_62, e_X12_who_65, g_12_187_11, hc, q, z0, z1, q2, q3, ne10, e1, hc1, if_pos e5]
    all_goals rfl
  | some r =>
    have l1 := lTS_le _ _ _ _ _ hL
    have l2 := fTS_le (mfl (A 0) s) r
    have e5 : ¬ nI (fTS (mfl (A 0) s) r) = -1000000 := nI_neNO (by omega)
    rw [hL] at hc1 e2
    dsimp only [fwP] at hc1
    have q4 := fun w => m_whoOf2 e2 T hL (by rw [upd_ne (by decide), upd_eq]; rfl) (by rw [upd_eq]; rfl) w
    rcases hw with rfl | rfl
    · have n01 : ¬ (0 : Int32) = 1 := by decide
      simp (disch := first | exact xnl_i _ | exact xnl_r _ | exact xnl_u _ | exact xnl_n | exact zI_2 | exact zI_24 | assumption | omega | (simp only [xset_len]; omega)) only [↓reduceIte, xbd_s, xpv_n, xpv_s, e_X12_who_0, e_X12_who_1, e_X12_who_2, c_X12_who_167_11_0, c_X12_who_193_11_0, c_X12_who_196_11_0, e_X12_who_5, e_X12_who_8, e_X12_who_9, e_X12_who_10, e_X12_who_13, e_X12_who_16, e_X12_who_19, e_X12_who_20, e_X12_who_21, e_X12_who_22, e_X12_who_25, e_X12_who_28, e_X12_who_30, e_X12_who_31, e_X12_who_32, e_X12_who_33, e_X12_who_34, e_X12_who_37, e_X12_who_38, e_X12_who_41, e_X12_who_43, e_X12_who_46, e_X12_who_48, e_X12_who_51, e_X12_who_52, e_X12_who_53, e_X12_who_54, e_X12_who_57, e_X12_who_58, e_X12_who_61, e_X12_who_62, e_X12_who_65, g_12_187_11, hc, q, z0, z1, q2, q3, ne10, e1, hc1, if_neg e5, q4, if_neg n01]
    · simp (disch := first | exact xnl_i _ | exact xnl_r _ | exact xnl_u _ | exact xnl_n | exact zI_2 | exact zI_24 | assumption | omega | (simp only [xset_len]; omega)) only [↓reduceIte, xbd_s, xpv_n, xpv_s, e_X12_who_0, e_X12_who_1, e_X12_who_2, c_X12_who_167_11_0, c_X12_who_193_11_0, c_X12_who_196_11_0, e_X12_who_5, e_X12_who_8, e_X12_who_9, e_X12_who_10, e_X12_who_13, e_X12_who_16, e_X12_who_19, e_X12_who_20, e_X12_who_21, e_X12_who_22, e_X12_who_25, e_X12_who_28, e_X12_who_30, e_X12_who_31, e_X12_who_32, e_X12_who_33, e_X12_who_34, e_X12_who_37, e_X12_who_38, e_X12_who_41, e_X12_who_43, e_X12_who_46, e_X12_who_48, e_X12_who_51, e_X12_who_52, e_X12_who_53, e_X12_who_54, e_X12_who_57, e_X12_who_58, e_X12_who_61, e_X12_who_62, e_X12_who_65, g_12_187_11, hc, q, z0, z1, q2, q3, ne10, e1, hc1, if_neg e5, q4]
end XMI
/-! sets; oneHand -/
theorem or16 : ∀ a, a < 16 → ∀ b, b < 16 → nI a ||| nI b = nI (a ||| b) := by decide +kernel
theorem or16_lt {a b : Nat} (ha : a < 16) (hb : b < 16) : a ||| b < 16 := Nat.or_lt_two_pow (n := 4) ha hb
theorem shl4 : ∀ r, r < 4 → nI 1 <<< (nI r &&& 31) = nI (2 ^ r) := by decide
theorem pow4 : ∀ r, r < 4 → 2 ^ r < 16 := by decide
theorem cmS_rng {m : Nat} (hm : m ≤ 4) (u v : Nat → Int32) (t : Int32) : ∃ c, c < 16 ∧ cmS m u v t = nI c := by
  have key : ∀ k, k ≤ m → ∃ c, c < 16 ∧ xfold (fun r x => if xday t < u r then x else if v r < xday t then x else x ||| (nI 1 <<< (nI r &&& 31))) k (nI 0) = nI c := by
    intro k
    induction k with
    | zero => intro _; exact ⟨0, by omega, rfl⟩
    | succ k ih =>
      intro hk
      obtain ⟨c, h1, h2⟩ := ih (by omega)
      unfold xfold
      rw [h2]
      split
      · exact ⟨c, h1, rfl⟩
      · split
        · exact ⟨c, h1, rfl⟩
        · rw [shl4 k (by omega), or16 c h1 _ (pow4 k (by omega))]
          exact ⟨_, or16_lt h1 (pow4 k (by omega)), rfl⟩
  exact key m (Nat.le_refl m)
theorem whoF_rng {m : Nat} (hm : m ≤ 4) (u v : Nat → Int32) (fst c : Nat) (e : Int32) : ∃ k, k < 16 ∧ (xfold (whoF (cmS m u v) fst) c (nI 0, e)).1 = nI k := by
  induction c with
  | zero => exact ⟨0, by omega, rfl⟩
  | succ c ih =>
    obtain ⟨k, h1, h2⟩ := ih
    obtain ⟨j, h3, h4⟩ := cmS_rng hm u v (nI (fst + c))
    unfold xfold
    show ∃ k, k < 16 ∧ (xfold (whoF (cmS m u v) fst) c (nI 0, e)).1 ||| cmS m u v (nI (fst + c)) = nI k
    rw [h2, h4, or16 _ h1 _ h3]
    exact ⟨_, or16_lt h1 h3, rfl⟩
theorem whoO_ne {m : Nat} (hm : m ≤ 4) (u v : Nat → Int32) (F : Nat → Int32) (d : Int32) (hr r : Nat) (hL : lTS F d hr (nI 0) = some r) : ¬ whoO 0 (whoS (cmS m u v) m F d hr) = -1000000 := by
  unfold whoS whoO
  rw [hL]
  dsimp only
  rw [if_pos rfl]
  obtain ⟨k, h1, h2⟩ := whoF_rng hm u v (fTS F r) (r - fTS F r + 1) (allS m)
  rw [h2]
  exact nI_neNO (by omega)
theorem isSet_nat {n : Nat} (hn : n ≤ 7) (x : Int32) : x &&& (allS n ^^^ (-1)) = 0 ↔ x.toBitVec.toNat < 2 ^ n := by
  rw [allS_eq n hn]
  have p128 : 2 ^ n ≤ 2 ^ 7 := Nat.pow_le_pow_right (by omega) hn
  have p1 : 1 ≤ 2 ^ n := Nat.one_le_two_pow
  have e1 : (x &&& (nI (2 ^ n - 1) ^^^ (-1)) = 0) ↔ (x.toBitVec &&& (BitVec.ofNat 32 (2 ^ n - 1) ^^^ (-1#32)) = 0#32) := by
    rw [← Int32.toBitVec_inj]
    exact Iff.rfl
  have e2 : ∀ i, i < 32 → (BitVec.ofNat 32 (2 ^ n - 1) ^^^ (-1#32)).getLsbD i = !decide (i < n) := by
    intro i hi
    have : (-1#32) = BitVec.allOnes 32 := by decide
    rw [this, BitVec.getLsbD_xor, BitVec.getLsbD_allOnes, BitVec.getLsbD_ofNat, Nat.testBit_two_pow_sub_one]
    simp [hi]
  rw [e1]
  constructor
  · intro h
    refine Nat.lt_pow_two_of_testBit _ ?_
    intro i hi
    by_cases c : i < 32
    · have : (x.toBitVec &&& (BitVec.ofNat 32 (2 ^ n - 1) ^^^ (-1#32))).getLsbD i = (0#32).getLsbD i := by rw [h]
      rw [BitVec.getLsbD_and, e2 i c, BitVec.getLsbD_zero] at this
      have hd : decide (i < n) = false := decide_eq_false (by omega)
      rw [hd, Bool.not_false, Bool.and_true] at this
      exact this
    · exact BitVec.getLsbD_of_ge _ _ (by omega)
  · intro h
    refine BitVec.eq_of_getLsbD_eq ?_
    intro i hi
    rw [BitVec.getLsbD_and, e2 i hi, BitVec.getLsbD_zero]
    by_cases c : i < n
    · rw [decide_eq_true c, Bool.not_true, Bool.and_false]
    · have : x.toBitVec.getLsbD i = false := Nat.testBit_lt_two_pow (Nat.lt_of_lt_of_le h (Nat.pow_le_pow_right (by omega) (by omega)))
      rw [this, Bool.false_and]
theorem isSet_iff {n : Nat} (hn : n ≤ 7) (x : Int32) : x &&& (allS n ^^^ (-1)) = 0 ↔ (¬ x < 0 ∧ ¬ nI (2 ^ n - 1) < x) := by
  rw [isSet_nat hn]
  have p128 : 2 ^ n ≤ 2 ^ 7 := Nat.pow_le_pow_right (by omega) hn
  have p1 : 1 ≤ 2 ^ n := Nat.one_le_two_pow
  rw [xlt_i, xlt_i, xti0, nI_toInt (by omega)]
  have e : x.toInt = x.toBitVec.toInt := rfl
  rw [e, BitVec.toInt_eq_toNat_cond]
  have := x.toBitVec.isLt
  split <;> omega
section XMJ
variable {X : xS} {h : xH} {S : Nat → Int32} {nm : Int64} {A : Nat → Nat → Int32} {n m hr : Nat}
theorem m_isSetT (hM : xMB X h S nm A) (hn : n ≤ 7) (hA : A 0 1 = nI n) {x : Int32} (hx : x &&& (allS n ^^^ (-1)) = 0) : xR X m_X12_isSet 0 [.ref 169, .int x] [] h = some (some (.int 1), h) := by
  have hc := hM.1
  have a0 := hM.2.1
  rw [isSet_iff hn] at hx
  have b : (nI 1 <<< (nI n &&& 31)) - nI 1 = nI (2 ^ n - 1) := allS_eq n hn
  have q := fun hh : xH => m_inT (X := X) (h := hh) (x := x) (lo := 0) (hi := nI (2 ^ n - 1)) hx.1 hx.2
  have o1 : (1 : Int32) = 0 ∨ (1 : Int32) = 1 := Or.inr rfl
  simp (disch := first | exact xnl_i _ | exact xnl_r _ | exact xnl_u _ | exact xnl_n | exact zI_2 | exact zI_24 | assumption | omega | (simp only [xset_len]; omega)) only [↓reduceIte, xbd_s, xpv_n, xpv_s, e_X12_isSet_0, e_X12_isSet_1, e_X12_isSet_2, e_X12_isSet_3, e_X12_isSet_4, e_X12_isSet_7, e_X12_isSet_8, e_X12_isSet_9, e_X12_isSet_10, e_X12_isSet_11, e_X12_isSet_12, e_X12_isSet_15, e_X12_isSet_15_0, e_X12_isSet_15_1, g_12_7_11, hc, a0, xl_i, hA, b, z0, q]
theorem m_isSetF (hM : xMB X h S nm A) (hn : n ≤ 7) (hA : A 0 1 = nI n) {x : Int32} (hx : ¬ x &&& (allS n ^^^ (-1)) = 0) : xR X m_X12_isSet 0 [.ref 169, .int x] [] h = some (some (.int 0), h) := by
  have hc := hM.1
  have a0 := hM.2.1
  rw [isSet_iff hn] at hx
  have b : (nI 1 <<< (nI n &&& 31)) - nI 1 = nI (2 ^ n - 1) := allS_eq n hn
  have hx2 : x < 0 ∨ nI (2 ^ n - 1) < x := by
    by_cases c : x < 0
    · exact Or.inl c
    · exact Or.inr (Classical.byContradiction fun e => hx ⟨c, e⟩)
  have q := fun hh : xH => m_inF (X := X) (h := hh) (x := x) (lo := 0) (hi := nI (2 ^ n - 1)) hx2
  have o1 : (0 : Int32) = 0 ∨ (0 : Int32) = 1 := Or.inl rfl
  simp (disch := first | exact xnl_i _ | exact xnl_r _ | exact xnl_u _ | exact xnl_n | exact zI_2 | exact zI_24 | assumption | omega | (simp only [xset_len]; omega)) only [↓reduceIte, xbd_s, xpv_n, xpv_s, e_X12_isSet_0, e_X12_isSet_1, e_X12_isSet_2, e_X12_isSet_3, e_X12_isSet_4, e_X12_isSet_7, e_X12_isSet_8, e_X12_isSet_9, e_X12_isSet_10, e_X12_isSet_11, e_X12_isSet_12, e_X12_isSet_15, e_X12_isSet_15_0, e_X12_isSet_15_1, g_12_7_11, hc, a0, xl_i, hA, b, z0, q]
theorem m_libT (hM : xMB X h S nm A) (hA : A 0 0 = nI 1) : xR X m_X12_isLibrary 0 [.ref 169] [] h = some (some (.int 1), h) := by
  rw [m_isLibrary hM, if_pos hA]; rfl
theorem m_libF (hM : xMB X h S nm A) (hA : ¬ A 0 0 = nI 1) : xR X m_X12_isLibrary 0 [.ref 169] [] h = some (some (.int 0), h) := by
  rw [m_isLibrary hM, if_neg hA]; rfl
theorem m_oneHandN (hM : xMB X h S nm A) (hA : ¬ A 0 0 = nI 1) (x : Int32) : xR X m_X12_oneHand 0 [.ref 169, .int x, xU, xU] [] h = some (some (.int cSTATE), h) := by
  have q := m_libF hM hA
  have hc := hM.1
  simp (disch := first | exact xnl_i _ | exact xnl_r _ | exact xnl_u _ | exact xnl_n | exact zI_2 | exact zI_24 | assumption | omega | (simp only [xset_len]; omega)) only [↓reduceIte, xbd_s, xpv_n, xpv_s, e_X12_oneHand_0, e_X12_oneHand_1, c_X12_oneHand_149_11_0, c_X12_oneHand_170_11_0, c_X12_oneHand_193_11_0, c_X12_oneHand_196_11_1, e_X12_oneHand_4, e_X12_oneHand_7, e_X12_oneHand_9, e_X12_oneHand_10, e_X12_oneHand_11, e_X12_oneHand_12, e_X12_oneHand_15, e_X12_oneHand_18, e_X12_oneHand_20, e_X12_oneHand_21, e_X12_oneHand_22, e_X12_oneHand_23, e_X12_oneHand_26, e_X12_oneHand_27, e_X12_oneHand_28, e_X12_oneHand_29, e_X12_oneHand_30, e_X12_oneHand_31, e_X12_oneHand_32, e_X12_oneHand_33, e_X12_oneHand_34, e_X12_oneHand_35, e_X12_oneHand_36, e_X12_oneHand_39, e_X12_oneHand_40, e_X12_oneHand_41, e_X12_oneHand_44, e_X12_oneHand_45, e_X12_oneHand_46, e_X12_oneHand_49, e_X12_oneHand_52, e_X12_oneHand_53, e_X12_oneHand_54, e_X12_oneHand_55, e_X12_oneHand_58, e_X12_oneHand_60, e_X12_oneHand_61, e_X12_oneHand_62, e_X12_oneHand_63, e_X12_oneHand_66, e_X12_oneHand_67, e_X12_oneHand_68, e_X12_oneHand_71, e_X12_oneHand_73, e_X12_oneHand_76, e_X12_oneHand_77, e_X12_oneHand_80, e_X12_oneHand_81, e_X12_oneHand_82, e_X12_oneHand_85, e_X12_oneHand_86, e_X12_oneHand_87, e_X12_oneHand_90, e_X12_oneHand_93, e_X12_oneHand_94, g_12_187_11, g_12_7_11, hc, q]
theorem m_oneHandB (hM : xMB X h S nm A) (hn : n ≤ 7) (hA : A 0 1 = nI n) (hA0 : A 0 0 = nI 1) {x : Int32} (hx : ¬ x &&& (allS n ^^^ (-1)) = 0) : xR X m_X12_oneHand 0 [.ref 169, .int x, xU, xU] [] h = some (some (.int cBAD), h) := by
  have q := m_libT hM hA0
  have q1 := m_isSetF hM hn hA hx
  have hc := hM.1
  simp (disch := first | exact xnl_i _ | exact xnl_r _ | exact xnl_u _ | exact xnl_n | exact zI_2 | exact zI_24 | assumption | omega | (simp only [xset_len]; omega)) only [↓reduceIte, xbd_s, xpv_n, xpv_s, e_X12_oneHand_0, e_X12_oneHand_1, c_X12_oneHand_149_11_0, c_X12_oneHand_170_11_0, c_X12_oneHand_193_11_0, c_X12_oneHand_196_11_1, e_X12_oneHand_4, e_X12_oneHand_7, e_X12_oneHand_9, e_X12_oneHand_10, e_X12_oneHand_11, e_X12_oneHand_12, e_X12_oneHand_15, e_X12_oneHand_18, e_X12_oneHand_20, e_X12_oneHand_21, e_X12_oneHand_22, e_X12_oneHand_23, e_X12_oneHand_26, e_X12_oneHand_27, e_X12_oneHand_28, e_X12_oneHand_29, e_X12_oneHand_30, e_X12_oneHand_31, e_X12_oneHand_32, e_X12_oneHand_33, e_X12_oneHand_34, e_X12_oneHand_35, e_X12_oneHand_36, e_X12_oneHand_39, e_X12_oneHand_40, e_X12_oneHand_41, e_X12_oneHand_44, e_X12_oneHand_45, e_X12_oneHand_46, e_X12_oneHand_49, e_X12_oneHand_52, e_X12_oneHand_53, e_X12_oneHand_54, e_X12_oneHand_55, e_X12_oneHand_58, e_X12_oneHand_60, e_X12_oneHand_61, e_X12_oneHand_62, e_X12_oneHand_63, e_X12_oneHand_66, e_X12_oneHand_67, e_X12_oneHand_68, e_X12_oneHand_71, e_X12_oneHand_73, e_X12_oneHand_76, e_X12_oneHand_77, e_X12_oneHand_80, e_X12_oneHand_81, e_X12_oneHand_82, e_X12_oneHand_85, e_X12_oneHand_86, e_X12_oneHand_87, e_X12_oneHand_90, e_X12_oneHand_93, e_X12_oneHand_94, g_12_187_11, g_12_7_11, hc, q, q1, ne10]
theorem m_oneHand (hM : xMB X h S nm A) (T : xST (A 0) n m hr) {x : Int32} (hx : x &&& (allS n ^^^ (-1)) = 0) (hD : ∀ s, s < n → ¬ A 0 (26 + s) < 0 ∧ ¬ nI 9999 < A 0 (26 + s)) (hF : ∀ s, s < n → ∀ t, 0 ≤ (mfl (A 0) s t).toInt ∧ (mfl (A 0) s t).toInt ≤ 10) : ∃ h' S', xR X m_X12_oneHand 0 [.ref 169, .int x, xU, xU] [] h = some (some (.int (xfold (ohF (fun s => A 0 (3 + s)) (fun s => A 0 (10 + s)) (fun s => A 0 (26 + s)) (cmS m (fun r => A 0 (17 + r)) (fun r => A 0 (21 + r))) m hr x) n (allS m))), h') ∧ xMB X h' S' nm A ∧ kpt S S' ∧ xFr X inM h h' := by
  have hn := T.2.2.1
  have q := m_libT hM T.1
  have q1 := m_isSetT hM hn T.2.1 hx
  have hA1 := T.2.1
  have h2m := T.2.2.2.1
  have hm4 := T.2.2.2.2.1
  have L := x_loopH (X := X) (A := inM) (fun k (y : Int32) h => xR X m_X12_oneHand 34 [.ref 169, .int x, .int y, .int (nI k)] [] h) (fun y h => ∃ S', kpt S S' ∧ xMB X h S' nm A) (ohF (fun s => A 0 (3 + s)) (fun s => A 0 (10 + s)) (fun s => A 0 (26 + s)) (cmS m (fun r => A 0 (17 + r)) (fun r => A 0 (21 + r))) m hr x) n (by
    intro k hk y h hI
    obtain ⟨S1, hk1, hM⟩ := hI
    have hc := hM.1
    have a0 := hM.2.1
    have e1 : nI k < nI n := nI_lt hk (by omega)
    unfold ohF
    by_cases c : (x >>> (nI k &&& 31)) &&& nI 1 = nI 1
    · rw [if_pos c]
      obtain ⟨h', f1, f2, f3⟩ := m_find2 hM T hk (hD k hk).1 (hD k hk).2 (hF k hk)
      refine ⟨h', ?_, ⟨_, kpt_tr hk1 (kpt_2 (by omega) (by omega)), f2⟩, f3⟩
      have hc1 := f2.1
      rw [upd_eq, upd_ne (show 11 ≠ 12 by decide), upd_eq] at hc1
      rw [e_X12_oneHand_34]
      cases hL : lTS (mfl (A 0) k) (A 0 (26 + k)) hr (nI 0) with
      | none =>
        have e4 : whoO 0 (whoS (cmS m (fun r => A 0 (17 + r)) (fun r => A 0 (21 + r))) m (fun t => fallS (A 0 (3 + k)) (A 0 (10 + k)) (nI t)) (A 0 (26 + k)) hr) = -1000000 := by
          unfold whoS
          rw [show (fun t => fallS (A 0 (3 + k)) (A 0 (10 + k)) (nI t)) = mfl (A 0) k from rfl, hL]
          all_goals rfl
        have e5 : (-1000000 : Int32) = (-1000000 : Int32) := rfl
        rw [if_pos e4]
        rw [hL] at hc1
        dsimp only [fwP] at hc1
        simp (disch := first | exact xnl_i _ | exact xnl_r _ | exact xnl_u _ | exact xnl_n | exact zI_2 | exact zI_24 | assumption | omega | (simp only [xset_len]; omega)) only [↓reduceIte, xbd_s, xpv_n, xpv_s, e_X12_oneHand_0, e_X12_oneHand_1, c_X12_oneHand_149_11_0, c_X12_oneHand_170_11_0, c_X12_oneHand_193_11_0, c_X12_oneHand_196_11_1, e_X12_oneHand_4, e_X12_oneHand_7, e_X12_oneHand_9, e_X12_oneHand_10, e_X12_oneHand_11, e_X12_oneHand_12, e_X12_oneHand_15, e_X12_oneHand_18, e_X12_oneHand_20, e_X12_oneHand_21, e_X12_oneHand_22, e_X12_oneHand_23, e_X12_oneHand_26, e_X12_oneHand_27, e_X12_oneHand_28, e_X12_oneHand_29, e_X12_oneHand_30, e_X12_oneHand_31, e_X12_oneHand_32, e_X12_oneHand_33, e_X12_oneHand_35, e_X12_oneHand_36, e_X12_oneHand_39, e_X12_oneHand_40, e_X12_oneHand_41, e_X12_oneHand_44, e_X12_oneHand_45, e_X12_oneHand_46, e_X12_oneHand_49, e_X12_oneHand_52, e_X12_oneHand_53, e_X12_oneHand_54, e_X12_oneHand_55, e_X12_oneHand_58, e_X12_oneHand_60, e_X12_oneHand_61, e_X12_oneHand_62, e_X12_oneHand_63, e_X12_oneHand_66, e_X12_oneHand_67, e_X12_oneHand_68, e_X12_oneHand_71, e_X12_oneHand_73, e_X12_oneHand_76, e_X12_oneHand_77, e_X12_oneHand_80, e_X12_oneHand_81, e_X12_oneHand_82, e_X12_oneHand_85, e_X12_oneHand_86, e_X12_oneHand_87, e_X12_oneHand_90, e_X12_oneHand_93, e_X12_oneHand_94, g_12_187_11, g_12_7_11, hc, a0, hA1, xl_i, if_pos e1, m_has, if_pos c, zI_1, nI_add, f1, hc1, if_pos e5, nI_inc]
      | some r =>
        have l1 := lTS_le _ _ _ _ _ hL
        have l2 := fTS_le (mfl (A 0) k) r
        have hr9 := T.2.2.2.2.2.2.1
        have e5 : ¬ nI (fTS (mfl (A 0) k) r) = -1000000 := nI_neNO (by omega)
        have e6 := whoO_ne hm4 (fun r => A 0 (17 + r)) (fun r => A 0 (21 + r)) (mfl (A 0) k) (A 0 (26 + k)) hr r hL
        rw [hL] at hc1 f2
        dsimp only [fwP] at hc1
        have q4 := m_whoOf2 f2 T hL (by rw [upd_ne (by decide), upd_eq]; rfl) (by rw [upd_eq]; rfl) 0
        rw [if_neg (show ¬ whoO 0 (whoS (cmS m (fun r => A 0 (17 + r)) (fun r => A 0 (21 + r))) m (fun t => fallS (A 0 (3 + k)) (A 0 (10 + k)) (nI t)) (A 0 (26 + k)) hr) = xNO from e6)]
        simp (disch := first | exact xnl_i _ | exact xnl_r _ | exact xnl_u _ | exact xnl_n | exact zI_2 | exact zI_24 | assumption | omega | (simp only [xset_len]; omega)) only [↓reduceIte, xbd_s, xpv_n, xpv_s, e_X12_oneHand_0, e_X12_oneHand_1, c_X12_oneHand_149_11_0, c_X12_oneHand_170_11_0, c_X12_oneHand_193_11_0, c_X12_oneHand_196_11_1, e_X12_oneHand_4, e_X12_oneHand_7, e_X12_oneHand_9, e_X12_oneHand_10, e_X12_oneHand_11, e_X12_oneHand_12, e_X12_oneHand_15, e_X12_oneHand_18, e_X12_oneHand_20, e_X12_oneHand_21, e_X12_oneHand_22, e_X12_oneHand_23, e_X12_oneHand_26, e_X12_oneHand_27, e_X12_oneHand_28, e_X12_oneHand_29, e_X12_oneHand_30, e_X12_oneHand_31, e_X12_oneHand_32, e_X12_oneHand_33, e_X12_oneHand_35, e_X12_oneHand_36, e_X12_oneHand_39, e_X12_oneHand_40, e_X12_oneHand_41, e_X12_oneHand_44, e_X12_oneHand_45, e_X12_oneHand_46, e_X12_oneHand_49, e_X12_oneHand_52, e_X12_oneHand_53, e_X12_oneHand_54, e_X12_oneHand_55, e_X12_oneHand_58, e_X12_oneHand_60, e_X12_oneHand_61, e_X12_oneHand_62, e_X12_oneHand_63, e_X12_oneHand_66, e_X12_oneHand_67, e_X12_oneHand_68, e_X12_oneHand_71, e_X12_oneHand_73, e_X12_oneHand_76, e_X12_oneHand_77, e_X12_oneHand_80, e_X12_oneHand_81, e_X12_oneHand_82, e_X12_oneHand_85, e_X12_oneHand_86, e_X12_oneHand_87, e_X12_oneHand_90, e_X12_oneHand_93, e_X12_oneHand_94, g_12_187_11, g_12_7_11, hc, a0, hA1, xl_i, if_pos e1, m_has, if_pos c, zI_1, nI_add, f1, hc1, if_neg e5, z0, q4, nI_inc]
        all_goals rfl
    · rw [if_neg c]
      refine ⟨h, ?_, ⟨S1, hk1, hM⟩, xFr_rfl⟩
      rw [e_X12_oneHand_34]
      simp (disch := first | exact xnl_i _ | exact xnl_r _ | exact xnl_u _ | exact xnl_n | exact zI_2 | exact zI_24 | assumption | omega | (simp only [xset_len]; omega)) only [↓reduceIte, xbd_s, xpv_n, xpv_s, e_X12_oneHand_0, e_X12_oneHand_1, c_X12_oneHand_149_11_0, c_X12_oneHand_170_11_0, c_X12_oneHand_193_11_0, c_X12_oneHand_196_11_1, e_X12_oneHand_4, e_X12_oneHand_7, e_X12_oneHand_9, e_X12_oneHand_10, e_X12_oneHand_11, e_X12_oneHand_12, e_X12_oneHand_15, e_X12_oneHand_18, e_X12_oneHand_20, e_X12_oneHand_21, e_X12_oneHand_22, e_X12_oneHand_23, e_X12_oneHand_26, e_X12_oneHand_27, e_X12_oneHand_28, e_X12_oneHand_29, e_X12_oneHand_30, e_X12_oneHand_31, e_X12_oneHand_32, e_X12_oneHand_33, e_X12_oneHand_35, e_X12_oneHand_36, e_X12_oneHand_39, e_X12_oneHand_40, e_X12_oneHand_41, e_X12_oneHand_44, e_X12_oneHand_45, e_X12_oneHand_46, e_X12_oneHand_49, e_X12_oneHand_52, e_X12_oneHand_53, e_X12_oneHand_54, e_X12_oneHand_55, e_X12_oneHand_58, e_X12_oneHand_60, e_X12_oneHand_61, e_X12_oneHand_62, e_X12_oneHand_63, e_X12_oneHand_66, e_X12_oneHand_67, e_X12_oneHand_68, e_X12_oneHand_71, e_X12_oneHand_73, e_X12_oneHand_76, e_X12_oneHand_77, e_X12_oneHand_80, e_X12_oneHand_81, e_X12_oneHand_82, e_X12_oneHand_85, e_X12_oneHand_86, e_X12_oneHand_87, e_X12_oneHand_90, e_X12_oneHand_93, e_X12_oneHand_94, g_12_187_11, g_12_7_11, hc, a0, hA1, xl_i, if_pos e1, m_has, if_neg c, z0, nI_inc]) (allS m) h ⟨S, kpt_rfl, hM⟩
  obtain ⟨h', f1, ⟨S', f2, f3⟩, f4⟩ := L
  refine ⟨h', S', ?_, f3, f2, f4⟩
  have hc := hM.1
  have a0 := hM.2.1
  have b2 : (nI 1 <<< (nI m &&& 31)) - nI 1 = allS m := rfl
  simp (disch := first | exact xnl_i _ | exact xnl_r _ | exact xnl_u _ | exact xnl_n | exact zI_2 | exact zI_24 | assumption | omega | (simp only [xset_len]; omega)) only [↓reduceIte, xbd_s, xpv_n, xpv_s, e_X12_oneHand_0, e_X12_oneHand_1, c_X12_oneHand_149_11_0, c_X12_oneHand_170_11_0, c_X12_oneHand_193_11_0, c_X12_oneHand_196_11_1, e_X12_oneHand_4, e_X12_oneHand_7, e_X12_oneHand_9, e_X12_oneHand_10, e_X12_oneHand_11, e_X12_oneHand_12, e_X12_oneHand_15, e_X12_oneHand_18, e_X12_oneHand_20, e_X12_oneHand_21, e_X12_oneHand_22, e_X12_oneHand_23, e_X12_oneHand_26, e_X12_oneHand_27, e_X12_oneHand_28, e_X12_oneHand_29, e_X12_oneHand_30, e_X12_oneHand_31, e_X12_oneHand_32, e_X12_oneHand_33, e_X12_oneHand_35, e_X12_oneHand_36, e_X12_oneHand_39, e_X12_oneHand_40, e_X12_oneHand_41, e_X12_oneHand_44, e_X12_oneHand_45, e_X12_oneHand_46, e_X12_oneHand_49, e_X12_oneHand_52, e_X12_oneHand_53, e_X12_oneHand_54, e_X12_oneHand_55, e_X12_oneHand_58, e_X12_oneHand_60, e_X12_oneHand_61, e_X12_oneHand_62, e_X12_oneHand_63, e_X12_oneHand_66, e_X12_oneHand_67, e_X12_oneHand_68, e_X12_oneHand_71, e_X12_oneHand_73, e_X12_oneHand_76, e_X12_oneHand_77, e_X12_oneHand_80, e_X12_oneHand_81, e_X12_oneHand_82, e_X12_oneHand_85, e_X12_oneHand_86, e_X12_oneHand_87, e_X12_oneHand_90, e_X12_oneHand_93, e_X12_oneHand_94, g_12_187_11, g_12_7_11, hc, a0, h2m, xl_i, q, q1, ne10, b2]
  refine f1.trans ?_
  have hc1 := f3.1
  have a1 := f3.2.1
  have e1 : ¬ nI n < nI n := nI_nlt (Nat.le_refl n) (by omega)
  simp (disch := first | exact xnl_i _ | exact xnl_r _ | exact xnl_u _ | exact xnl_n | exact zI_2 | exact zI_24 | assumption | omega | (simp only [xset_len]; omega)) only [↓reduceIte, xbd_s, xpv_n, xpv_s, e_X12_oneHand_0, e_X12_oneHand_1, c_X12_oneHand_149_11_0, c_X12_oneHand_170_11_0, c_X12_oneHand_193_11_0, c_X12_oneHand_196_11_1, e_X12_oneHand_4, e_X12_oneHand_7, e_X12_oneHand_9, e_X12_oneHand_10, e_X12_oneHand_11, e_X12_oneHand_12, e_X12_oneHand_15, e_X12_oneHand_18, e_X12_oneHand_20, e_X12_oneHand_21, e_X12_oneHand_22, e_X12_oneHand_23, e_X12_oneHand_26, e_X12_oneHand_27, e_X12_oneHand_28, e_X12_oneHand_29, e_X12_oneHand_30, e_X12_oneHand_31, e_X12_oneHand_32, e_X12_oneHand_33, e_X12_oneHand_34, e_X12_oneHand_35, e_X12_oneHand_36, e_X12_oneHand_39, e_X12_oneHand_40, e_X12_oneHand_41, e_X12_oneHand_44, e_X12_oneHand_45, e_X12_oneHand_46, e_X12_oneHand_49, e_X12_oneHand_52, e_X12_oneHand_53, e_X12_oneHand_54, e_X12_oneHand_55, e_X12_oneHand_58, e_X12_oneHand_60, e_X12_oneHand_61, e_X12_oneHand_62, e_X12_oneHand_63, e_X12_oneHand_66, e_X12_oneHand_67, e_X12_oneHand_68, e_X12_oneHand_71, e_X12_oneHand_73, e_X12_oneHand_76, e_X12_oneHand_77, e_X12_oneHand_80, e_X12_oneHand_81, e_X12_oneHand_82, e_X12_oneHand_85, e_X12_oneHand_86, e_X12_oneHand_87, e_X12_oneHand_90, e_X12_oneHand_93, e_X12_oneHand_94, g_12_187_11, g_12_7_11, hc1, a1, hA1, xl_i, if_neg e1]
end XMJ
