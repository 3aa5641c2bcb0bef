/-! the class: image, restore -/
section XAF
variable {X : xS} {h : xH} {fi ta lf ol un : Int32} {lib p : Nat} {pv : Value} {hr : Int32} {d k a o : Nat → Int32}
theorem r_imageB (hC : xCB X h fi ta lf lib ol un) (hA : xPA X h) {x : Int32} (hx : x < 0 ∨ ¬ x < nI 2) : xR X m_X11_image 0 [.ref 16, .int x] [] h = some (some (.int cBAD), h) := by
  have hc : xget X h 16 = _ := hC
  obtain ⟨_, ⟨g, g1, g2⟩⟩ := hA
  by_cases c : x < 0
  · simp (disch := first | exact xnl_i _ | exact xnl_r _ | exact xnl_u _ | exact xnl_n | exact zI_2 | exact zI_24 | assumption | omega | (simp only [xset_len]; omega)) only [↓reduceIte, xbd_s, xpv_n, xpv_s, e_X11_image_0, e_X11_image_1, e_X11_image_4, e_X11_image_5, e_X11_image_6, e_X11_image_9, e_X11_image_10, e_X11_image_13, e_X11_image_15, e_X11_image_16, e_X11_image_17, e_X11_image_20, c_X11_image_112_3_0, c_X11_image_158_3_0, e_X11_image_23, e_X11_image_26, e_X11_image_28, e_X11_image_29, e_X11_image_30, e_X11_image_33, e_X11_image_34, e_X11_image_35, e_X11_image_36, e_X11_image_39, e_X11_image_42, e_X11_image_43, g_11_25_10, g_11_33_10, hc, c]
  · have c2 := hx.resolve_left c
    simp (disch := first | exact xnl_i _ | exact xnl_r _ | exact xnl_u _ | exact xnl_n | exact zI_2 | exact zI_24 | assumption | omega | (simp only [xset_len]; omega)) only [↓reduceIte, xbd_s, xpv_n, xpv_s, e_X11_image_0, e_X11_image_1, e_X11_image_4, e_X11_image_5, e_X11_image_6, e_X11_image_9, e_X11_image_10, e_X11_image_13, e_X11_image_15, e_X11_image_16, e_X11_image_17, e_X11_image_20, c_X11_image_112_3_0, c_X11_image_158_3_0, e_X11_image_23, e_X11_image_26, e_X11_image_28, e_X11_image_29, e_X11_image_30, e_X11_image_33, e_X11_image_34, e_X11_image_35, e_X11_image_36, e_X11_image_39, e_X11_image_42, e_X11_image_43, g_11_25_10, g_11_33_10, hc, g1, xn_K, c, c2]
theorem r_imageN (hC : xCB X h fi ta lf lib ol un) (hA : xPA X h) (hL : xLB X h lib .null hr d k a o) {x : Int32} (h1 : ¬ x < 0) (h2 : x < nI 2) : xR X m_X11_image 0 [.ref 16, .int x] [] h = some (some (.int cSTATE), h) := by
  have hc : xget X h 16 = _ := hC
  obtain ⟨_, ⟨g, g1, g2⟩⟩ := hA
  have q := r_isThereN hL
  have l0 := hL.1
  simp (disch := first | exact xnl_i _ | exact xnl_r _ | exact xnl_u _ | exact xnl_n | exact zI_2 | exact zI_24 | assumption | omega | (simp only [xset_len]; omega)) only [↓reduceIte, xbd_s, xpv_n, xpv_s, e_X11_image_0, e_X11_image_1, e_X11_image_4, e_X11_image_5, e_X11_image_6, e_X11_image_9, e_X11_image_10, e_X11_image_13, e_X11_image_15, e_X11_image_16, e_X11_image_17, e_X11_image_20, c_X11_image_112_3_0, c_X11_image_158_3_0, e_X11_image_23, e_X11_image_26, e_X11_image_28, e_X11_image_29, e_X11_image_30, e_X11_image_33, e_X11_image_34, e_X11_image_35, e_X11_image_36, e_X11_image_39, e_X11_image_42, e_X11_image_43, g_11_25_10, g_11_33_10, hc, g1, xn_K, h1, h2, l0, q, z0]
theorem r_image (hC : xCB X h fi ta lf lib ol un) (hA : xPA X h) (hL : xLB X h lib (.ref p) hr d k a o) (hlib : lib + 4 < 157 ∨ 166 < lib) {i : Nat} (hi : i < 2) {pv1 : Value} {hr1 : Int32} {d1 k1 a1 o1 : Nat → Int32} (hB : xLB X h (157 + 5 * i) pv1 hr1 d1 k1 a1 o1) : ∃ h' d2 k2 a2 o2, xR X m_X11_image 0 [.ref 16, .int (nI i)] [] h = some (some (.int (nI 1)), h') ∧ xLB X h' (157 + 5 * i) (.ref p) hr d2 k2 a2 o2 ∧ (∀ j, j < 7 → d2 j = d j ∧ k2 j = k j ∧ a2 j = a j ∧ o2 j = o j) ∧ xFr X (inL (157 + 5 * i)) h h' := by
  have hc : xget X h 16 = _ := hC
  obtain ⟨_, ⟨g, g1, g2⟩⟩ := hA
  have q := r_isThere hL
  have l0 := hL.1
  have b0 := hB.1
  have e1 := g2 i hi
  have h1 : ¬ nI i < 0 := nI_pos (by omega)
  have h2 : nI i < nI 2 := nI_lt hi (by omega)
  have q3' : 3 ≤ 5 ∧ 5 ≤ 5 := by omega
  obtain ⟨h', d2, k2, a2, o2, q1, q2, q3, q4⟩ := r_become (Or.inr ⟨p, rfl⟩) hB hL (by omega)
  exact ⟨h', d2, k2, a2, o2, by simp (disch := first | exact xnl_i _ | exact xnl_r _ | exact xnl_u _ | exact xnl_n | exact zI_2 | exact zI_24 | assumption | omega | (simp only [xset_len]; omega)) only [↓reduceIte, xbd_s, xpv_n, xpv_s, e_X11_image_0, e_X11_image_1, e_X11_image_4, e_X11_image_5, e_X11_image_6, e_X11_image_9, e_X11_image_10, e_X11_image_13, e_X11_image_15, e_X11_image_16, e_X11_image_17, e_X11_image_20, c_X11_image_112_3_0, c_X11_image_158_3_0, e_X11_image_23, e_X11_image_26, e_X11_image_28, e_X11_image_29, e_X11_image_30, e_X11_image_33, e_X11_image_34, e_X11_image_35, e_X11_image_36, e_X11_image_39, e_X11_image_42, e_X11_image_43, g_11_25_10, g_11_33_10, hc, g1, xn_K, h1, h2, l0, q, zI_1, xl_a, e1, xrv_s, b0, q1], q2, q3, q4⟩
theorem r_restoreB (hC : xCB X h fi ta lf lib ol un) (hA : xPA X h) {x : Int32} (hx : x < 0 ∨ ¬ x < nI 2) : xR X m_X11_restore 0 [.ref 16, .int x] [] h = some (some (.int cBAD), h) := by
  have hc : xget X h 16 = _ := hC
  obtain ⟨_, ⟨g, g1, g2⟩⟩ := hA
  by_cases c : x < 0
  · simp (disch := first | exact xnl_i _ | exact xnl_r _ | exact xnl_u _ | exact xnl_n | exact zI_2 | exact zI_24 | assumption | omega | (simp only [xset_len]; omega)) only [↓reduceIte, xbd_s, xpv_n, xpv_s, e_X11_restore_0, e_X11_restore_1, e_X11_restore_4, e_X11_restore_5, e_X11_restore_6, e_X11_restore_9, e_X11_restore_10, e_X11_restore_13, e_X11_restore_15, e_X11_restore_16, e_X11_restore_17, e_X11_restore_20, e_X11_restore_21, e_X11_restore_22, c_X11_restore_112_3_0, c_X11_restore_158_3_0, c_X11_restore_105_10_0, e_X11_restore_25, e_X11_restore_28, e_X11_restore_30, e_X11_restore_31, e_X11_restore_32, e_X11_restore_35, e_X11_restore_36, e_X11_restore_39, e_X11_restore_40, e_X11_restore_41, e_X11_restore_44, e_X11_restore_45, e_X11_restore_48, e_X11_restore_49, g_11_25_10, g_11_33_10, hc, c]
  · have c2 := hx.resolve_left c
    simp (disch := first | exact xnl_i _ | exact xnl_r _ | exact xnl_u _ | exact xnl_n | exact zI_2 | exact zI_24 | assumption | omega | (simp only [xset_len]; omega)) only [↓reduceIte, xbd_s, xpv_n, xpv_s, e_X11_restore_0, e_X11_restore_1, e_X11_restore_4, e_X11_restore_5, e_X11_restore_6, e_X11_restore_9, e_X11_restore_10, e_X11_restore_13, e_X11_restore_15, e_X11_restore_16, e_X11_restore_17, e_X11_restore_20, e_X11_restore_21, e_X11_restore_22, c_X11_restore_112_3_0, c_X11_restore_158_3_0, c_X11_restore_105_10_0, e_X11_restore_25, e_X11_restore_28, e_X11_restore_30, e_X11_restore_31, e_X11_restore_32, e_X11_restore_35, e_X11_restore_36, e_X11_restore_39, e_X11_restore_40, e_X11_restore_41, e_X11_restore_44, e_X11_restore_45, e_X11_restore_48, e_X11_restore_49, g_11_25_10, g_11_33_10, hc, g1, xn_K, c, c2]
theorem r_restoreN (hC : xCB X h fi ta lf lib ol un) (hA : xPA X h) {i : Nat} (hi : i < 2) (hB : xLB X h (157 + 5 * i) .null hr d k a o) : xR X m_X11_restore 0 [.ref 16, .int (nI i)] [] h = some (some (.int cSTATE), h) := by
  have hc : xget X h 16 = _ := hC
  obtain ⟨_, ⟨g, g1, g2⟩⟩ := hA
  have q := r_isThereN hB
  have b0 := hB.1
  have e1 := g2 i hi
  have h1 : ¬ nI i < 0 := nI_pos (by omega)
  have h2 : nI i < nI 2 := nI_lt hi (by omega)
  have q3' : 3 ≤ 5 ∧ 5 ≤ 5 := by omega
  simp (disch := first | exact xnl_i _ | exact xnl_r _ | exact xnl_u _ | exact xnl_n | exact zI_2 | exact zI_24 | assumption | omega | (simp only [xset_len]; omega)) only [↓reduceIte, xbd_s, xpv_n, xpv_s, e_X11_restore_0, e_X11_restore_1, e_X11_restore_4, e_X11_restore_5, e_X11_restore_6, e_X11_restore_9, e_X11_restore_10, e_X11_restore_13, e_X11_restore_15, e_X11_restore_16, e_X11_restore_17, e_X11_restore_20, e_X11_restore_21, e_X11_restore_22, c_X11_restore_112_3_0, c_X11_restore_158_3_0, c_X11_restore_105_10_0, e_X11_restore_25, e_X11_restore_28, e_X11_restore_30, e_X11_restore_31, e_X11_restore_32, e_X11_restore_35, e_X11_restore_36, e_X11_restore_39, e_X11_restore_40, e_X11_restore_41, e_X11_restore_44, e_X11_restore_45, e_X11_restore_48, e_X11_restore_49, g_11_25_10, g_11_33_10, hc, g1, xn_K, h1, h2, xl_a, e1, xrv_s, b0, q, z0]
theorem r_restore (hC : xCB X h fi ta lf lib ol un) (hA : xPA X h) (hL : xLB X h lib pv hr d k a o) (hlib : lib + 4 < 157 ∨ 166 < lib) (hlib2 : 16 < lib) {i : Nat} (hi : i < 2) {hr1 : Int32} {d1 k1 a1 o1 : Nat → Int32} (hB : xLB X h (157 + 5 * i) (.ref p) hr1 d1 k1 a1 o1) : ∃ h' d2 k2 a2 o2, xR X m_X11_restore 0 [.ref 16, .int (nI i)] [] h = some (some (.int (nI 1)), h') ∧ xCB X h' fi ta lf lib ol (nI 0) ∧ xLB X h' lib (.ref p) hr1 d2 k2 a2 o2 ∧ (∀ j, j < 7 → d2 j = d1 j ∧ k2 j = k1 j ∧ a2 j = a1 j ∧ o2 j = o1 j) ∧ xFr X (fun c => c = 16 ∨ inL lib c) h h' := by
  have hc : xget X h 16 = _ := hC
  have lv := xg_live (by omega) hc
  obtain ⟨_, ⟨g, g1, g2⟩⟩ := hA
  have q := r_isThere hB
  have l0 := hL.1
  have b0 := hB.1
  have e1 := g2 i hi
  have h1 : ¬ nI i < 0 := nI_pos (by omega)
  have h2 : nI i < nI 2 := nI_lt hi (by omega)
  have q3' : 3 ≤ 5 ∧ 5 ≤ 5 := by omega
  obtain ⟨h1', d2, k2, a2, o2, q1, q2, q3, q4⟩ := r_become (Or.inr ⟨p, rfl⟩) hL hB (by omega)
  have hc1 : xget X h1' 16 = _ := (q4.2 16 (by unfold inL; omega)).trans hc
  have lv1 : 16 < h1'.length + 16 := by rw [q4.1]; exact lv
  have f2 : xFr X (fun c => c = 16) h1' (xset h1' 16 (xCc fi ta lf lib ol (nI 0))) := xFr_set (by omega) rfl
  refine ⟨xset h1' 16 (xCc fi ta lf lib ol (nI 0)), d2, k2, a2, o2, ?_, xg_same (by omega) lv1, xLB_fr q2 f2 (by unfold inL; omega), q3, xFr_tr (xFr_mo q4 (fun c hc => Or.inr hc)) (xFr_mo f2 (fun c hc => Or.inl hc))⟩
  simp (disch := first | exact xnl_i _ | exact xnl_r _ | exact xnl_u _ | exact xnl_n | exact zI_2 | exact zI_24 | assumption | omega | (simp only [xset_len]; omega)) only [↓reduceIte, xbd_s, xpv_n, xpv_s, e_X11_restore_0, e_X11_restore_1, e_X11_restore_4, e_X11_restore_5, e_X11_restore_6, e_X11_restore_9, e_X11_restore_10, e_X11_restore_13, e_X11_restore_15, e_X11_restore_16, e_X11_restore_17, e_X11_restore_20, e_X11_restore_21, e_X11_restore_22, c_X11_restore_112_3_0, c_X11_restore_158_3_0, c_X11_restore_105_10_0, e_X11_restore_25, e_X11_restore_28, e_X11_restore_30, e_X11_restore_31, e_X11_restore_32, e_X11_restore_35, e_X11_restore_36, e_X11_restore_39, e_X11_restore_40, e_X11_restore_41, e_X11_restore_44, e_X11_restore_45, e_X11_restore_48, e_X11_restore_49, g_11_25_10, g_11_33_10, e_X11_forgetActs_0, e_X11_forgetActs_1, e_X11_forgetActs_2, e_X11_forgetActs_5, p_11_152_10, hc, g1, xn_K, h1, h2, l0, q, zI_1, xl_a, e1, xrv_s, b0, q1, hc1]
  rfl
end XAF
