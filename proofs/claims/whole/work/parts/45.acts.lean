/-! the class: ACTS -/
theorem rem24 : ∀ x, x < 48 → nI x - nI x / nI 24 * nI 24 = nI (x % 24) := by decide +kernel
def xPA (X : xS) (h : xH) : Prop := (∃ g, xget X h 35 = some (.inr ((5, 24), .inr g)) ∧ ∀ k, k < 24 → g k = some (36 + 5 * k)) ∧ ∃ g, xget X h 156 = some (.inr ((5, 2), .inr g)) ∧ ∀ k, k < 2 → g k = some (157 + 5 * k)
section XAC
variable {X : xS} {h : xH} {fi ta lf : Int32} {lib p n m pl fr to ol un : Nat} {pv : Value} {hr : Int32} {d k a o : Nat → Int32} {g : Nat → Option Nat} {u v so dr : Nat → Int32}
theorem xPA_fr {A : Nat → Prop} {h' : xH} (hA : xPA X h) (hF : xFr X A h h') (h1 : ¬ A 35) (h2 : ¬ A 156) : xPA X h' := by
  obtain ⟨⟨g, g1, g2⟩, ⟨e, e1, e2⟩⟩ := hA
  exact ⟨⟨g, (hF.2 _ h1).trans g1, g2⟩, ⟨e, (hF.2 _ h2).trans e1, e2⟩⟩
theorem r_keep (hC : xCB X h fi ta lf lib (nI ol) (nI un)) (hA : xPA X h) (hol : ol < 24) (hun : un ≤ 24) (hpv : pv = .null ∨ ∃ p, pv = .ref p) (hL : xLB X h lib pv hr d k a o) (hlib : lib + 4 < 36 ∨ 156 < lib) (hlib2 : 16 < lib) {pv1 : Value} {hr1 : Int32} {d1 k1 a1 o1 : Nat → Int32} (hB : xLB X h (36 + 5 * ((ol + un) % 24)) pv1 hr1 d1 k1 a1 o1) : ∃ h' d2 k2 a2 o2, xR X m_X11_keepForUndo 0 [.ref 16] [] h = some (none, h') ∧ xCB X h' fi ta lf lib (nI (if un < 24 then ol else (ol + 1) % 24)) (nI (if un < 24 then un + 1 else un)) ∧ xLB X h' (36 + 5 * ((ol + un) % 24)) pv hr d2 k2 a2 o2 ∧ (∀ j, j < 7 → d2 j = d j ∧ k2 j = k j ∧ a2 j = a j ∧ o2 j = o j) ∧ xFr X (fun c => c = 16 ∨ inL (36 + 5 * ((ol + un) % 24)) c) h h' := by
  have hc : xget X h 16 = _ := hC
  have lv := xg_live (by omega) hc
  obtain ⟨⟨g, g1, g2⟩, _⟩ := hA
  have hi : (ol + un) % 24 < 24 := Nat.mod_lt _ (by omega)
  have e1 := rem24 (ol + un) (by omega)
  have e2 := g2 _ hi
  generalize hib : (ol + un) % 24 = i at *
  obtain ⟨h1, d2, k2, a2, o2, q1, q2, q3, q4⟩ := r_become hpv hB hL (by omega)
  have hc1 : xget X h1 16 = _ := (q4.2 16 (by unfold inL; omega)).trans hc
  have lv1 : 16 < h1.length + 16 := by rw [q4.1]; exact lv
  have l0 := hL.1
  have b0 := hB.1
  have q3' : 3 ≤ 5 ∧ 5 ≤ 5 := by omega
  have z24 : ¬ nI 24 = 0 := by decide
  by_cases c : un < 24
  · have e3 : nI un < nI 24 := nI_lt c (by omega)
    refine ⟨xset h1 16 (xCc fi ta lf lib (nI ol) (nI (un + 1))), d2, k2, a2, o2, ?_, ?_, ?_, q3, ?_⟩
    · simp (disch := first | exact xnl_i _ | exact xnl_r _ | exact xnl_u _ | exact xnl_n | exact zI_2 | exact zI_24 | assumption | omega | (simp only [xset_len]; omega)) only [↓reduceIte, xbd_s, xpv_n, xpv_s, e_X11_keepForUndo_0, e_X11_keepForUndo_1, e_X11_keepForUndo_4, e_X11_keepForUndo_5, e_X11_keepForUndo_8, e_X11_keepForUndo_9, e_X11_keepForUndo_12, e_X11_keepForUndo_13, e_X11_keepForUndo_15, e_X11_keepForUndo_16, e_X11_keepForUndo_17, e_X11_keepForUndo_18, e_X11_keepForUndo_21, c_X11_keepForUndo_158_3_0, e_X11_keepForUndo_24, e_X11_keepForUndo_25, e_X11_keepForUndo_28, e_X11_keepForUndo_30, e_X11_keepForUndo_33, e_X11_keepForUndo_34, e_X11_keepForUndo_35, e_X11_keepForUndo_38, e_X11_keepForUndo_39, e_X11_keepForUndo_40, e_X11_keepForUndo_43, e_X11_keepForUndo_46, e_X11_keepForUndo_47, e_X11_keepForUndo_48, e_X11_keepForUndo_51, e_X11_keepForUndo_52, e_X11_keepForUndo_53, e_X11_keepForUndo_55, e_X11_keepForUndo_56, e_X11_keepForUndo_59, g_11_152_10, g_11_155_10, g_11_25_10, g_11_29_10, p_11_152_10, p_11_155_10, hc, g1, e2, nI_add, e1, xl_a, xrv_s, l0, b0, q1, hc1, e3, nI_inc]
      rfl
    · rw [if_pos c, if_pos c]
      exact xg_same (by omega) lv1
    · exact xLB_fr q2 (xFr_set (A := fun c => c = 16) (by omega) rfl) (by unfold inL; omega)
    · exact xFr_tr (xFr_mo q4 (fun c hc => Or.inr hc)) (xFr_set (by omega) (Or.inl rfl))
  · have e3 : ¬ nI un < nI 24 := nI_nlt (by omega) (by omega)
    have e4 := rem24 (ol + 1) (by omega)
    refine ⟨xset h1 16 (xCc fi ta lf lib (nI ((ol + 1) % 24)) (nI un)), d2, k2, a2, o2, ?_, ?_, ?_, q3, ?_⟩
    · simp (disch := first | exact xnl_i _ | exact xnl_r _ | exact xnl_u _ | exact xnl_n | exact zI_2 | exact zI_24 | assumption | omega | (simp only [xset_len]; omega)) only [↓reduceIte, xbd_s, xpv_n, xpv_s, e_X11_keepForUndo_0, e_X11_keepForUndo_1, e_X11_keepForUndo_4, e_X11_keepForUndo_5, e_X11_keepForUndo_8, e_X11_keepForUndo_9, e_X11_keepForUndo_12, e_X11_keepForUndo_13, e_X11_keepForUndo_15, e_X11_keepForUndo_16, e_X11_keepForUndo_17, e_X11_keepForUndo_18, e_X11_keepForUndo_21, c_X11_keepForUndo_158_3_0, e_X11_keepForUndo_24, e_X11_keepForUndo_25, e_X11_keepForUndo_28, e_X11_keepForUndo_30, e_X11_keepForUndo_33, e_X11_keepForUndo_34, e_X11_keepForUndo_35, e_X11_keepForUndo_38, e_X11_keepForUndo_39, e_X11_keepForUndo_40, e_X11_keepForUndo_43, e_X11_keepForUndo_46, e_X11_keepForUndo_47, e_X11_keepForUndo_48, e_X11_keepForUndo_51, e_X11_keepForUndo_52, e_X11_keepForUndo_53, e_X11_keepForUndo_55, e_X11_keepForUndo_56, e_X11_keepForUndo_59, g_11_152_10, g_11_155_10, g_11_25_10, g_11_29_10, p_11_152_10, p_11_155_10, hc, g1, e2, nI_add, e1, xl_a, xrv_s, l0, b0, q1, hc1, e3, e4]
      rfl
    · rw [if_neg c, if_neg c]
      exact xg_same (by omega) lv1
    · exact xLB_fr q2 (xFr_set (A := fun c => c = 16) (by omega) rfl) (by unfold inL; omega)
    · exact xFr_tr (xFr_mo q4 (fun c hc => Or.inr hc)) (xFr_set (by omega) (Or.inl rfl))
end XAC
