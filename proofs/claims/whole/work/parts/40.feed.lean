/-! the class: feed -/
theorem nI_m1 (x : Int32) : x + (-1) = x - nI 1 := by rw [Int32.sub_eq_add_neg]; rfl
def fdB (w : Int64) (c : Nat) : Int32 := ((w.toUInt64 >>> ((nI 8 * nI c).toInt64.toUInt64 &&& Int64.toUInt64 63)).toInt64).toInt32.toInt8.toInt32.toInt8.toInt32
/-- the last c bytes of w, from place t on -/
def fdS (w : Int64) : Nat → Nat → (Nat → Int32) → (Nat → Int32)
  | 0, _, f => f
  | c + 1, t, f => fdS w c (t + 1) (upd f t (fdB w c))
section XFE
variable {X : xS} {h : xH} {fi lf ol un : Int32} {lib t : Nat} {tp : Nat → Int32}
def inF : Nat → Prop := fun c => c = 16 ∨ c = 29
theorem r_feedB (x : Int32) (w : Int64) (hx : x < nI 1 ∨ nI 8 < x) : xR X m_X11_feed 0 [.ref 16, .long w, xU, .int x, xU] [] h = some (some (.int cBAD), h) := by
  by_cases c : x < nI 1
  · simp (disch := first | exact xnl_i _ | exact xnl_r _ | exact xnl_u _ | exact xnl_n | exact zI_2 | exact zI_24 | assumption | omega | (simp only [xset_len]; omega)) only [↓reduceIte, xbd_s, xpv_n, xpv_s, e_X11_feed_0, e_X11_feed_1, e_X11_feed_2, e_X11_feed_5, e_X11_feed_6, e_X11_feed_8, e_X11_feed_11, e_X11_feed_13, e_X11_feed_14, e_X11_feed_15, e_X11_feed_18, e_X11_feed_19, e_X11_feed_20, e_X11_feed_21, e_X11_feed_24, e_X11_feed_25, e_X11_feed_28, e_X11_feed_30, e_X11_feed_31, e_X11_feed_32, e_X11_feed_33, e_X11_feed_34, e_X11_feed_36, e_X11_feed_38, e_X11_feed_41, e_X11_feed_42, e_X11_feed_45, e_X11_feed_46, e_X11_feed_49, e_X11_feed_50, e_X11_feed_52, e_X11_feed_54, e_X11_feed_55, e_X11_feed_56, e_X11_feed_57, e_X11_feed_58, e_X11_feed_59, e_X11_feed_60, e_X11_feed_61, e_X11_feed_64, e_X11_feed_65, e_X11_feed_66, e_X11_feed_69, e_X11_feed_72, e_X11_feed_75, e_X11_feed_76, e_X11_feed_79, g_11_16_10, g_11_79_10, p_11_79_10, c]
  · have c2 := hx.resolve_left c
    simp (disch := first | exact xnl_i _ | exact xnl_r _ | exact xnl_u _ | exact xnl_n | exact zI_2 | exact zI_24 | assumption | omega | (simp only [xset_len]; omega)) only [↓reduceIte, xbd_s, xpv_n, xpv_s, e_X11_feed_0, e_X11_feed_1, e_X11_feed_2, e_X11_feed_5, e_X11_feed_6, e_X11_feed_8, e_X11_feed_11, e_X11_feed_13, e_X11_feed_14, e_X11_feed_15, e_X11_feed_18, e_X11_feed_19, e_X11_feed_20, e_X11_feed_21, e_X11_feed_24, e_X11_feed_25, e_X11_feed_28, e_X11_feed_30, e_X11_feed_31, e_X11_feed_32, e_X11_feed_33, e_X11_feed_34, e_X11_feed_36, e_X11_feed_38, e_X11_feed_41, e_X11_feed_42, e_X11_feed_45, e_X11_feed_46, e_X11_feed_49, e_X11_feed_50, e_X11_feed_52, e_X11_feed_54, e_X11_feed_55, e_X11_feed_56, e_X11_feed_57, e_X11_feed_58, e_X11_feed_59, e_X11_feed_60, e_X11_feed_61, e_X11_feed_64, e_X11_feed_65, e_X11_feed_66, e_X11_feed_69, e_X11_feed_72, e_X11_feed_75, e_X11_feed_76, e_X11_feed_79, g_11_16_10, g_11_79_10, p_11_79_10, c, c2]
theorem r_feedF (hC : xCB X h fi (nI t) lf lib ol un) (hT : xget X h 29 = some (.inr ((1, 400), .inl tp))) {n : Nat} (w : Int64) (ht : t ≤ 400) (hn : 1 ≤ n) (hn2 : n ≤ 8) (hf : 400 < t + n) : xR X m_X11_feed 0 [.ref 16, .long w, xU, .int (nI n), xU] [] h = some (some (.int cFULL), h) := by
  have hc : xget X h 16 = _ := hC
  have e1 : ¬ nI n < nI 1 := nI_nlt hn (by omega)
  have e2 : ¬ nI 8 < nI n := nI_nlt hn2 (by omega)
  have e3 : nI t + nI n = nI (t + n) := by unfold nI; rw [Int32.ofNat_add]
  have e4 : nI 400 < nI (t + n) := nI_lt hf (by omega)
  simp (disch := first | exact xnl_i _ | exact xnl_r _ | exact xnl_u _ | exact xnl_n | exact zI_2 | exact zI_24 | assumption | omega | (simp only [xset_len]; omega)) only [↓reduceIte, xbd_s, xpv_n, xpv_s, e_X11_feed_0, e_X11_feed_1, e_X11_feed_2, e_X11_feed_5, e_X11_feed_6, e_X11_feed_8, e_X11_feed_11, e_X11_feed_13, e_X11_feed_14, e_X11_feed_15, e_X11_feed_18, e_X11_feed_19, e_X11_feed_20, e_X11_feed_21, e_X11_feed_24, e_X11_feed_25, e_X11_feed_28, e_X11_feed_30, e_X11_feed_31, e_X11_feed_32, e_X11_feed_33, e_X11_feed_34, e_X11_feed_36, e_X11_feed_38, e_X11_feed_41, e_X11_feed_42, e_X11_feed_45, e_X11_feed_46, e_X11_feed_49, e_X11_feed_50, e_X11_feed_52, e_X11_feed_54, e_X11_feed_55, e_X11_feed_56, e_X11_feed_57, e_X11_feed_58, e_X11_feed_59, e_X11_feed_60, e_X11_feed_61, e_X11_feed_64, e_X11_feed_65, e_X11_feed_66, e_X11_feed_69, e_X11_feed_72, e_X11_feed_75, e_X11_feed_76, e_X11_feed_79, g_11_16_10, g_11_79_10, p_11_79_10, hc, hT, xn_K, e1, e2, e3, e4]
theorem r_feedG (hC : xCB X h fi (nI t) lf lib ol un) (hT : xget X h 29 = some (.inr ((1, 400), .inl tp))) {n : Nat} (w : Int64) (hn : 1 ≤ n) (hn2 : n ≤ 8) (hf : t + n ≤ 400) : ∃ h', xR X m_X11_feed 0 [.ref 16, .long w, xU, .int (nI n), xU] [] h = some (some (.int (nI (t + n))), h') ∧ xCB X h' fi (nI (t + n)) lf lib ol un ∧ xget X h' 29 = some (.inr ((1, 400), .inl (fdS w n t tp))) ∧ xFr X inF h h' := by
  have hc : xget X h 16 = _ := hC
  have e1 : ¬ nI n < nI 1 := nI_nlt hn (by omega)
  have e2 : ¬ nI 8 < nI n := nI_nlt hn2 (by omega)
  have e3 : nI t + nI n = nI (t + n) := by unfold nI; rw [Int32.ofNat_add]
  have e4 : ¬ nI 400 < nI (t + n) := nI_nlt hf (by omega)
  have L : ∀ c t tp h, c ≤ n → t + c ≤ 400 → xCB X h fi (nI t) lf lib ol un → xget X h 29 = some (.inr ((1, 400), .inl tp)) → ∃ h', xR X m_X11_feed 36 [.ref 16, .long w, xU, .int (nI n), .int (nI c - nI 1)] [] h = some (some (.int (nI (t + c))), h') ∧ xCB X h' fi (nI (t + c)) lf lib ol un ∧ xget X h' 29 = some (.inr ((1, 400), .inl (fdS w c t tp))) ∧ xFr X inF h h' := by
    intro c
    induction c with
    | zero =>
      intro t tp h _ _ hC hT
      have hc : xget X h 16 = _ := hC
      have e5 : nI 0 - nI 1 < 0 := by decide
      exact ⟨h, by simp (disch := first | exact xnl_i _ | exact xnl_r _ | exact xnl_u _ | exact xnl_n | exact zI_2 | exact zI_24 | assumption | omega | (simp only [xset_len]; omega)) only [↓reduceIte, xbd_s, xpv_n, xpv_s, e_X11_feed_0, e_X11_feed_1, e_X11_feed_2, e_X11_feed_5, e_X11_feed_6, e_X11_feed_8, e_X11_feed_11, e_X11_feed_13, e_X11_feed_14, e_X11_feed_15, e_X11_feed_18, e_X11_feed_19, e_X11_feed_20, e_X11_feed_21, e_X11_feed_24, e_X11_feed_25, e_X11_feed_28, e_X11_feed_30, e_X11_feed_31, e_X11_feed_32, e_X11_feed_33, e_X11_feed_34, e_X11_feed_36, e_X11_feed_38, e_X11_feed_41, e_X11_feed_42, e_X11_feed_45, e_X11_feed_46, e_X11_feed_49, e_X11_feed_50, e_X11_feed_52, e_X11_feed_54, e_X11_feed_55, e_X11_feed_56, e_X11_feed_57, e_X11_feed_58, e_X11_feed_59, e_X11_feed_60, e_X11_feed_61, e_X11_feed_64, e_X11_feed_65, e_X11_feed_66, e_X11_feed_69, e_X11_feed_72, e_X11_feed_75, e_X11_feed_76, e_X11_feed_79, g_11_16_10, g_11_79_10, p_11_79_10, hc, e5, Nat.add_zero], hC, hT, xFr_rfl⟩
    | succ c ih =>
      intro t tp h hcn htc hC hT
      have hc : xget X h 16 = _ := hC
      have lv := xg_live (by omega) hc
      have lv2 := xg_live (by omega) hT
      have e5 : ¬ nI c < 0 := nI_pos (by omega)
      have f1 : xFr X inF h (xset (xset h 29 (.inr ((1, 400), .inl (upd tp t (fdB w c))))) 16 (xCc fi (nI (t + 1)) lf lib ol un)) := xFr_tr (xFr_set (by omega) (Or.inr rfl)) (xFr_set (by omega) (Or.inl rfl))
      obtain ⟨h', q1, q2, q3, q4⟩ := ih (t + 1) (upd tp t (fdB w c)) (xset (xset h 29 (.inr ((1, 400), .inl (upd tp t (fdB w c))))) 16 (xCc fi (nI (t + 1)) lf lib ol un)) (by omega) (by omega) (xg_same (by omega) (by rw [xset_len]; omega)) (by rw [xg_ne (by omega) (by omega)]; exact xg_same (by omega) (by omega))
      rw [show t + 1 + c = t + (c + 1) by omega] at q1 q2
      refine ⟨h', ?_, q2, q3, xFr_tr f1 q4⟩
      rw [← q1, nI_sub1, e_X11_feed_36]
      simp (disch := first | exact xnl_i _ | exact xnl_r _ | exact xnl_u _ | exact xnl_n | exact zI_2 | exact zI_24 | assumption | omega | (simp only [xset_len]; omega)) only [↓reduceIte, xbd_s, xpv_n, xpv_s, e_X11_feed_0, e_X11_feed_1, e_X11_feed_2, e_X11_feed_5, e_X11_feed_6, e_X11_feed_8, e_X11_feed_11, e_X11_feed_13, e_X11_feed_14, e_X11_feed_15, e_X11_feed_18, e_X11_feed_19, e_X11_feed_20, e_X11_feed_21, e_X11_feed_24, e_X11_feed_25, e_X11_feed_28, e_X11_feed_30, e_X11_feed_31, e_X11_feed_32, e_X11_feed_33, e_X11_feed_34, e_X11_feed_38, e_X11_feed_41, e_X11_feed_42, e_X11_feed_45, e_X11_feed_46, e_X11_feed_49, e_X11_feed_50, e_X11_feed_52, e_X11_feed_54, e_X11_feed_55, e_X11_feed_56, e_X11_feed_57, e_X11_feed_58, e_X11_feed_59, e_X11_feed_60, e_X11_feed_61, e_X11_feed_64, e_X11_feed_65, e_X11_feed_66, e_X11_feed_69, e_X11_feed_72, e_X11_feed_75, e_X11_feed_76, e_X11_feed_79, g_11_16_10, g_11_79_10, p_11_79_10, hc, hT, e5, xs_b, xg_ne, nI_inc, nI_m1]
      rfl
  obtain ⟨h', q1, q2, q3, q4⟩ := L n t tp h (Nat.le_refl n) hf hC hT
  refine ⟨h', ?_, q2, q3, q4⟩
  rw [← q1]
  simp (disch := first | exact xnl_i _ | exact xnl_r _ | exact xnl_u _ | exact xnl_n | exact zI_2 | exact zI_24 | assumption | omega | (simp only [xset_len]; omega)) only [↓reduceIte, xbd_s, xpv_n, xpv_s, e_X11_feed_0, e_X11_feed_1, e_X11_feed_2, e_X11_feed_5, e_X11_feed_6, e_X11_feed_8, e_X11_feed_11, e_X11_feed_13, e_X11_feed_14, e_X11_feed_15, e_X11_feed_18, e_X11_feed_19, e_X11_feed_20, e_X11_feed_21, e_X11_feed_24, e_X11_feed_25, e_X11_feed_28, e_X11_feed_30, e_X11_feed_31, e_X11_feed_32, e_X11_feed_33, e_X11_feed_34, e_X11_feed_38, e_X11_feed_41, e_X11_feed_42, e_X11_feed_45, e_X11_feed_46, e_X11_feed_49, e_X11_feed_50, e_X11_feed_52, e_X11_feed_54, e_X11_feed_55, e_X11_feed_56, e_X11_feed_57, e_X11_feed_58, e_X11_feed_59, e_X11_feed_60, e_X11_feed_61, e_X11_feed_64, e_X11_feed_65, e_X11_feed_66, e_X11_feed_69, e_X11_feed_72, e_X11_feed_75, e_X11_feed_76, e_X11_feed_79, g_11_16_10, g_11_79_10, p_11_79_10, hc, hT, xn_K, e1, e2, e3, e4]
end XFE
