/-! the class: as, ask, count, hide, learnt -/
/-- is it of this KIND -/
def kdS (so w : Int32) : Int32 := if w = nI 0 then nI 1 else if so = w then nI 1 else if w = nI 1 then (if so = nI 2 then nI 1 else if so = nI 3 then nI 1 else nI 0) else if w = nI 4 then (if so = nI 5 then nI 1 else nI 0) else nI 0
theorem i_11_271_4 {fs : List Value} {K : Value → Option (Option Value × xH)} : xiK 11 271 (some (.inl (4, fs))) K = K (.int (nI 1)) := rfl
theorem i_11_271_9 {fs : List Value} {K : Value → Option (Option Value × xH)} : xiK 11 271 (some (.inl (9, fs))) K = K (.int (nI 1)) := rfl
theorem i_11_271_2 {fs : List Value} {K : Value → Option (Option Value × xH)} : xiK 11 271 (some (.inl (2, fs))) K = K (.int (nI 1)) := rfl
theorem i_11_271_0 {fs : List Value} {K : Value → Option (Option Value × xH)} : xiK 11 271 (some (.inl (0, fs))) K = K (.int (nI 0)) := rfl
theorem i_11_271_1 {fs : List Value} {K : Value → Option (Option Value × xH)} : xiK 11 271 (some (.inl (1, fs))) K = K (.int (nI 0)) := rfl
theorem i_11_273_4 {fs : List Value} {K : Value → Option (Option Value × xH)} : xiK 11 273 (some (.inl (4, fs))) K = K (.int (nI 0)) := rfl
theorem i_11_273_9 {fs : List Value} {K : Value → Option (Option Value × xH)} : xiK 11 273 (some (.inl (9, fs))) K = K (.int (nI 1)) := rfl
theorem i_11_273_2 {fs : List Value} {K : Value → Option (Option Value × xH)} : xiK 11 273 (some (.inl (2, fs))) K = K (.int (nI 0)) := rfl
theorem i_11_273_0 {fs : List Value} {K : Value → Option (Option Value × xH)} : xiK 11 273 (some (.inl (0, fs))) K = K (.int (nI 0)) := rfl
theorem i_11_273_1 {fs : List Value} {K : Value → Option (Option Value × xH)} : xiK 11 273 (some (.inl (1, fs))) K = K (.int (nI 0)) := rfl
theorem i_11_275_4 {fs : List Value} {K : Value → Option (Option Value × xH)} : xiK 11 275 (some (.inl (4, fs))) K = K (.int (nI 0)) := rfl
theorem i_11_275_9 {fs : List Value} {K : Value → Option (Option Value × xH)} : xiK 11 275 (some (.inl (9, fs))) K = K (.int (nI 0)) := rfl
theorem i_11_275_2 {fs : List Value} {K : Value → Option (Option Value × xH)} : xiK 11 275 (some (.inl (2, fs))) K = K (.int (nI 1)) := rfl
theorem i_11_275_0 {fs : List Value} {K : Value → Option (Option Value × xH)} : xiK 11 275 (some (.inl (0, fs))) K = K (.int (nI 0)) := rfl
theorem i_11_275_1 {fs : List Value} {K : Value → Option (Option Value × xH)} : xiK 11 275 (some (.inl (1, fs))) K = K (.int (nI 0)) := rfl
theorem i_11_277_4 {fs : List Value} {K : Value → Option (Option Value × xH)} : xiK 11 277 (some (.inl (4, fs))) K = K (.int (nI 0)) := rfl
theorem i_11_277_9 {fs : List Value} {K : Value → Option (Option Value × xH)} : xiK 11 277 (some (.inl (9, fs))) K = K (.int (nI 0)) := rfl
theorem i_11_277_2 {fs : List Value} {K : Value → Option (Option Value × xH)} : xiK 11 277 (some (.inl (2, fs))) K = K (.int (nI 0)) := rfl
theorem i_11_277_0 {fs : List Value} {K : Value → Option (Option Value × xH)} : xiK 11 277 (some (.inl (0, fs))) K = K (.int (nI 1)) := rfl
theorem i_11_277_1 {fs : List Value} {K : Value → Option (Option Value × xH)} : xiK 11 277 (some (.inl (1, fs))) K = K (.int (nI 1)) := rfl
theorem i_11_279_4 {fs : List Value} {K : Value → Option (Option Value × xH)} : xiK 11 279 (some (.inl (4, fs))) K = K (.int (nI 0)) := rfl
theorem i_11_279_9 {fs : List Value} {K : Value → Option (Option Value × xH)} : xiK 11 279 (some (.inl (9, fs))) K = K (.int (nI 0)) := rfl
theorem i_11_279_2 {fs : List Value} {K : Value → Option (Option Value × xH)} : xiK 11 279 (some (.inl (2, fs))) K = K (.int (nI 0)) := rfl
theorem i_11_279_0 {fs : List Value} {K : Value → Option (Option Value × xH)} : xiK 11 279 (some (.inl (0, fs))) K = K (.int (nI 0)) := rfl
theorem i_11_279_1 {fs : List Value} {K : Value → Option (Option Value × xH)} : xiK 11 279 (some (.inl (1, fs))) K = K (.int (nI 1)) := rfl
theorem kd_1_0 : kdS (nI 1) (nI 0) = nI 1 := by decide
theorem kd_1_1 : kdS (nI 1) (nI 1) = nI 1 := by decide
theorem kd_1_2 : kdS (nI 1) (nI 2) = nI 0 := by decide
theorem kd_1_3 : kdS (nI 1) (nI 3) = nI 0 := by decide
theorem kd_1_4 : kdS (nI 1) (nI 4) = nI 0 := by decide
theorem kd_1_5 : kdS (nI 1) (nI 5) = nI 0 := by decide
theorem kd_2_0 : kdS (nI 2) (nI 0) = nI 1 := by decide
theorem kd_2_1 : kdS (nI 2) (nI 1) = nI 1 := by decide
theorem kd_2_2 : kdS (nI 2) (nI 2) = nI 1 := by decide
theorem kd_2_3 : kdS (nI 2) (nI 3) = nI 0 := by decide
theorem kd_2_4 : kdS (nI 2) (nI 4) = nI 0 := by decide
theorem kd_2_5 : kdS (nI 2) (nI 5) = nI 0 := by decide
theorem kd_3_0 : kdS (nI 3) (nI 0) = nI 1 := by decide
theorem kd_3_1 : kdS (nI 3) (nI 1) = nI 1 := by decide
theorem kd_3_2 : kdS (nI 3) (nI 2) = nI 0 := by decide
theorem kd_3_3 : kdS (nI 3) (nI 3) = nI 1 := by decide
theorem kd_3_4 : kdS (nI 3) (nI 4) = nI 0 := by decide
theorem kd_3_5 : kdS (nI 3) (nI 5) = nI 0 := by decide
theorem kd_4_0 : kdS (nI 4) (nI 0) = nI 1 := by decide
theorem kd_4_1 : kdS (nI 4) (nI 1) = nI 0 := by decide
theorem kd_4_2 : kdS (nI 4) (nI 2) = nI 0 := by decide
theorem kd_4_3 : kdS (nI 4) (nI 3) = nI 0 := by decide
theorem kd_4_4 : kdS (nI 4) (nI 4) = nI 1 := by decide
theorem kd_4_5 : kdS (nI 4) (nI 5) = nI 0 := by decide
theorem kd_5_0 : kdS (nI 5) (nI 0) = nI 1 := by decide
theorem kd_5_1 : kdS (nI 5) (nI 1) = nI 0 := by decide
theorem kd_5_2 : kdS (nI 5) (nI 2) = nI 0 := by decide
theorem kd_5_3 : kdS (nI 5) (nI 3) = nI 0 := by decide
theorem kd_5_4 : kdS (nI 5) (nI 4) = nI 1 := by decide
theorem kd_5_5 : kdS (nI 5) (nI 5) = nI 1 := by decide
section XLQ
variable {X : xS} {h : xH} {fi ta lf ol un : Int32} {lib p n m pl fr to : Nat} {hr : Int32} {d k a o : Nat → Int32} {g : Nat → Option Nat} {u v so dr : Nat → Int32}
theorem r_isOfKind {q ci w : Nat} {x : Int32} {fs : List Value} (hq : xget X h q = some (.inl (ci, fs))) (hs : xSort ci x) (hw : w < 6) : xR X m_X11_isOfKind 0 [.ref q, .int (nI w)] [] h = some (some (.int (kdS x (nI w))), h) := by
  have h5 : (nI 5).toInt < 0 ∨ 4 < (nI 5).toInt := by decide
  have e0 : nI 0 = 0 := rfl
  have hw2 : w = 0 ∨ w = 1 ∨ w = 2 ∨ w = 3 ∨ w = 4 ∨ w = 5 := by omega
  rcases hs with ⟨rfl, rfl⟩ | ⟨rfl, rfl⟩ | ⟨rfl, rfl⟩ | ⟨rfl, rfl⟩ | ⟨rfl, rfl⟩
  all_goals rcases hw2 with rfl | rfl | rfl | rfl | rfl | rfl
  all_goals simp (disch := first | exact xnl_i _ | exact xnl_r _ | exact xnl_u _ | exact xnl_n | exact zI_2 | exact zI_24 | assumption | omega | (simp only [xset_len]; omega)) only [↓reduceIte, xbd_s, xpv_n, xpv_s, e_X11_isOfKind_0, e_X11_isOfKind_1_0, e_X11_isOfKind_1_1, e_X11_isOfKind_1_2, e_X11_isOfKind_1_3, e_X11_isOfKind_1_4, e_X11_isOfKind_1_d, e_X11_isOfKind_36, e_X11_isOfKind_37, e_X11_isOfKind_37_0, e_X11_isOfKind_37_1, e_X11_isOfKind_38, e_X11_isOfKind_39, e_X11_isOfKind_42, e_X11_isOfKind_42_0, e_X11_isOfKind_42_1, e_X11_isOfKind_43, e_X11_isOfKind_44, e_X11_isOfKind_47, e_X11_isOfKind_47_0, e_X11_isOfKind_47_1, e_X11_isOfKind_48, e_X11_isOfKind_49, e_X11_isOfKind_52, e_X11_isOfKind_52_0, e_X11_isOfKind_52_1, e_X11_isOfKind_53, e_X11_isOfKind_54, e_X11_isOfKind_57, e_X11_isOfKind_57_0, e_X11_isOfKind_57_1, e_X11_isOfKind_58, e_X11_isOfKind_59, e_X11_isOfKind_62, e_X11_isOfKind_62_0, e_X11_isOfKind_62_1, hq, h5, i_11_271_4, i_11_271_9, i_11_271_2, i_11_271_0, i_11_271_1, i_11_273_4, i_11_273_9, i_11_273_2, i_11_273_0, i_11_273_1, i_11_275_4, i_11_275_9, i_11_275_2, i_11_275_0, i_11_275_1, i_11_277_4, i_11_277_9, i_11_277_2, i_11_277_0, i_11_277_1, i_11_279_4, i_11_279_9, i_11_279_2, i_11_279_0, i_11_279_1, kd_1_0, kd_1_1, kd_1_2, kd_1_3, kd_1_4, kd_1_5, kd_2_0, kd_2_1, kd_2_2, kd_2_3, kd_2_4, kd_2_5, kd_3_0, kd_3_1, kd_3_2, kd_3_3, kd_3_4, kd_3_5, kd_4_0, kd_4_1, kd_4_2, kd_4_3, kd_4_4, kd_4_5, kd_5_0, kd_5_1, kd_5_2, kd_5_3, kd_5_4, kd_5_5]
theorem r_asN (hC : xCB X h fi ta lf lib ol un) (hL : xLB X h lib .null hr d k a o) (x w : Int32) : xR X m_X11_as 0 [.ref 16, .int x, .int w, xU] [] h = some (some (.int cBAD), h) := by
  have hc : xget X h 16 = _ := hC
  have q := r_placeAtN hL (x := x)
  have l0 := hL.1
  simp (disch := first | exact xnl_i _ | exact xnl_r _ | exact xnl_u _ | exact xnl_n | exact zI_2 | exact zI_24 | assumption | omega | (simp only [xset_len]; omega)) only [↓reduceIte, xbd_s, xpv_n, xpv_s, e_X11_as_0, e_X11_as_0n, e_X11_as_1, e_X11_as_4, e_X11_as_5, c_X11_as_162_3_0, e_X11_as_8, e_X11_as_8n, e_X11_as_9, e_X11_as_9n, e_X11_as_10n, e_X11_as_10, e_X11_as_13, e_X11_as_14, e_X11_as_17, e_X11_as_18, e_X11_as_20, e_X11_as_23, e_X11_as_25, e_X11_as_26, e_X11_as_26n, e_X11_as_27, e_X11_as_27n, e_X11_as_28, e_X11_as_29, e_X11_as_32, e_X11_as_35, e_X11_as_36, e_X11_as_39, e_X11_as_40, e_X11_as_43, e_X11_as_43n, e_X11_as_44, e_X11_as_47, e_X11_as_50, e_X11_as_52, e_X11_as_52n, e_X11_as_53, e_X11_as_56, e_X11_as_57, e_X11_as_60, e_X11_as_60n, e_X11_as_61, e_X11_as_64, g_11_235_0, g_11_235_1, g_11_235_2, g_11_235_4, g_11_235_9, g_11_25_10, g_11_48_10, p_11_48_10, hc, l0, q]
theorem r_asX (hC : xCB X h fi ta lf lib ol un) (hL : xLB X h lib (.ref p) hr d k a o) (hP : xPB X h p n m pl fr to g u v) {x : Int32} (w : Int32) (hx : x < 0 ∨ ¬ x < nI n) : xR X m_X11_as 0 [.ref 16, .int x, .int w, xU] [] h = some (some (.int cBAD), h) := by
  have hc : xget X h 16 = _ := hC
  have q := r_placeAtX hL hP hx
  have l0 := hL.1
  simp (disch := first | exact xnl_i _ | exact xnl_r _ | exact xnl_u _ | exact xnl_n | exact zI_2 | exact zI_24 | assumption | omega | (simp only [xset_len]; omega)) only [↓reduceIte, xbd_s, xpv_n, xpv_s, e_X11_as_0, e_X11_as_0n, e_X11_as_1, e_X11_as_4, e_X11_as_5, c_X11_as_162_3_0, e_X11_as_8, e_X11_as_8n, e_X11_as_9, e_X11_as_9n, e_X11_as_10n, e_X11_as_10, e_X11_as_13, e_X11_as_14, e_X11_as_17, e_X11_as_18, e_X11_as_20, e_X11_as_23, e_X11_as_25, e_X11_as_26, e_X11_as_26n, e_X11_as_27, e_X11_as_27n, e_X11_as_28, e_X11_as_29, e_X11_as_32, e_X11_as_35, e_X11_as_36, e_X11_as_39, e_X11_as_40, e_X11_as_43, e_X11_as_43n, e_X11_as_44, e_X11_as_47, e_X11_as_50, e_X11_as_52, e_X11_as_52n, e_X11_as_53, e_X11_as_56, e_X11_as_57, e_X11_as_60, e_X11_as_60n, e_X11_as_61, e_X11_as_64, g_11_235_0, g_11_235_1, g_11_235_2, g_11_235_4, g_11_235_9, g_11_25_10, g_11_48_10, p_11_48_10, hc, l0, q]
theorem r_asB (hC : xCB X h fi ta lf lib ol un) (hL : xLB X h lib (.ref p) hr d k a o) (hP : xPB X h p n m pl fr to g u v) (hG : xGB X h n g so dr) {s : Nat} (hs : s < n) {w : Int32} (hw : w < 0 ∨ ¬ w < nI 6) : xR X m_X11_as 0 [.ref 16, .int (nI s), .int w, xU] [] h = some (some (.int cBAD), h) := by
  have hc : xget X h 16 = _ := hC
  obtain ⟨q, ci, g1, g2, g3⟩ := hG s hs
  have q := r_placeAt hL hP hs g1
  have l0 := hL.1
  by_cases c : w < 0
  · simp (disch := first | exact xnl_i _ | exact xnl_r _ | exact xnl_u _ | exact xnl_n | exact zI_2 | exact zI_24 | assumption | omega | (simp only [xset_len]; omega)) only [↓reduceIte, xbd_s, xpv_n, xpv_s, e_X11_as_0, e_X11_as_0n, e_X11_as_1, e_X11_as_4, e_X11_as_5, c_X11_as_162_3_0, e_X11_as_8, e_X11_as_8n, e_X11_as_9, e_X11_as_9n, e_X11_as_10n, e_X11_as_10, e_X11_as_13, e_X11_as_14, e_X11_as_17, e_X11_as_18, e_X11_as_20, e_X11_as_23, e_X11_as_25, e_X11_as_26, e_X11_as_26n, e_X11_as_27, e_X11_as_27n, e_X11_as_28, e_X11_as_29, e_X11_as_32, e_X11_as_35, e_X11_as_36, e_X11_as_39, e_X11_as_40, e_X11_as_43, e_X11_as_43n, e_X11_as_44, e_X11_as_47, e_X11_as_50, e_X11_as_52, e_X11_as_52n, e_X11_as_53, e_X11_as_56, e_X11_as_57, e_X11_as_60, e_X11_as_60n, e_X11_as_61, e_X11_as_64, g_11_235_0, g_11_235_1, g_11_235_2, g_11_235_4, g_11_235_9, g_11_25_10, g_11_48_10, p_11_48_10, hc, l0, q, c]
  · have c2 := hw.resolve_left c
    simp (disch := first | exact xnl_i _ | exact xnl_r _ | exact xnl_u _ | exact xnl_n | exact zI_2 | exact zI_24 | assumption | omega | (simp only [xset_len]; omega)) only [↓reduceIte, xbd_s, xpv_n, xpv_s, e_X11_as_0, e_X11_as_0n, e_X11_as_1, e_X11_as_4, e_X11_as_5, c_X11_as_162_3_0, e_X11_as_8, e_X11_as_8n, e_X11_as_9, e_X11_as_9n, e_X11_as_10n, e_X11_as_10, e_X11_as_13, e_X11_as_14, e_X11_as_17, e_X11_as_18, e_X11_as_20, e_X11_as_23, e_X11_as_25, e_X11_as_26, e_X11_as_26n, e_X11_as_27, e_X11_as_27n, e_X11_as_28, e_X11_as_29, e_X11_as_32, e_X11_as_35, e_X11_as_36, e_X11_as_39, e_X11_as_40, e_X11_as_43, e_X11_as_43n, e_X11_as_44, e_X11_as_47, e_X11_as_50, e_X11_as_52, e_X11_as_52n, e_X11_as_53, e_X11_as_56, e_X11_as_57, e_X11_as_60, e_X11_as_60n, e_X11_as_61, e_X11_as_64, g_11_235_0, g_11_235_1, g_11_235_2, g_11_235_4, g_11_235_9, g_11_25_10, g_11_48_10, p_11_48_10, hc, l0, q, c, c2]
theorem kdS_01 (x w : Int32) : kdS x w = nI 0 ∨ kdS x w = nI 1 := by
  unfold kdS
  repeat' split
  all_goals first | exact Or.inl rfl | exact Or.inr rfl
theorem r_as (hC : xCB X h fi ta lf lib ol un) (hL : xLB X h lib (.ref p) hr d k a o) (hP : xPB X h p n m pl fr to g u v) (hG : xGB X h n g so dr) {s w : Nat} (hs : s < n) (hw : w < 6) : ∃ f, f = (if kdS (so s) (nI w) = nI 1 then nI 0 else nI 3) ∧ xR X m_X11_as 0 [.ref 16, .int (nI s), .int (nI w), xU] [] h = some (some (.int (if kdS (so s) (nI w) = nI 1 then nI s else cFIND - nI 3)), xset h 16 (xCc f ta lf lib ol un)) := by
  have hc : xget X h 16 = _ := hC
  have lv := xg_live (by omega) hc
  obtain ⟨q, ci, g1, g2, g3⟩ := hG s hs
  have q1 := r_placeAt hL hP hs g1
  have q2 := r_isOfKind g2 g3 hw
  have l0 := hL.1
  have c1 : ¬ nI w < 0 := nI_pos (by omega)
  have c2 : nI w < nI 6 := nI_lt hw (by omega)
  have e0 : nI 0 = 0 := rfl
  have e3 : ¬ nI 3 = 0 := by decide
  have e1 : ¬ nI 0 = nI 1 := by decide
  by_cases hq : q = 16
  · exfalso
    rw [hq, hc] at g2
    cases g2
  have g4 : ∀ e, xget X (xset h 16 e) q = xget X h q := fun e => xg_ne (by omega) (fun z => hq z.symm)
  refine ⟨_, rfl, ?_⟩
  rcases kdS_01 (so s) (nI w) with c | c
  · rw [c] at q2 ⊢
    rw [if_neg e1, if_neg e1]
    simp (disch := first | exact xnl_i _ | exact xnl_r _ | exact xnl_u _ | exact xnl_n | exact zI_2 | exact zI_24 | assumption | omega | (simp only [xset_len]; omega)) only [↓reduceIte, xbd_s, xpv_n, xpv_s, e_X11_as_0, e_X11_as_0n, e_X11_as_1, e_X11_as_4, e_X11_as_5, c_X11_as_162_3_0, e_X11_as_8, e_X11_as_8n, e_X11_as_9, e_X11_as_9n, e_X11_as_10n, e_X11_as_10, e_X11_as_13, e_X11_as_14, e_X11_as_17, e_X11_as_18, e_X11_as_20, e_X11_as_23, e_X11_as_25, e_X11_as_26, e_X11_as_26n, e_X11_as_27, e_X11_as_27n, e_X11_as_28, e_X11_as_29, e_X11_as_32, e_X11_as_35, e_X11_as_36, e_X11_as_39, e_X11_as_40, e_X11_as_43, e_X11_as_43n, e_X11_as_44, e_X11_as_47, e_X11_as_50, e_X11_as_52, e_X11_as_52n, e_X11_as_53, e_X11_as_56, e_X11_as_57, e_X11_as_60, e_X11_as_60n, e_X11_as_61, e_X11_as_64, g_11_235_0, g_11_235_1, g_11_235_2, g_11_235_4, g_11_235_9, g_11_25_10, g_11_48_10, p_11_48_10, hc, l0, q1, q2, c1, c2, xg_same, z0, e3]
    rfl
  · rw [c] at q2 ⊢
    rw [if_pos rfl, if_pos rfl]
    simp (disch := first | exact xnl_i _ | exact xnl_r _ | exact xnl_u _ | exact xnl_n | exact zI_2 | exact zI_24 | assumption | omega | (simp only [xset_len]; omega)) only [↓reduceIte, xbd_s, xpv_n, xpv_s, g_11_235, e_X11_as_0, e_X11_as_0n, e_X11_as_1, e_X11_as_4, e_X11_as_5, c_X11_as_162_3_0, e_X11_as_8, e_X11_as_8n, e_X11_as_9, e_X11_as_9n, e_X11_as_10n, e_X11_as_10, e_X11_as_13, e_X11_as_14, e_X11_as_17, e_X11_as_18, e_X11_as_20, e_X11_as_23, e_X11_as_25, e_X11_as_26, e_X11_as_26n, e_X11_as_27, e_X11_as_27n, e_X11_as_28, e_X11_as_29, e_X11_as_32, e_X11_as_35, e_X11_as_36, e_X11_as_39, e_X11_as_40, e_X11_as_43, e_X11_as_43n, e_X11_as_44, e_X11_as_47, e_X11_as_50, e_X11_as_52, e_X11_as_52n, e_X11_as_53, e_X11_as_56, e_X11_as_57, e_X11_as_60, e_X11_as_60n, e_X11_as_61, e_X11_as_64, g_11_235_0, g_11_235_1, g_11_235_2, g_11_235_4, g_11_235_9, g_11_25_10, g_11_48_10, p_11_48_10, hc, l0, q1, q2, c1, c2, xg_same, z0, z1, ne10, g4, g2]
    rfl
theorem r_count {pv : Value} {it : Nat → Nat → Int32} {la si : Nat → Int32} {sp rd ou : Int32} (hC : xCB X h fi ta lf lib ol un) (hL : xLB X h lib pv hr d k a o) (hR : xRW X h it la si) (qs : xR X m_X3_spots 0 [.ref lib] [] h = some (some (.int sp), h)) (qr : xR X m_X3_readers 0 [.ref lib] [] h = some (some (.int rd), h)) (qo : xR X m_X3_howManyOut 0 [.ref lib, xU, xU] [] h = some (some (.int ou), h)) (w : Int32) : xR X m_X11_count 0 [.ref 16, .int w] [] h = some (some (.int (if w = nI 0 then xfold (fun r x => x + if si r < 0 then nI 0 else nI 1) 8 (nI 0) else if w = nI 1 then sp else if w = nI 2 then rd else if w = nI 3 then hr else if w = nI 4 then un else if w = nI 5 then ou else if w = nI 6 then ta else cBAD)), h) := by
  have hc : xget X h 16 = _ := hC
  have l0 := hL.1
  have r0 := hR.1
  have q1 := r_howMany hR
  by_cases c0 : w = nI 0
  · subst c0
    simp (disch := first | exact xnl_i _ | exact xnl_r _ | exact xnl_u _ | exact xnl_n | exact zI_2 | exact zI_24 | assumption | omega | (simp only [xset_len]; omega)) only [↓reduceIte, xbd_s, xpv_n, xpv_s, e_X11_count_0, e_X11_count_1_0, e_X11_count_1_1, e_X11_count_1_2, e_X11_count_1_3, e_X11_count_1_4, e_X11_count_1_5, e_X11_count_1_6, e_X11_count_1_d, e_X11_count_44, e_X11_count_45, e_X11_count_48, c_X11_count_251_7_0, c_X11_count_108_3_0, c_X11_count_254_3_0, c_X11_count_257_3_0, e_X11_count_51, e_X11_count_52, e_X11_count_53, e_X11_count_56, e_X11_count_59, e_X11_count_60, e_X11_count_61, e_X11_count_64, e_X11_count_67, e_X11_count_68, e_X11_count_69, e_X11_count_72, e_X11_count_75, e_X11_count_76, e_X11_count_77, e_X11_count_80, e_X11_count_81, e_X11_count_82, e_X11_count_85, e_X11_count_88, e_X11_count_89, e_X11_count_90, e_X11_count_93, e_X11_count_94, e_X11_count_96, g_11_10_10, g_11_116_3, g_11_152_10, g_11_25_10, g_11_79_10, hc, r0, q1]
  by_cases c1 : w = nI 1
  · subst c1
    simp (disch := first | exact xnl_i _ | exact xnl_r _ | exact xnl_u _ | exact xnl_n | exact zI_2 | exact zI_24 | assumption | omega | (simp only [xset_len]; omega)) only [↓reduceIte, xbd_s, xpv_n, xpv_s, e_X11_count_0, e_X11_count_1_0, e_X11_count_1_1, e_X11_count_1_2, e_X11_count_1_3, e_X11_count_1_4, e_X11_count_1_5, e_X11_count_1_6, e_X11_count_1_d, e_X11_count_44, e_X11_count_45, e_X11_count_48, c_X11_count_251_7_0, c_X11_count_108_3_0, c_X11_count_254_3_0, c_X11_count_257_3_0, e_X11_count_51, e_X11_count_52, e_X11_count_53, e_X11_count_56, e_X11_count_59, e_X11_count_60, e_X11_count_61, e_X11_count_64, e_X11_count_67, e_X11_count_68, e_X11_count_69, e_X11_count_72, e_X11_count_75, e_X11_count_76, e_X11_count_77, e_X11_count_80, e_X11_count_81, e_X11_count_82, e_X11_count_85, e_X11_count_88, e_X11_count_89, e_X11_count_90, e_X11_count_93, e_X11_count_94, e_X11_count_96, g_11_10_10, g_11_116_3, g_11_152_10, g_11_25_10, g_11_79_10, hc, l0, qs, if_neg c0]
  by_cases c2 : w = nI 2
  · subst c2
    simp (disch := first | exact xnl_i _ | exact xnl_r _ | exact xnl_u _ | exact xnl_n | exact zI_2 | exact zI_24 | assumption | omega | (simp only [xset_len]; omega)) only [↓reduceIte, xbd_s, xpv_n, xpv_s, e_X11_count_0, e_X11_count_1_0, e_X11_count_1_1, e_X11_count_1_2, e_X11_count_1_3, e_X11_count_1_4, e_X11_count_1_5, e_X11_count_1_6, e_X11_count_1_d, e_X11_count_44, e_X11_count_45, e_X11_count_48, c_X11_count_251_7_0, c_X11_count_108_3_0, c_X11_count_254_3_0, c_X11_count_257_3_0, e_X11_count_51, e_X11_count_52, e_X11_count_53, e_X11_count_56, e_X11_count_59, e_X11_count_60, e_X11_count_61, e_X11_count_64, e_X11_count_67, e_X11_count_68, e_X11_count_69, e_X11_count_72, e_X11_count_75, e_X11_count_76, e_X11_count_77, e_X11_count_80, e_X11_count_81, e_X11_count_82, e_X11_count_85, e_X11_count_88, e_X11_count_89, e_X11_count_90, e_X11_count_93, e_X11_count_94, e_X11_count_96, g_11_10_10, g_11_116_3, g_11_152_10, g_11_25_10, g_11_79_10, hc, l0, qr, if_neg c0, if_neg c1]
  by_cases c3 : w = nI 3
  · subst c3
    simp (disch := first | exact xnl_i _ | exact xnl_r _ | exact xnl_u _ | exact xnl_n | exact zI_2 | exact zI_24 | assumption | omega | (simp only [xset_len]; omega)) only [↓reduceIte, xbd_s, xpv_n, xpv_s, e_X11_count_0, e_X11_count_1_0, e_X11_count_1_1, e_X11_count_1_2, e_X11_count_1_3, e_X11_count_1_4, e_X11_count_1_5, e_X11_count_1_6, e_X11_count_1_d, e_X11_count_44, e_X11_count_45, e_X11_count_48, c_X11_count_251_7_0, c_X11_count_108_3_0, c_X11_count_254_3_0, c_X11_count_257_3_0, e_X11_count_51, e_X11_count_52, e_X11_count_53, e_X11_count_56, e_X11_count_59, e_X11_count_60, e_X11_count_61, e_X11_count_64, e_X11_count_67, e_X11_count_68, e_X11_count_69, e_X11_count_72, e_X11_count_75, e_X11_count_76, e_X11_count_77, e_X11_count_80, e_X11_count_81, e_X11_count_82, e_X11_count_85, e_X11_count_88, e_X11_count_89, e_X11_count_90, e_X11_count_93, e_X11_count_94, e_X11_count_96, g_11_10_10, g_11_116_3, g_11_152_10, g_11_25_10, g_11_79_10, hc, l0, if_neg c0, if_neg c1, if_neg c2]
  by_cases c4 : w = nI 4
  · subst c4
    simp (disch := first | exact xnl_i _ | exact xnl_r _ | exact xnl_u _ | exact xnl_n | exact zI_2 | exact zI_24 | assumption | omega | (simp only [xset_len]; omega)) only [↓reduceIte, xbd_s, xpv_n, xpv_s, e_X11_count_0, e_X11_count_1_0, e_X11_count_1_1, e_X11_count_1_2, e_X11_count_1_3, e_X11_count_1_4, e_X11_count_1_5, e_X11_count_1_6, e_X11_count_1_d, e_X11_count_44, e_X11_count_45, e_X11_count_48, c_X11_count_251_7_0, c_X11_count_108_3_0, c_X11_count_254_3_0, c_X11_count_257_3_0, e_X11_count_51, e_X11_count_52, e_X11_count_53, e_X11_count_56, e_X11_count_59, e_X11_count_60, e_X11_count_61, e_X11_count_64, e_X11_count_67, e_X11_count_68, e_X11_count_69, e_X11_count_72, e_X11_count_75, e_X11_count_76, e_X11_count_77, e_X11_count_80, e_X11_count_81, e_X11_count_82, e_X11_count_85, e_X11_count_88, e_X11_count_89, e_X11_count_90, e_X11_count_93, e_X11_count_94, e_X11_count_96, g_11_10_10, g_11_116_3, g_11_152_10, g_11_25_10, g_11_79_10, hc, l0, if_neg c0, if_neg c1, if_neg c2, if_neg c3]
  by_cases c5 : w = nI 5
  · subst c5
    simp (disch := first | exact xnl_i _ | exact xnl_r _ | exact xnl_u _ | exact xnl_n | exact zI_2 | exact zI_24 | assumption | omega | (simp only [xset_len]; omega)) only [↓reduceIte, xbd_s, xpv_n, xpv_s, e_X11_count_0, e_X11_count_1_0, e_X11_count_1_1, e_X11_count_1_2, e_X11_count_1_3, e_X11_count_1_4, e_X11_count_1_5, e_X11_count_1_6, e_X11_count_1_d, e_X11_count_44, e_X11_count_45, e_X11_count_48, c_X11_count_251_7_0, c_X11_count_108_3_0, c_X11_count_254_3_0, c_X11_count_257_3_0, e_X11_count_51, e_X11_count_52, e_X11_count_53, e_X11_count_56, e_X11_count_59, e_X11_count_60, e_X11_count_61, e_X11_count_64, e_X11_count_67, e_X11_count_68, e_X11_count_69, e_X11_count_72, e_X11_count_75, e_X11_count_76, e_X11_count_77, e_X11_count_80, e_X11_count_81, e_X11_count_82, e_X11_count_85, e_X11_count_88, e_X11_count_89, e_X11_count_90, e_X11_count_93, e_X11_count_94, e_X11_count_96, g_11_10_10, g_11_116_3, g_11_152_10, g_11_25_10, g_11_79_10, hc, l0, qo, if_neg c0, if_neg c1, if_neg c2, if_neg c3, if_neg c4]
  by_cases c6 : w = nI 6
  · subst c6
    simp (disch := first | exact xnl_i _ | exact xnl_r _ | exact xnl_u _ | exact xnl_n | exact zI_2 | exact zI_24 | assumption | omega | (simp only [xset_len]; omega)) only [↓reduceIte, xbd_s, xpv_n, xpv_s, e_X11_count_0, e_X11_count_1_0, e_X11_count_1_1, e_X11_count_1_2, e_X11_count_1_3, e_X11_count_1_4, e_X11_count_1_5, e_X11_count_1_6, e_X11_count_1_d, e_X11_count_44, e_X11_count_45, e_X11_count_48, c_X11_count_251_7_0, c_X11_count_108_3_0, c_X11_count_254_3_0, c_X11_count_257_3_0, e_X11_count_51, e_X11_count_52, e_X11_count_53, e_X11_count_56, e_X11_count_59, e_X11_count_60, e_X11_count_61, e_X11_count_64, e_X11_count_67, e_X11_count_68, e_X11_count_69, e_X11_count_72, e_X11_count_75, e_X11_count_76, e_X11_count_77, e_X11_count_80, e_X11_count_81, e_X11_count_82, e_X11_count_85, e_X11_count_88, e_X11_count_89, e_X11_count_90, e_X11_count_93, e_X11_count_94, e_X11_count_96, g_11_10_10, g_11_116_3, g_11_152_10, g_11_25_10, g_11_79_10, hc, if_neg c0, if_neg c1, if_neg c2, if_neg c3, if_neg c4, if_neg c5]
  have e : w.toInt < 0 ∨ 6 < w.toInt := sw_out (c := 6) (by omega) (by
    intro j hj
    rcases j with _ | _ | _ | _ | _ | _ | _ | j
    · exact c0
    · exact c1
    · exact c2
    · exact c3
    · exact c4
    · exact c5
    · exact c6
    · omega)
  rw [if_neg c0, if_neg c1, if_neg c2, if_neg c3, if_neg c4, if_neg c5, if_neg c6]
  simp (disch := first | exact xnl_i _ | exact xnl_r _ | exact xnl_u _ | exact xnl_n | exact zI_2 | exact zI_24 | assumption | omega | (simp only [xset_len]; omega)) only [↓reduceIte, xbd_s, xpv_n, xpv_s, e_X11_count_0, e_X11_count_1_0, e_X11_count_1_1, e_X11_count_1_2, e_X11_count_1_3, e_X11_count_1_4, e_X11_count_1_5, e_X11_count_1_6, e_X11_count_1_d, e_X11_count_44, e_X11_count_45, e_X11_count_48, c_X11_count_251_7_0, c_X11_count_108_3_0, c_X11_count_254_3_0, c_X11_count_257_3_0, e_X11_count_51, e_X11_count_52, e_X11_count_53, e_X11_count_56, e_X11_count_59, e_X11_count_60, e_X11_count_61, e_X11_count_64, e_X11_count_67, e_X11_count_68, e_X11_count_69, e_X11_count_72, e_X11_count_75, e_X11_count_76, e_X11_count_77, e_X11_count_80, e_X11_count_81, e_X11_count_82, e_X11_count_85, e_X11_count_88, e_X11_count_89, e_X11_count_90, e_X11_count_93, e_X11_count_94, e_X11_count_96, g_11_10_10, g_11_116_3, g_11_152_10, g_11_25_10, g_11_79_10, hc]
def ushr (x k : Int32) : Int32 := (x.toUInt32 >>> (k.toUInt32 &&& Int32.toUInt32 31)).toInt32
def bcS (i0 : Int32) : Int32 :=
  let i1 := i0 - (ushr i0 (nI 1) &&& 1431655765)
  let i2 := (i1 &&& 858993459) + (ushr i1 (nI 2) &&& 858993459)
  let i3 := (i2 + ushr i2 (nI 4)) &&& 252645135
  let i4 := i3 + ushr i3 (nI 8)
  let i5 := i4 + ushr i4 (nI 16)
  i5 &&& nI 63
theorem r_bitCount (x : Int32) : xR X m_J6_bitCount_0f7a4 0 [.int x] [] h = some (some (.int (bcS x)), h) := by
  simp (disch := first | exact xnl_i _ | exact xnl_r _ | exact xnl_u _ | exact xnl_n | exact zI_2 | exact zI_24 | assumption | omega | (simp only [xset_len]; omega)) only [↓reduceIte, xbd_s, xpv_n, xpv_s, e_J6_bitCount_0f7a4_0, e_J6_bitCount_0f7a4_1, e_J6_bitCount_0f7a4_2, e_J6_bitCount_0f7a4_3, e_J6_bitCount_0f7a4_4, e_J6_bitCount_0f7a4_7, e_J6_bitCount_0f7a4_8, e_J6_bitCount_0f7a4_9, e_J6_bitCount_0f7a4_10, e_J6_bitCount_0f7a4_11, e_J6_bitCount_0f7a4_14, e_J6_bitCount_0f7a4_15, e_J6_bitCount_0f7a4_16, e_J6_bitCount_0f7a4_17, e_J6_bitCount_0f7a4_18, e_J6_bitCount_0f7a4_21, e_J6_bitCount_0f7a4_22, e_J6_bitCount_0f7a4_23, e_J6_bitCount_0f7a4_24, e_J6_bitCount_0f7a4_25, e_J6_bitCount_0f7a4_26, e_J6_bitCount_0f7a4_27, e_J6_bitCount_0f7a4_28, e_J6_bitCount_0f7a4_29, e_J6_bitCount_0f7a4_32, e_J6_bitCount_0f7a4_33, e_J6_bitCount_0f7a4_34, e_J6_bitCount_0f7a4_35, e_J6_bitCount_0f7a4_36, e_J6_bitCount_0f7a4_38, e_J6_bitCount_0f7a4_39, e_J6_bitCount_0f7a4_40, e_J6_bitCount_0f7a4_41, e_J6_bitCount_0f7a4_42, e_J6_bitCount_0f7a4_43, e_J6_bitCount_0f7a4_45, e_J6_bitCount_0f7a4_46, e_J6_bitCount_0f7a4_47, e_J6_bitCount_0f7a4_48, e_J6_bitCount_0f7a4_49, e_J6_bitCount_0f7a4_51, e_J6_bitCount_0f7a4_52]
  rfl
theorem allS_eq : ∀ n, n ≤ 7 → allS n = nI (2 ^ n - 1) := by decide
def spr (set : Int32) (d o : Nat → Int32) (n : Nat) : Int32 := (xfold (sprF set d o) n (-1, nI 10000)).1 - (xfold (sprF set d o) n (-1, nI 10000)).2
theorem r_hideN (hC : xCB X h fi ta lf lib ol un) (hL : xLB X h lib .null hr d k a o) (x : Int32) : xR X m_X11_hide 0 [.ref 16, .int x, xU, xU] [] h = some (some (.int cSTATE), h) := by
  have hc : xget X h 16 = _ := hC
  have q := r_isThereN hL
  have l0 := hL.1
  simp (disch := first | exact xnl_i _ | exact xnl_r _ | exact xnl_u _ | exact xnl_n | exact zI_2 | exact zI_24 | assumption | omega | (simp only [xset_len]; omega)) only [↓reduceIte, xbd_s, xpv_n, xpv_s, e_X11_hide_0, e_X11_hide_1, e_X11_hide_4, c_X11_hide_112_3_0, c_X11_hide_213_3_0, c_X11_hide_213_3_1, c_X11_hide_221_3_0, e_X11_hide_7, e_X11_hide_10, e_X11_hide_12, e_X11_hide_13, e_X11_hide_14, e_X11_hide_17, e_X11_hide_18, e_X11_hide_21, e_X11_hide_24, e_X11_hide_26, e_X11_hide_27, e_X11_hide_28, e_X11_hide_31, e_X11_hide_34, e_X11_hide_35, e_X11_hide_36, e_X11_hide_37, e_X11_hide_38, e_X11_hide_39, e_X11_hide_42, e_X11_hide_45, e_X11_hide_48, e_X11_hide_49, e_X11_hide_52, e_X11_hide_53, e_X11_hide_56, e_X11_hide_59, e_X11_hide_60, e_X11_hide_63, e_X11_hide_64, e_X11_hide_67, e_X11_hide_68, e_X11_hide_71, e_X11_hide_72, e_X11_hide_73, e_X11_hide_76, e_X11_hide_79, e_X11_hide_80, g_11_25_10, hc, l0, q, z0]
theorem r_hideB (hC : xCB X h fi ta lf lib ol un) (hL : xLB X h lib (.ref p) hr d k a o) {x : Int32} (hx : x < 0 ∨ nI 9999 < x) : xR X m_X11_hide 0 [.ref 16, .int x, xU, xU] [] h = some (some (.int cBAD), h) := by
  have hc : xget X h 16 = _ := hC
  have q := r_isThere hL
  have l0 := hL.1
  by_cases c : x < 0
  · simp (disch := first | exact xnl_i _ | exact xnl_r _ | exact xnl_u _ | exact xnl_n | exact zI_2 | exact zI_24 | assumption | omega | (simp only [xset_len]; omega)) only [↓reduceIte, xbd_s, xpv_n, xpv_s, e_X11_hide_0, e_X11_hide_1, e_X11_hide_4, c_X11_hide_112_3_0, c_X11_hide_213_3_0, c_X11_hide_213_3_1, c_X11_hide_221_3_0, e_X11_hide_7, e_X11_hide_10, e_X11_hide_12, e_X11_hide_13, e_X11_hide_14, e_X11_hide_17, e_X11_hide_18, e_X11_hide_21, e_X11_hide_24, e_X11_hide_26, e_X11_hide_27, e_X11_hide_28, e_X11_hide_31, e_X11_hide_34, e_X11_hide_35, e_X11_hide_36, e_X11_hide_37, e_X11_hide_38, e_X11_hide_39, e_X11_hide_42, e_X11_hide_45, e_X11_hide_48, e_X11_hide_49, e_X11_hide_52, e_X11_hide_53, e_X11_hide_56, e_X11_hide_59, e_X11_hide_60, e_X11_hide_63, e_X11_hide_64, e_X11_hide_67, e_X11_hide_68, e_X11_hide_71, e_X11_hide_72, e_X11_hide_73, e_X11_hide_76, e_X11_hide_79, e_X11_hide_80, g_11_25_10, hc, l0, q, z1, ne10, c]
  · have c2 := hx.resolve_left c
    simp (disch := first | exact xnl_i _ | exact xnl_r _ | exact xnl_u _ | exact xnl_n | exact zI_2 | exact zI_24 | assumption | omega | (simp only [xset_len]; omega)) only [↓reduceIte, xbd_s, xpv_n, xpv_s, e_X11_hide_0, e_X11_hide_1, e_X11_hide_4, c_X11_hide_112_3_0, c_X11_hide_213_3_0, c_X11_hide_213_3_1, c_X11_hide_221_3_0, e_X11_hide_7, e_X11_hide_10, e_X11_hide_12, e_X11_hide_13, e_X11_hide_14, e_X11_hide_17, e_X11_hide_18, e_X11_hide_21, e_X11_hide_24, e_X11_hide_26, e_X11_hide_27, e_X11_hide_28, e_X11_hide_31, e_X11_hide_34, e_X11_hide_35, e_X11_hide_36, e_X11_hide_37, e_X11_hide_38, e_X11_hide_39, e_X11_hide_42, e_X11_hide_45, e_X11_hide_48, e_X11_hide_49, e_X11_hide_52, e_X11_hide_53, e_X11_hide_56, e_X11_hide_59, e_X11_hide_60, e_X11_hide_63, e_X11_hide_64, e_X11_hide_67, e_X11_hide_68, e_X11_hide_71, e_X11_hide_72, e_X11_hide_73, e_X11_hide_76, e_X11_hide_79, e_X11_hide_80, g_11_25_10, hc, l0, q, z1, ne10, c, c2]
def hdF (d o : Nat → Int32) (n : Nat) (x : Int32) (j : Nat) (y : Int32) : Int32 := if bcS (nI j) < bcS y then (if x < spr (nI j) d o n then y else nI j) else y
theorem r_hide (hC : xCB X h fi ta lf lib ol un) (hL : xLB X h lib (.ref p) hr d k a o) (hP : xPB X h p n m pl fr to g u v) {x : Int32} (h1 : ¬ x < 0) (h2 : ¬ nI 9999 < x) : xR X m_X11_hide 0 [.ref 16, .int x, xU, xU] [] h = some (some (.int (xfold (hdF d o n x) (2 ^ n - 1) (nI (2 ^ n - 1)))), h) := by
  have hc : xget X h 16 = _ := hC
  have hn := hP.2.2.2.2.1
  have q := r_isThere hL
  have q1 := r_allSpots hL hP
  rw [allS_eq n hn] at q1
  have q2 := fun set => r_spread hL hP set
  have l0 := hL.1
  have hb : 2 ^ n ≤ 2 ^ 7 := Nat.pow_le_pow_right (by omega) hn
  have L := x_loop (fun j x' => xR X m_X11_hide 37 [.ref 16, .int x, .int x', .int (nI j)] [] h) (fun y => some (some (.int y), h)) (hdF d o n x) (2 ^ n - 1) (nI (2 ^ n - 1))
    (by
      intro j hj y
      have e1 : nI j < nI (2 ^ n - 1) := nI_lt hj (by omega)
      unfold hdF
      rw [e_X11_hide_37]
      by_cases c : bcS (nI j) < bcS y
      · by_cases c2 : x < spr (nI j) d o n
        · have c3 := c2
          unfold spr at c3
          simp (disch := first | exact xnl_i _ | exact xnl_r _ | exact xnl_u _ | exact xnl_n | exact zI_2 | exact zI_24 | assumption | omega | (simp only [xset_len]; omega)) only [↓reduceIte, xbd_s, xpv_n, xpv_s, e_X11_hide_0, e_X11_hide_1, e_X11_hide_4, c_X11_hide_112_3_0, c_X11_hide_213_3_0, c_X11_hide_213_3_1, c_X11_hide_221_3_0, e_X11_hide_7, e_X11_hide_10, e_X11_hide_12, e_X11_hide_13, e_X11_hide_14, e_X11_hide_17, e_X11_hide_18, e_X11_hide_21, e_X11_hide_24, e_X11_hide_26, e_X11_hide_27, e_X11_hide_28, e_X11_hide_31, e_X11_hide_34, e_X11_hide_35, e_X11_hide_36, e_X11_hide_38, e_X11_hide_39, e_X11_hide_42, e_X11_hide_45, e_X11_hide_48, e_X11_hide_49, e_X11_hide_52, e_X11_hide_53, e_X11_hide_56, e_X11_hide_59, e_X11_hide_60, e_X11_hide_63, e_X11_hide_64, e_X11_hide_67, e_X11_hide_68, e_X11_hide_71, e_X11_hide_72, e_X11_hide_73, e_X11_hide_76, e_X11_hide_79, e_X11_hide_80, g_11_25_10, hc, l0, q1, q2, e1, r_bitCount, if_pos c, if_pos c2, if_pos c3, nI_inc]
        · have c3 := c2
          unfold spr at c3
          simp (disch := first | exact xnl_i _ | exact xnl_r _ | exact xnl_u _ | exact xnl_n | exact zI_2 | exact zI_24 | assumption | omega | (simp only [xset_len]; omega)) only [↓reduceIte, xbd_s, xpv_n, xpv_s, e_X11_hide_0, e_X11_hide_1, e_X11_hide_4, c_X11_hide_112_3_0, c_X11_hide_213_3_0, c_X11_hide_213_3_1, c_X11_hide_221_3_0, e_X11_hide_7, e_X11_hide_10, e_X11_hide_12, e_X11_hide_13, e_X11_hide_14, e_X11_hide_17, e_X11_hide_18, e_X11_hide_21, e_X11_hide_24, e_X11_hide_26, e_X11_hide_27, e_X11_hide_28, e_X11_hide_31, e_X11_hide_34, e_X11_hide_35, e_X11_hide_36, e_X11_hide_38, e_X11_hide_39, e_X11_hide_42, e_X11_hide_45, e_X11_hide_48, e_X11_hide_49, e_X11_hide_52, e_X11_hide_53, e_X11_hide_56, e_X11_hide_59, e_X11_hide_60, e_X11_hide_63, e_X11_hide_64, e_X11_hide_67, e_X11_hide_68, e_X11_hide_71, e_X11_hide_72, e_X11_hide_73, e_X11_hide_76, e_X11_hide_79, e_X11_hide_80, g_11_25_10, hc, l0, q1, q2, e1, r_bitCount, if_pos c, if_neg c2, if_neg c3, nI_inc]
      · simp (disch := first | exact xnl_i _ | exact xnl_r _ | exact xnl_u _ | exact xnl_n | exact zI_2 | exact zI_24 | assumption | omega | (simp only [xset_len]; omega)) only [↓reduceIte, xbd_s, xpv_n, xpv_s, e_X11_hide_0, e_X11_hide_1, e_X11_hide_4, c_X11_hide_112_3_0, c_X11_hide_213_3_0, c_X11_hide_213_3_1, c_X11_hide_221_3_0, e_X11_hide_7, e_X11_hide_10, e_X11_hide_12, e_X11_hide_13, e_X11_hide_14, e_X11_hide_17, e_X11_hide_18, e_X11_hide_21, e_X11_hide_24, e_X11_hide_26, e_X11_hide_27, e_X11_hide_28, e_X11_hide_31, e_X11_hide_34, e_X11_hide_35, e_X11_hide_36, e_X11_hide_38, e_X11_hide_39, e_X11_hide_42, e_X11_hide_45, e_X11_hide_48, e_X11_hide_49, e_X11_hide_52, e_X11_hide_53, e_X11_hide_56, e_X11_hide_59, e_X11_hide_60, e_X11_hide_63, e_X11_hide_64, e_X11_hide_67, e_X11_hide_68, e_X11_hide_71, e_X11_hide_72, e_X11_hide_73, e_X11_hide_76, e_X11_hide_79, e_X11_hide_80, g_11_25_10, hc, l0, q1, q2, e1, r_bitCount, if_neg c, nI_inc])
    (by
      intro y
      have e1 : ¬ nI (2 ^ n - 1) < nI (2 ^ n - 1) := nI_nlt (Nat.le_refl _) (by omega)
      simp (disch := first | exact xnl_i _ | exact xnl_r _ | exact xnl_u _ | exact xnl_n | exact zI_2 | exact zI_24 | assumption | omega | (simp only [xset_len]; omega)) only [↓reduceIte, xbd_s, xpv_n, xpv_s, e_X11_hide_0, e_X11_hide_1, e_X11_hide_4, c_X11_hide_112_3_0, c_X11_hide_213_3_0, c_X11_hide_213_3_1, c_X11_hide_221_3_0, e_X11_hide_7, e_X11_hide_10, e_X11_hide_12, e_X11_hide_13, e_X11_hide_14, e_X11_hide_17, e_X11_hide_18, e_X11_hide_21, e_X11_hide_24, e_X11_hide_26, e_X11_hide_27, e_X11_hide_28, e_X11_hide_31, e_X11_hide_34, e_X11_hide_35, e_X11_hide_36, e_X11_hide_37, e_X11_hide_38, e_X11_hide_39, e_X11_hide_42, e_X11_hide_45, e_X11_hide_48, e_X11_hide_49, e_X11_hide_52, e_X11_hide_53, e_X11_hide_56, e_X11_hide_59, e_X11_hide_60, e_X11_hide_63, e_X11_hide_64, e_X11_hide_67, e_X11_hide_68, e_X11_hide_71, e_X11_hide_72, e_X11_hide_73, e_X11_hide_76, e_X11_hide_79, e_X11_hide_80, g_11_25_10, hc, l0, q1, e1])
  simp (disch := first | exact xnl_i _ | exact xnl_r _ | exact xnl_u _ | exact xnl_n | exact zI_2 | exact zI_24 | assumption | omega | (simp only [xset_len]; omega)) only [↓reduceIte, xbd_s, xpv_n, xpv_s, e_X11_hide_0, e_X11_hide_1, e_X11_hide_4, c_X11_hide_112_3_0, c_X11_hide_213_3_0, c_X11_hide_213_3_1, c_X11_hide_221_3_0, e_X11_hide_7, e_X11_hide_10, e_X11_hide_12, e_X11_hide_13, e_X11_hide_14, e_X11_hide_17, e_X11_hide_18, e_X11_hide_21, e_X11_hide_24, e_X11_hide_26, e_X11_hide_27, e_X11_hide_28, e_X11_hide_31, e_X11_hide_34, e_X11_hide_35, e_X11_hide_36, e_X11_hide_38, e_X11_hide_39, e_X11_hide_42, e_X11_hide_45, e_X11_hide_48, e_X11_hide_49, e_X11_hide_52, e_X11_hide_53, e_X11_hide_56, e_X11_hide_59, e_X11_hide_60, e_X11_hide_63, e_X11_hide_64, e_X11_hide_67, e_X11_hide_68, e_X11_hide_71, e_X11_hide_72, e_X11_hide_73, e_X11_hide_76, e_X11_hide_79, e_X11_hide_80, g_11_25_10, hc, l0, q, q1, z1, ne10, h1, h2]
  exact L
end XLQ
