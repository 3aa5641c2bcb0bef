/-! LIBRARY: what only looks, with loops -/
section XLJ
variable {X : xS} {h : xH} {b p n m pl fr to : Nat} {pv : Value} {hr : Int32} {d k a o : Nat → Int32} {g : Nat → Option Nat} {u v so dr : Nat → Int32}
theorem g_3_94 {ci : Nat} {x : Int32} {f0 f1 : Value} {K : Value → Option (Option Value × xH)} (hs : xSort ci x) : xgK (some (.inl (ci, [f0, f1]))) (xfld 3 94) K = K f1 := by
  rcases hs with ⟨rfl, _⟩ | ⟨rfl, _⟩ | ⟨rfl, _⟩ | ⟨rfl, _⟩ | ⟨rfl, _⟩ <;> rfl
theorem r_isIn (x y : Int32) : xR X m_X11_isIn 0 [.int x, .int y] [] h = some (some (.int (if (x >>> (y &&& 31)) &&& nI 1 = nI 1 then nI 1 else nI 0)), h) := by
  simp (disch := first | exact xnl_i _ | exact xnl_r _ | exact xnl_u _ | exact xnl_n | exact zI_2 | exact zI_24 | assumption | omega) only [xbd_s, xpv_n, xpv_s, e_X11_isIn_0, e_X11_isIn_1, e_X11_isIn_2, e_X11_isIn_3, e_X11_isIn_4, e_X11_isIn_5, e_X11_isIn_6, e_X11_isIn_9, e_X11_isIn_10, e_X11_isIn_13, e_X11_isIn_14, e_X11_isIn_14_0, e_X11_isIn_14_1]
  split
  all_goals rfl
theorem r_atMost (x : Int32) : xR X m_X11_atMost 0 [.int x] [] h = some (some (.int (atS x)), h) := by
  simp (disch := first | exact xnl_i _ | exact xnl_r _ | exact xnl_u _ | exact xnl_n | exact zI_2 | exact zI_24 | assumption | omega) only [xbd_s, xpv_n, xpv_s, e_X11_atMost_0, e_X11_atMost_1, e_X11_atMost_4, e_X11_atMost_7]
  rfl
theorem r_fallAt (hL : xLB X h b (.ref p) hr d k a o) (hP : xPB X h p n m pl fr to g u v) (hG : xGB X h n g so dr) {s : Nat} (hs : s < n) (t : Int32) : xR X m_X3_fallAt 0 [.ref b, .int (nI s), .int t, xU] [] h = some (some (.int (fallS (so s) (dr s) t)), h) := by
  obtain ⟨q, ci, g1, g2, g3⟩ := hG s hs
  have q := r_placeAt hL hP hs g1
  obtain ⟨l0, l1, l2, l3, l4, l5⟩ := hL
  simp (disch := first | exact xnl_i _ | exact xnl_r _ | exact xnl_u _ | exact xnl_n | exact zI_2 | exact zI_24 | assumption | omega) only [xbd_s, xpv_n, xpv_s, g_3_94, r_fall_97, e_X3_fallAt_0, e_X3_fallAt_0n, e_X3_fallAt_1, e_X3_fallAt_2, c_X3_fallAt_85_3_0, c_X3_fallAt_97_0_0, c_X3_fallAt_97_1_0, c_X3_fallAt_97_2_0, c_X3_fallAt_97_4_0, c_X3_fallAt_97_9_0, e_X3_fallAt_5, e_X3_fallAt_5n, e_X3_fallAt_6, e_X3_fallAt_6n, e_X3_fallAt_7n, e_X3_fallAt_7, e_X3_fallAt_10, e_X3_fallAt_11, e_X3_fallAt_14, e_X3_fallAt_14n, e_X3_fallAt_15, e_X3_fallAt_15n, e_X3_fallAt_16, e_X3_fallAt_19, e_X3_fallAt_20, e_X3_fallAt_23, g_3_94_0, g_3_94_1, g_3_94_2, g_3_94_4, g_3_94_9, l0, q, g2]
theorem r_dustNext (hL : xLB X h b (.ref p) hr d k a o) (hP : xPB X h p n m pl fr to g u v) (hG : xGB X h n g so dr) {s : Nat} (hs : s < n) (x t : Int32) : xR X m_X3_dustNext 0 [.ref b, .int (nI s), .int x, .int t] [] h = some (some (.int (dNx so dr o hr s x t)), h) := by
  have q := r_fallAt hL hP hG hs (hr + t)
  have hn := hP.2.2.2.2.1
  obtain ⟨l0, l1, l2, l3, l4, l5⟩ := hL
  simp (disch := first | exact xnl_i _ | exact xnl_r _ | exact xnl_u _ | exact xnl_n | exact zI_2 | exact zI_24 | assumption | omega) only [xbd_s, xpv_n, xpv_s, e_X3_dustNext_0, e_X3_dustNext_1, e_X3_dustNext_2, e_X3_dustNext_5, e_X3_dustNext_6, e_X3_dustNext_7, e_X3_dustNext_10, e_X3_dustNext_11, e_X3_dustNext_14, e_X3_dustNext_15, e_X3_dustNext_16, e_X3_dustNext_17, e_X3_dustNext_18, e_X3_dustNext_21, e_X3_dustNext_22, e_X3_dustNext_23, c_X3_dustNext_79_3_1, e_X3_dustNext_26, e_X3_dustNext_27, e_X3_dustNext_30, g_3_21_3, g_3_28_3, l0, l4, q, xl_i, r_atMost]
  unfold dNx
  split
  all_goals rfl
theorem r_fadedNext (hL : xLB X h b (.ref p) hr d k a o) (hP : xPB X h p n m pl fr to g u v) (hG : xGB X h n g so dr) {s : Nat} (hs : s < n) (x t : Int32) : xR X m_X3_fadedNext 0 [.ref b, .int (nI s), .int x, .int t, xU] [] h = some (some (.int (fNx so o hr s x t)), h) := by
  obtain ⟨q, ci, g1, g2, g3⟩ := hG s hs
  have q := r_placeAt hL hP hs g1
  have hn := hP.2.2.2.2.1
  obtain ⟨l0, l1, l2, l3, l4, l5⟩ := hL
  simp (disch := first | exact xnl_i _ | exact xnl_r _ | exact xnl_u _ | exact xnl_n | exact zI_2 | exact zI_24 | assumption | omega) only [xbd_s, xpv_n, xpv_s, r_sun_89, e_X3_fadedNext_0, e_X3_fadedNext_0n, e_X3_fadedNext_1, e_X3_fadedNext_2, c_X3_fadedNext_85_3_0, c_X3_fadedNext_89_0_1, c_X3_fadedNext_89_1_1, c_X3_fadedNext_89_2_1, c_X3_fadedNext_89_4_1, c_X3_fadedNext_89_9_1, e_X3_fadedNext_5, e_X3_fadedNext_5n, e_X3_fadedNext_7, e_X3_fadedNext_7n, e_X3_fadedNext_9n, e_X3_fadedNext_9, e_X3_fadedNext_12, e_X3_fadedNext_13, e_X3_fadedNext_13n, e_X3_fadedNext_14, e_X3_fadedNext_17, e_X3_fadedNext_18, e_X3_fadedNext_19, e_X3_fadedNext_22, e_X3_fadedNext_23, e_X3_fadedNext_26, e_X3_fadedNext_27, e_X3_fadedNext_27n, e_X3_fadedNext_29, e_X3_fadedNext_29n, e_X3_fadedNext_30, e_X3_fadedNext_33, e_X3_fadedNext_34, e_X3_fadedNext_35, e_X3_fadedNext_38, e_X3_fadedNext_39, e_X3_fadedNext_42, g_3_21_3, g_3_28_3, l0, l4, q, g2, xl_i, r_atMost]
  unfold fNx
  split
  all_goals rfl
theorem r_dustBehind (hL : xLB X h b (.ref p) hr d k a o) (hP : xPB X h p n m pl fr to g u v) (hG : xGB X h n g so dr) {s : Nat} (hs : s < n) {c : Nat} (hc : c < 2 ^ 31) : xR X m_X3_dustBehind 0 [.ref b, .int (nI s), .int (nI c), xU, xU] [] h = some (some (.int (xfold (fun j x => dNx so dr o hr s x (nI j)) c (d s))), h) := by
  have q := fun x t => r_dustNext hL hP hG hs x t
  have hn := hP.2.2.2.2.1
  obtain ⟨l0, l1, l2, l3, l4, l5⟩ := hL
  have L := x_loop (fun j x => xR X m_X3_dustBehind 10 [.ref b, .int (nI s), .int (nI c), .int x, .int (nI j)] [] h) (fun x => some (some (.int x), h)) (fun j x => dNx so dr o hr s x (nI j)) c (d s)
    (by
      intro j hj x
      have e1 : nI j < nI c := nI_lt hj hc
      rw [e_X3_dustBehind_10]
      simp (disch := first | exact xnl_i _ | exact xnl_r _ | exact xnl_u _ | exact xnl_n | exact zI_2 | exact zI_24 | assumption | omega) only [xbd_s, xpv_n, xpv_s, e_X3_dustBehind_0, e_X3_dustBehind_1, e_X3_dustBehind_4, e_X3_dustBehind_5, e_X3_dustBehind_6, e_X3_dustBehind_7, e_X3_dustBehind_8, e_X3_dustBehind_12, e_X3_dustBehind_13, e_X3_dustBehind_16, e_X3_dustBehind_17, e_X3_dustBehind_18, e_X3_dustBehind_19, e_X3_dustBehind_21, c_X3_dustBehind_62_3_0, e_X3_dustBehind_24, e_X3_dustBehind_25, e_X3_dustBehind_28, e_X3_dustBehind_31, e_X3_dustBehind_32, g_3_9_3, l0, q, e1, if_true, nI_inc])
    (by
      intro x
      have e1 : ¬ nI c < nI c := nI_nlt (Nat.le_refl c) hc
      simp (disch := first | exact xnl_i _ | exact xnl_r _ | exact xnl_u _ | exact xnl_n | exact zI_2 | exact zI_24 | assumption | omega) only [xbd_s, xpv_n, xpv_s, e_X3_dustBehind_0, e_X3_dustBehind_1, e_X3_dustBehind_4, e_X3_dustBehind_5, e_X3_dustBehind_6, e_X3_dustBehind_7, e_X3_dustBehind_8, e_X3_dustBehind_10, e_X3_dustBehind_12, e_X3_dustBehind_13, e_X3_dustBehind_16, e_X3_dustBehind_17, e_X3_dustBehind_18, e_X3_dustBehind_19, e_X3_dustBehind_21, c_X3_dustBehind_62_3_0, e_X3_dustBehind_24, e_X3_dustBehind_25, e_X3_dustBehind_28, e_X3_dustBehind_31, e_X3_dustBehind_32, g_3_9_3, e1, if_false])
  simp (disch := first | exact xnl_i _ | exact xnl_r _ | exact xnl_u _ | exact xnl_n | exact zI_2 | exact zI_24 | assumption | omega) only [xbd_s, xpv_n, xpv_s, e_X3_dustBehind_0, e_X3_dustBehind_1, e_X3_dustBehind_4, e_X3_dustBehind_5, e_X3_dustBehind_6, e_X3_dustBehind_7, e_X3_dustBehind_8, e_X3_dustBehind_12, e_X3_dustBehind_13, e_X3_dustBehind_16, e_X3_dustBehind_17, e_X3_dustBehind_18, e_X3_dustBehind_19, e_X3_dustBehind_21, c_X3_dustBehind_62_3_0, e_X3_dustBehind_24, e_X3_dustBehind_25, e_X3_dustBehind_28, e_X3_dustBehind_31, e_X3_dustBehind_32, g_3_9_3, l0, l1, xl_i]
  exact L
theorem r_fadedBehind (hL : xLB X h b (.ref p) hr d k a o) (hP : xPB X h p n m pl fr to g u v) (hG : xGB X h n g so dr) {s : Nat} (hs : s < n) {c : Nat} (hc : c < 2 ^ 31) : xR X m_X3_fadedBehind 0 [.ref b, .int (nI s), .int (nI c), xU, xU] [] h = some (some (.int (xfold (fun j x => fNx so o hr s x (nI j)) c (a s))), h) := by
  have q := fun x t => r_fadedNext hL hP hG hs x t
  have hn := hP.2.2.2.2.1
  obtain ⟨l0, l1, l2, l3, l4, l5⟩ := hL
  have L := x_loop (fun j x => xR X m_X3_fadedBehind 10 [.ref b, .int (nI s), .int (nI c), .int x, .int (nI j)] [] h) (fun x => some (some (.int x), h)) (fun j x => fNx so o hr s x (nI j)) c (a s)
    (by
      intro j hj x
      have e1 : nI j < nI c := nI_lt hj hc
      rw [e_X3_fadedBehind_10]
      simp (disch := first | exact xnl_i _ | exact xnl_r _ | exact xnl_u _ | exact xnl_n | exact zI_2 | exact zI_24 | assumption | omega) only [xbd_s, xpv_n, xpv_s, e_X3_fadedBehind_0, e_X3_fadedBehind_1, e_X3_fadedBehind_4, e_X3_fadedBehind_5, e_X3_fadedBehind_6, e_X3_fadedBehind_7, e_X3_fadedBehind_8, e_X3_fadedBehind_12, e_X3_fadedBehind_13, e_X3_fadedBehind_16, e_X3_fadedBehind_17, e_X3_fadedBehind_18, e_X3_fadedBehind_19, e_X3_fadedBehind_21, c_X3_fadedBehind_66_3_0, e_X3_fadedBehind_24, e_X3_fadedBehind_25, e_X3_fadedBehind_28, e_X3_fadedBehind_31, e_X3_fadedBehind_32, g_3_18_3, l0, q, e1, if_true, nI_inc])
    (by
      intro x
      have e1 : ¬ nI c < nI c := nI_nlt (Nat.le_refl c) hc
      simp (disch := first | exact xnl_i _ | exact xnl_r _ | exact xnl_u _ | exact xnl_n | exact zI_2 | exact zI_24 | assumption | omega) only [xbd_s, xpv_n, xpv_s, e_X3_fadedBehind_0, e_X3_fadedBehind_1, e_X3_fadedBehind_4, e_X3_fadedBehind_5, e_X3_fadedBehind_6, e_X3_fadedBehind_7, e_X3_fadedBehind_8, e_X3_fadedBehind_10, e_X3_fadedBehind_12, e_X3_fadedBehind_13, e_X3_fadedBehind_16, e_X3_fadedBehind_17, e_X3_fadedBehind_18, e_X3_fadedBehind_19, e_X3_fadedBehind_21, c_X3_fadedBehind_66_3_0, e_X3_fadedBehind_24, e_X3_fadedBehind_25, e_X3_fadedBehind_28, e_X3_fadedBehind_31, e_X3_fadedBehind_32, g_3_18_3, e1, if_false])
  simp (disch := first | exact xnl_i _ | exact xnl_r _ | exact xnl_u _ | exact xnl_n | exact zI_2 | exact zI_24 | assumption | omega) only [xbd_s, xpv_n, xpv_s, e_X3_fadedBehind_0, e_X3_fadedBehind_1, e_X3_fadedBehind_4, e_X3_fadedBehind_5, e_X3_fadedBehind_6, e_X3_fadedBehind_7, e_X3_fadedBehind_8, e_X3_fadedBehind_12, e_X3_fadedBehind_13, e_X3_fadedBehind_16, e_X3_fadedBehind_17, e_X3_fadedBehind_18, e_X3_fadedBehind_19, e_X3_fadedBehind_21, c_X3_fadedBehind_66_3_0, e_X3_fadedBehind_24, e_X3_fadedBehind_25, e_X3_fadedBehind_28, e_X3_fadedBehind_31, e_X3_fadedBehind_32, g_3_18_3, l0, l3, xl_i]
  exact L
theorem r_lastTouch {hr : Nat} (hh : hr < 2 ^ 31) (hL : xLB X h b (.ref p) (nI hr) d k a o) (hP : xPB X h p n m pl fr to g u v) (hG : xGB X h n g so dr) {s : Nat} (hs : s < n) (x : Int32) : xR X m_X3_lastTouch 0 [.ref b, .int (nI s), .int x, xU, xU] [] h = some (some (.int (xO (lTS (fun t => fallS (so s) (dr s) (nI t)) x hr (nI 0)))), h) := by
  have q := fun t => r_fallAt hL hP hG hs t
  obtain ⟨l0, l1, l2, l3, l4, l5⟩ := hL
  have L : ∀ t, t < 2 ^ 31 → ∀ y, xR X m_X3_lastTouch 8 [.ref b, .int (nI s), .int x, .int y, .int (nI t)] [] h = some (some (.int (xO (lTS (fun t => fallS (so s) (dr s) (nI t)) x t y))), h) := by
    intro t
    induction t with
    | zero =>
      intro _ y
      simp (disch := first | exact xnl_i _ | exact xnl_r _ | exact xnl_u _ | exact xnl_n | exact zI_2 | exact zI_24 | assumption | omega) only [xbd_s, xpv_n, xpv_s, e_X3_lastTouch_0, e_X3_lastTouch_1, e_X3_lastTouch_2, e_X3_lastTouch_3, e_X3_lastTouch_6, e_X3_lastTouch_8, e_X3_lastTouch_10, e_X3_lastTouch_13, e_X3_lastTouch_14, e_X3_lastTouch_15, e_X3_lastTouch_18, e_X3_lastTouch_21, e_X3_lastTouch_22, e_X3_lastTouch_23, e_X3_lastTouch_24, e_X3_lastTouch_26, c_X3_lastTouch_79_3_1, e_X3_lastTouch_29, e_X3_lastTouch_30, e_X3_lastTouch_31, e_X3_lastTouch_34, e_X3_lastTouch_35, e_X3_lastTouch_36, e_X3_lastTouch_39, e_X3_lastTouch_41, e_X3_lastTouch_44, e_X3_lastTouch_46, g_3_28_3, nI_ngt0, if_false]
      unfold lTS
      split <;> rfl
    | succ t ih =>
      intro ht y
      have e1 := nI_gt0 ht
      rw [e_X3_lastTouch_8]
      unfold lTS
      by_cases e2 : y < x
      · simp (disch := first | exact xnl_i _ | exact xnl_r _ | exact xnl_u _ | exact xnl_n | exact zI_2 | exact zI_24 | assumption | omega) only [xbd_s, xpv_n, xpv_s, e_X3_lastTouch_0, e_X3_lastTouch_1, e_X3_lastTouch_2, e_X3_lastTouch_3, e_X3_lastTouch_6, e_X3_lastTouch_10, e_X3_lastTouch_13, e_X3_lastTouch_14, e_X3_lastTouch_15, e_X3_lastTouch_18, e_X3_lastTouch_21, e_X3_lastTouch_22, e_X3_lastTouch_23, e_X3_lastTouch_24, e_X3_lastTouch_26, c_X3_lastTouch_79_3_1, e_X3_lastTouch_29, e_X3_lastTouch_30, e_X3_lastTouch_31, e_X3_lastTouch_34, e_X3_lastTouch_35, e_X3_lastTouch_36, e_X3_lastTouch_39, e_X3_lastTouch_41, e_X3_lastTouch_44, e_X3_lastTouch_46, g_3_28_3, l0, q, e1, e2, if_true, nI_dec]
        exact ih (by omega) _
      · simp (disch := first | exact xnl_i _ | exact xnl_r _ | exact xnl_u _ | exact xnl_n | exact zI_2 | exact zI_24 | assumption | omega) only [xbd_s, xpv_n, xpv_s, e_X3_lastTouch_0, e_X3_lastTouch_1, e_X3_lastTouch_2, e_X3_lastTouch_3, e_X3_lastTouch_6, e_X3_lastTouch_10, e_X3_lastTouch_13, e_X3_lastTouch_14, e_X3_lastTouch_15, e_X3_lastTouch_18, e_X3_lastTouch_21, e_X3_lastTouch_22, e_X3_lastTouch_23, e_X3_lastTouch_24, e_X3_lastTouch_26, c_X3_lastTouch_79_3_1, e_X3_lastTouch_29, e_X3_lastTouch_30, e_X3_lastTouch_31, e_X3_lastTouch_34, e_X3_lastTouch_35, e_X3_lastTouch_36, e_X3_lastTouch_39, e_X3_lastTouch_41, e_X3_lastTouch_44, e_X3_lastTouch_46, g_3_28_3, l0, q, e1, e2, if_true, if_false]
        split <;> rfl
  simp (disch := first | exact xnl_i _ | exact xnl_r _ | exact xnl_u _ | exact xnl_n | exact zI_2 | exact zI_24 | assumption | omega) only [xbd_s, xpv_n, xpv_s, e_X3_lastTouch_0, e_X3_lastTouch_1, e_X3_lastTouch_2, e_X3_lastTouch_3, e_X3_lastTouch_6, e_X3_lastTouch_10, e_X3_lastTouch_13, e_X3_lastTouch_14, e_X3_lastTouch_15, e_X3_lastTouch_18, e_X3_lastTouch_21, e_X3_lastTouch_22, e_X3_lastTouch_23, e_X3_lastTouch_24, e_X3_lastTouch_26, c_X3_lastTouch_79_3_1, e_X3_lastTouch_29, e_X3_lastTouch_30, e_X3_lastTouch_31, e_X3_lastTouch_34, e_X3_lastTouch_35, e_X3_lastTouch_36, e_X3_lastTouch_39, e_X3_lastTouch_41, e_X3_lastTouch_44, e_X3_lastTouch_46, g_3_28_3, l0]
  exact L hr hh _
theorem fTS_le (F : Nat → Int32) (t : Nat) : fTS F t ≤ t := by
  induction t with
  | zero => exact Nat.le_refl 0
  | succ t ih =>
    unfold fTS
    split <;> omega
theorem lTS_le (F : Nat → Int32) (x : Int32) : ∀ t y r, lTS F x t y = some r → r ≤ t := by
  intro t
  induction t with
  | zero =>
    intro y r e
    unfold lTS at e
    split at e <;> cases e
    exact Nat.le_refl 0
  | succ t ih =>
    intro y r e
    unfold lTS at e
    split at e
    · have := ih _ _ e
      omega
    · split at e <;> cases e
      exact Nat.le_refl _
theorem r_firstTouch {hr : Nat} (hh : hr < 2 ^ 31) (hL : xLB X h b (.ref p) (nI hr) d k a o) (hP : xPB X h p n m pl fr to g u v) (hG : xGB X h n g so dr) {s : Nat} (hs : s < n) (x : Int32) : xR X m_X3_firstTouch 0 [.ref b, .int (nI s), .int x, xU] [] h = some (some (.int (xO ((lTS (fun t => fallS (so s) (dr s) (nI t)) x hr (nI 0)).map (fTS (fun t => fallS (so s) (dr s) (nI t)))))), h) := by
  have q := fun t => r_fallAt hL hP hG hs t
  have ql := r_lastTouch hh hL hP hG hs x
  obtain ⟨l0, l1, l2, l3, l4, l5⟩ := hL
  have L : ∀ t, t < 2 ^ 31 → xR X m_X3_firstTouch 7 [.ref b, .int (nI s), .int x, .int (nI t)] [] h = some (some (.int (nI (fTS (fun t => fallS (so s) (dr s) (nI t)) t))), h) := by
    intro t
    induction t with
    | zero =>
      intro _
      simp (disch := first | exact xnl_i _ | exact xnl_r _ | exact xnl_u _ | exact xnl_n | exact zI_2 | exact zI_24 | assumption | omega) only [xbd_s, xpv_n, xpv_s, e_X3_firstTouch_0, e_X3_firstTouch_1, e_X3_firstTouch_2, e_X3_firstTouch_3, c_X3_firstTouch_101_3_0, c_X3_firstTouch_79_3_0, e_X3_firstTouch_6, e_X3_firstTouch_7, e_X3_firstTouch_8, e_X3_firstTouch_11, e_X3_firstTouch_12, e_X3_firstTouch_13, e_X3_firstTouch_14, e_X3_firstTouch_15, e_X3_firstTouch_16, e_X3_firstTouch_19, e_X3_firstTouch_22, e_X3_firstTouch_25, e_X3_firstTouch_28, e_X3_firstTouch_29, nI_ngt0, if_false]
      rfl
    | succ t ih =>
      intro ht
      have e1 := nI_gt0 ht
      rw [e_X3_firstTouch_7]
      unfold fTS
      by_cases e2 : fallS (so s) (dr s) (nI t) = 0
      · simp (disch := first | exact xnl_i _ | exact xnl_r _ | exact xnl_u _ | exact xnl_n | exact zI_2 | exact zI_24 | assumption | omega) only [xbd_s, xpv_n, xpv_s, e_X3_firstTouch_0, e_X3_firstTouch_1, e_X3_firstTouch_2, e_X3_firstTouch_3, c_X3_firstTouch_101_3_0, c_X3_firstTouch_79_3_0, e_X3_firstTouch_6, e_X3_firstTouch_8, e_X3_firstTouch_11, e_X3_firstTouch_12, e_X3_firstTouch_13, e_X3_firstTouch_14, e_X3_firstTouch_15, e_X3_firstTouch_16, e_X3_firstTouch_19, e_X3_firstTouch_22, e_X3_firstTouch_25, e_X3_firstTouch_28, e_X3_firstTouch_29, l0, q, e1, e2, if_true, nI_dec, nI_sub1]
        exact ih (by omega)
      · simp (disch := first | exact xnl_i _ | exact xnl_r _ | exact xnl_u _ | exact xnl_n | exact zI_2 | exact zI_24 | assumption | omega) only [xbd_s, xpv_n, xpv_s, e_X3_firstTouch_0, e_X3_firstTouch_1, e_X3_firstTouch_2, e_X3_firstTouch_3, c_X3_firstTouch_101_3_0, c_X3_firstTouch_79_3_0, e_X3_firstTouch_6, e_X3_firstTouch_8, e_X3_firstTouch_11, e_X3_firstTouch_12, e_X3_firstTouch_13, e_X3_firstTouch_14, e_X3_firstTouch_15, e_X3_firstTouch_16, e_X3_firstTouch_19, e_X3_firstTouch_22, e_X3_firstTouch_25, e_X3_firstTouch_28, e_X3_firstTouch_29, l0, q, e1, e2, if_true, if_false, nI_sub1]
  simp (disch := first | exact xnl_i _ | exact xnl_r _ | exact xnl_u _ | exact xnl_n | exact zI_2 | exact zI_24 | assumption | omega) only [xbd_s, xpv_n, xpv_s, e_X3_firstTouch_0, e_X3_firstTouch_1, e_X3_firstTouch_2, e_X3_firstTouch_3, c_X3_firstTouch_101_3_0, c_X3_firstTouch_79_3_0, e_X3_firstTouch_6, e_X3_firstTouch_8, e_X3_firstTouch_11, e_X3_firstTouch_12, e_X3_firstTouch_13, e_X3_firstTouch_14, e_X3_firstTouch_15, e_X3_firstTouch_16, e_X3_firstTouch_19, e_X3_firstTouch_22, e_X3_firstTouch_25, e_X3_firstTouch_28, e_X3_firstTouch_29, l0, ql]
  cases e0 : lTS (fun t => fallS (so s) (dr s) (nI t)) x hr (nI 0) with
  | none =>
    have e : ¬ (0 : Int32) < xNO := by decide
    simp (disch := first | exact xnl_i _ | exact xnl_r _ | exact xnl_u _ | exact xnl_n | exact zI_2 | exact zI_24 | assumption | omega) only [xbd_s, xpv_n, xpv_s, e_X3_firstTouch_0, e_X3_firstTouch_1, e_X3_firstTouch_2, e_X3_firstTouch_3, c_X3_firstTouch_101_3_0, c_X3_firstTouch_79_3_0, e_X3_firstTouch_6, e_X3_firstTouch_7, e_X3_firstTouch_8, e_X3_firstTouch_11, e_X3_firstTouch_12, e_X3_firstTouch_13, e_X3_firstTouch_14, e_X3_firstTouch_15, e_X3_firstTouch_16, e_X3_firstTouch_19, e_X3_firstTouch_22, e_X3_firstTouch_25, e_X3_firstTouch_28, e_X3_firstTouch_29, xO, Option.map_none, e, if_false]
  | some t => exact L t (Nat.lt_of_le_of_lt (lTS_le _ _ _ _ _ e0) hh)
def cmS (m : Nat) (u v : Nat → Int32) (t : Int32) : Int32 := xfold (fun r x => if xday t < u r then x else if v r < xday t then x else x ||| (nI 1 <<< (nI r &&& 31))) m (nI 0)
theorem r_comers (hP : xPB X h p n m pl fr to g u v) (t : Int32) : xR X m_X6_comers 0 [.ref p, .int t, xU, xU, xU] [] h = some (some (.int (cmS m u v t)), h) := by
  obtain ⟨p0, p1, p2, p3, p4, p5⟩ := hP
  have L := x_loop (fun j x => xR X m_X6_comers 10 [.ref p, .int t, .int (xday t), .int x, .int (nI j)] [] h) (fun x => some (some (.int x), h)) (fun r x => if xday t < u r then x else if v r < xday t then x else x ||| (nI 1 <<< (nI r &&& 31))) m (nI 0)
    (by
      intro j hj x
      have e1 : nI j < nI m := nI_lt hj (by omega)
      rw [e_X6_comers_10]
      simp (disch := first | exact xnl_i _ | exact xnl_r _ | exact xnl_u _ | exact xnl_n | exact zI_2 | exact zI_24 | assumption | omega) only [xbd_s, xpv_n, xpv_s, e_X6_comers_0, e_X6_comers_1, e_X6_comers_3, e_X6_comers_4, e_X6_comers_5, e_X6_comers_6, e_X6_comers_7, e_X6_comers_8, e_X6_comers_12, e_X6_comers_13, e_X6_comers_16, e_X6_comers_19, e_X6_comers_20, e_X6_comers_23, e_X6_comers_25, e_X6_comers_26, e_X6_comers_27, e_X6_comers_30, e_X6_comers_31, e_X6_comers_32, e_X6_comers_35, e_X6_comers_37, e_X6_comers_38, e_X6_comers_41, e_X6_comers_42, e_X6_comers_43, e_X6_comers_45, e_X6_comers_46, e_X6_comers_47, e_X6_comers_48, e_X6_comers_51, e_X6_comers_54, e_X6_comers_55, g_6_17_5, g_6_21_5, g_6_28_5, p0, p2, p3, xl_i, e1, if_true, nI_inc]
      by_cases c1 : xday t < u j
      · simp (disch := first | exact xnl_i _ | exact xnl_r _ | exact xnl_u _ | exact xnl_n | exact zI_2 | exact zI_24 | assumption | omega) only [xbd_s, xpv_n, xpv_s, e_X6_comers_0, e_X6_comers_1, e_X6_comers_3, e_X6_comers_4, e_X6_comers_5, e_X6_comers_6, e_X6_comers_7, e_X6_comers_8, e_X6_comers_12, e_X6_comers_13, e_X6_comers_16, e_X6_comers_19, e_X6_comers_20, e_X6_comers_23, e_X6_comers_25, e_X6_comers_26, e_X6_comers_27, e_X6_comers_30, e_X6_comers_31, e_X6_comers_32, e_X6_comers_35, e_X6_comers_37, e_X6_comers_38, e_X6_comers_41, e_X6_comers_42, e_X6_comers_43, e_X6_comers_45, e_X6_comers_46, e_X6_comers_47, e_X6_comers_48, e_X6_comers_51, e_X6_comers_54, e_X6_comers_55, g_6_17_5, g_6_21_5, g_6_28_5, nI_inc, if_pos c1]
      · by_cases c2 : v j < xday t
        · simp (disch := first | exact xnl_i _ | exact xnl_r _ | exact xnl_u _ | exact xnl_n | exact zI_2 | exact zI_24 | assumption | omega) only [xbd_s, xpv_n, xpv_s, e_X6_comers_0, e_X6_comers_1, e_X6_comers_3, e_X6_comers_4, e_X6_comers_5, e_X6_comers_6, e_X6_comers_7, e_X6_comers_8, e_X6_comers_12, e_X6_comers_13, e_X6_comers_16, e_X6_comers_19, e_X6_comers_20, e_X6_comers_23, e_X6_comers_25, e_X6_comers_26, e_X6_comers_27, e_X6_comers_30, e_X6_comers_31, e_X6_comers_32, e_X6_comers_35, e_X6_comers_37, e_X6_comers_38, e_X6_comers_41, e_X6_comers_42, e_X6_comers_43, e_X6_comers_45, e_X6_comers_46, e_X6_comers_47, e_X6_comers_48, e_X6_comers_51, e_X6_comers_54, e_X6_comers_55, g_6_17_5, g_6_21_5, g_6_28_5, nI_inc, if_neg c1, if_pos c2]
        · simp (disch := first | exact xnl_i _ | exact xnl_r _ | exact xnl_u _ | exact xnl_n | exact zI_2 | exact zI_24 | assumption | omega) only [xbd_s, xpv_n, xpv_s, e_X6_comers_0, e_X6_comers_1, e_X6_comers_3, e_X6_comers_4, e_X6_comers_5, e_X6_comers_6, e_X6_comers_7, e_X6_comers_8, e_X6_comers_12, e_X6_comers_13, e_X6_comers_16, e_X6_comers_19, e_X6_comers_20, e_X6_comers_23, e_X6_comers_25, e_X6_comers_26, e_X6_comers_27, e_X6_comers_30, e_X6_comers_31, e_X6_comers_32, e_X6_comers_35, e_X6_comers_37, e_X6_comers_38, e_X6_comers_41, e_X6_comers_42, e_X6_comers_43, e_X6_comers_45, e_X6_comers_46, e_X6_comers_47, e_X6_comers_48, e_X6_comers_51, e_X6_comers_54, e_X6_comers_55, g_6_17_5, g_6_21_5, g_6_28_5, nI_inc, if_neg c1, if_neg c2])
    (by
      intro x
      have e1 : ¬ nI m < nI m := nI_nlt (Nat.le_refl m) (by omega)
      simp (disch := first | exact xnl_i _ | exact xnl_r _ | exact xnl_u _ | exact xnl_n | exact zI_2 | exact zI_24 | assumption | omega) only [xbd_s, xpv_n, xpv_s, e_X6_comers_0, e_X6_comers_1, e_X6_comers_3, e_X6_comers_4, e_X6_comers_5, e_X6_comers_6, e_X6_comers_7, e_X6_comers_8, e_X6_comers_10, e_X6_comers_12, e_X6_comers_13, e_X6_comers_16, e_X6_comers_19, e_X6_comers_20, e_X6_comers_23, e_X6_comers_25, e_X6_comers_26, e_X6_comers_27, e_X6_comers_30, e_X6_comers_31, e_X6_comers_32, e_X6_comers_35, e_X6_comers_37, e_X6_comers_38, e_X6_comers_41, e_X6_comers_42, e_X6_comers_43, e_X6_comers_45, e_X6_comers_46, e_X6_comers_47, e_X6_comers_48, e_X6_comers_51, e_X6_comers_54, e_X6_comers_55, g_6_17_5, g_6_21_5, g_6_28_5, p0, e1, if_false])
  simp (disch := first | exact xnl_i _ | exact xnl_r _ | exact xnl_u _ | exact xnl_n | exact zI_2 | exact zI_24 | assumption | omega) only [xbd_s, xpv_n, xpv_s, e_X6_comers_0, e_X6_comers_1, e_X6_comers_3, e_X6_comers_4, e_X6_comers_5, e_X6_comers_6, e_X6_comers_7, e_X6_comers_8, e_X6_comers_12, e_X6_comers_13, e_X6_comers_16, e_X6_comers_19, e_X6_comers_20, e_X6_comers_23, e_X6_comers_25, e_X6_comers_26, e_X6_comers_27, e_X6_comers_30, e_X6_comers_31, e_X6_comers_32, e_X6_comers_35, e_X6_comers_37, e_X6_comers_38, e_X6_comers_41, e_X6_comers_42, e_X6_comers_43, e_X6_comers_45, e_X6_comers_46, e_X6_comers_47, e_X6_comers_48, e_X6_comers_51, e_X6_comers_54, e_X6_comers_55, g_6_17_5, g_6_21_5, g_6_28_5]
  exact L
end XLJ
