/-! PLACES -/
section XPL
variable {X : xS} {h : xH} {q : Nat}
theorem r_X0_fallBy {d t : Int32} : xR X m_X0_fallBy 0 [.ref q, .int d, .int t, xU] [] h = some (some (.int (fallS (nI 4) d t)), h) := by
  have e : fallS (nI 4) d t = if t - t / nI 2 * nI 2 = 0 then d / nI 2 else d - d / nI 2 := if_pos rfl
  rw [e]
  simp (disch := first | exact xnl_i _ | exact xnl_r _ | exact xnl_u _ | exact xnl_n | exact zI_2 | exact zI_24 | assumption | omega) only [xbd_s, xpv_n, xpv_s, e_X0_fallBy_0, e_X0_fallBy_1, e_X0_fallBy_2, e_X0_fallBy_3, e_X0_fallBy_4, e_X0_fallBy_5, e_X0_fallBy_6, e_X0_fallBy_7, e_X0_fallBy_10, e_X0_fallBy_11, e_X0_fallBy_14, e_X0_fallBy_15, e_X0_fallBy_16, e_X0_fallBy_17]
  split <;> rfl
theorem r_X1_fallBy {d t : Int32} : xR X m_X1_fallBy 0 [.ref q, .int d, .int t] [] h = some (some (.int (fallS (nI 5) d t)), h) := by
  have e : fallS (nI 5) d t = nI 0 := by unfold fallS; rw [if_neg (by decide), if_pos rfl]
  rw [e]
  simp (disch := first | exact xnl_i _ | exact xnl_r _ | exact xnl_u _ | exact xnl_n | exact zI_2 | exact zI_24 | assumption | omega) only [xbd_s, xpv_n, xpv_s, e_X1_fallBy_0, e_X1_fallBy_1]
theorem r_X2_fallBy {d t : Int32} : xR X m_X2_fallBy 0 [.ref q, .int d, .int t, xU] [] h = some (some (.int (fallS (nI 3) d t)), h) := by
  have e : fallS (nI 3) d t = if nI 5 < xday t then (if xday t < nI 18 then d else nI 2 * d) else nI 2 * d := by unfold fallS; rw [if_neg (by decide), if_neg (by decide), if_pos rfl]
  rw [e]
  unfold xday
  simp (disch := first | exact xnl_i _ | exact xnl_r _ | exact xnl_u _ | exact xnl_n | exact zI_2 | exact zI_24 | assumption | omega) only [xbd_s, xpv_n, xpv_s, e_X2_fallBy_0, e_X2_fallBy_1, e_X2_fallBy_3, e_X2_fallBy_4, e_X2_fallBy_5, e_X2_fallBy_6, e_X2_fallBy_7, e_X2_fallBy_10, e_X2_fallBy_11, e_X2_fallBy_13, e_X2_fallBy_16, e_X2_fallBy_17, e_X2_fallBy_18, e_X2_fallBy_19, e_X2_fallBy_22, e_X2_fallBy_23]
  repeat' split
  all_goals rfl
theorem r_X5_fallBy {so d t : Int32} (hs : so = nI 1 ∨ so = nI 2) : xR X m_X5_fallBy 0 [.ref q, .int d, .int t] [] h = some (some (.int (fallS so d t)), h) := by
  have e : fallS so d t = d := by unfold fallS; rcases hs with rfl | rfl <;> rw [if_neg (by decide), if_neg (by decide), if_neg (by decide)]
  rw [e]
  simp (disch := first | exact xnl_i _ | exact xnl_r _ | exact xnl_u _ | exact xnl_n | exact zI_2 | exact zI_24 | assumption | omega) only [xbd_s, xpv_n, xpv_s, e_X5_fallBy_0, e_X5_fallBy_1]
theorem r_X5_sunIn {so t : Int32} (hs : ¬ so = nI 2) : xR X m_X5_sunIn 0 [.ref q, .int t] [] h = some (some (.int (sunS so t)), h) := by
  have e : sunS so t = nI 0 := if_neg hs
  rw [e]
  simp (disch := first | exact xnl_i _ | exact xnl_r _ | exact xnl_u _ | exact xnl_n | exact zI_2 | exact zI_24 | assumption | omega) only [xbd_s, xpv_n, xpv_s, e_X5_sunIn_0, e_X5_sunIn_1]
theorem r_X10_sunIn {t : Int32} : xR X m_X10_sunIn 0 [.ref q, .int t, xU] [] h = some (some (.int (sunS (nI 2) t)), h) := by
  have e : sunS (nI 2) t = if xday t < nI 6 then nI 0 else if nI 17 < xday t then nI 0 else nI 1 := if_pos rfl
  rw [e]
  unfold xday
  simp (disch := first | exact xnl_i _ | exact xnl_r _ | exact xnl_u _ | exact xnl_n | exact zI_2 | exact zI_24 | assumption | omega) only [xbd_s, xpv_n, xpv_s, e_X10_sunIn_0, e_X10_sunIn_1, e_X10_sunIn_3, e_X10_sunIn_4, e_X10_sunIn_5, e_X10_sunIn_6, e_X10_sunIn_8, e_X10_sunIn_11, e_X10_sunIn_12, e_X10_sunIn_14, e_X10_sunIn_17, e_X10_sunIn_18, e_X10_sunIn_21, e_X10_sunIn_22]
  repeat' split
  all_goals rfl
theorem r_fall_97 {ci : Nat} {fs : List Value} {so d t : Int32} {K : List Value → xH → Option (Option Value × xH)} (hs : xSort ci so) : xcK X m_X3_fallAt (xcv 3 97) (some (.inl (ci, fs))) [.ref q, .int d, .int t] [] h K = K [.int (fallS so d t)] h := by
  rcases hs with ⟨rfl, rfl⟩ | ⟨rfl, rfl⟩ | ⟨rfl, rfl⟩ | ⟨rfl, rfl⟩ | ⟨rfl, rfl⟩
  · rw [c_X3_fallAt_97_4_0, r_X5_fallBy (Or.inl rfl)]; rfl
  · rw [c_X3_fallAt_97_9_0, r_X5_fallBy (Or.inr rfl)]; rfl
  · rw [c_X3_fallAt_97_2_0, r_X2_fallBy]; rfl
  · rw [c_X3_fallAt_97_0_0, r_X0_fallBy]; rfl
  · rw [c_X3_fallAt_97_1_0, r_X1_fallBy]; rfl
theorem r_fall_180 {ci : Nat} {fs : List Value} {so d t : Int32} {K : List Value → xH → Option (Option Value × xH)} (hs : xSort ci so) : xcK X m_X11_fall (xcv 11 180) (some (.inl (ci, fs))) [.ref q, .int d, .int t] [] h K = K [.int (fallS so d t)] h := by
  rcases hs with ⟨rfl, rfl⟩ | ⟨rfl, rfl⟩ | ⟨rfl, rfl⟩ | ⟨rfl, rfl⟩ | ⟨rfl, rfl⟩
  · rw [c_X11_fall_180_4_0, r_X5_fallBy (Or.inl rfl)]; rfl
  · rw [c_X11_fall_180_9_0, r_X5_fallBy (Or.inr rfl)]; rfl
  · rw [c_X11_fall_180_2_0, r_X2_fallBy]; rfl
  · rw [c_X11_fall_180_0_0, r_X0_fallBy]; rfl
  · rw [c_X11_fall_180_1_0, r_X1_fallBy]; rfl
theorem r_tell_180 {ci : Nat} {fs : List Value} {so d t : Int32} {t0 : Value} {K : List Value → xH → Option (Option Value × xH)} (hs : xSort ci so) : xcK X m_X11_wouldTell (xcv 11 180) (some (.inl (ci, fs))) [.ref q, .int d, .int t] [t0] h K = K [.int (fallS so d t), t0] h := by
  rcases hs with ⟨rfl, rfl⟩ | ⟨rfl, rfl⟩ | ⟨rfl, rfl⟩ | ⟨rfl, rfl⟩ | ⟨rfl, rfl⟩
  · rw [c_X11_wouldTell_180_4_1, r_X5_fallBy (Or.inl rfl)]; rfl
  · rw [c_X11_wouldTell_180_9_1, r_X5_fallBy (Or.inr rfl)]; rfl
  · rw [c_X11_wouldTell_180_2_1, r_X2_fallBy]; rfl
  · rw [c_X11_wouldTell_180_0_1, r_X0_fallBy]; rfl
  · rw [c_X11_wouldTell_180_1_1, r_X1_fallBy]; rfl
theorem r_sun_89 {ci : Nat} {fs : List Value} {so t : Int32} {t0 : Value} {K : List Value → xH → Option (Option Value × xH)} (hs : xSort ci so) : xcK X m_X3_fadedNext (xcv 3 89) (some (.inl (ci, fs))) [.ref q, .int t] [t0] h K = K [.int (sunS so t), t0] h := by
  rcases hs with ⟨rfl, rfl⟩ | ⟨rfl, rfl⟩ | ⟨rfl, rfl⟩ | ⟨rfl, rfl⟩ | ⟨rfl, rfl⟩
  · rw [c_X3_fadedNext_89_4_1, r_X5_sunIn (so := nI 1) (by decide)]; rfl
  · rw [c_X3_fadedNext_89_9_1, r_X10_sunIn]; rfl
  · rw [c_X3_fadedNext_89_2_1, r_X5_sunIn (so := nI 3) (by decide)]; rfl
  · rw [c_X3_fadedNext_89_0_1, r_X5_sunIn (so := nI 4) (by decide)]; rfl
  · rw [c_X3_fadedNext_89_1_1, r_X5_sunIn (so := nI 5) (by decide)]; rfl
theorem r_sun_184 {ci : Nat} {fs : List Value} {so t : Int32} {K : List Value → xH → Option (Option Value × xH)} (hs : xSort ci so) : xcK X m_X11_fall (xcv 11 184) (some (.inl (ci, fs))) [.ref q, .int t] [] h K = K [.int (sunS so t)] h := by
  rcases hs with ⟨rfl, rfl⟩ | ⟨rfl, rfl⟩ | ⟨rfl, rfl⟩ | ⟨rfl, rfl⟩ | ⟨rfl, rfl⟩
  · rw [c_X11_fall_184_4_0, r_X5_sunIn (so := nI 1) (by decide)]; rfl
  · rw [c_X11_fall_184_9_0, r_X10_sunIn]; rfl
  · rw [c_X11_fall_184_2_0, r_X5_sunIn (so := nI 3) (by decide)]; rfl
  · rw [c_X11_fall_184_0_0, r_X5_sunIn (so := nI 4) (by decide)]; rfl
  · rw [c_X11_fall_184_1_0, r_X5_sunIn (so := nI 5) (by decide)]; rfl
end XPL
