/-! the reference: feed, trace, count, moved, as -/
def mdB (w : Int64) (c : Nat) : Int32 := ((w >>> ((nI 8 * nI c).toInt64 &&& 63)) &&& 255).toInt32
def mdS (w : Int64) : Nat → Nat → (Nat → Int32) → (Nat → Int32)
  | 0, _, f => f
  | c + 1, t, f => mdS w c (t + 1) (upd f t (mdB w c))
theorem upd_upd {S : Nat → Int32} {k : Nat} {x y : Int32} : upd (upd S k x) k y = upd S k y := by
  funext j
  unfold upd
  split <;> rfl
theorem upd_id {S : Nat → Int32} {k : Nat} {x : Int32} (hS : S k = x) : upd S k x = S := by
  funext j
  unfold upd
  split
  · rename_i c
    rw [c, hS]
  · rfl
section XMW
variable {X : xS} {h : xH} {S : Nat → Int32} {nm : Int64} {A : Nat → Nat → Int32} {t n : Nat}
theorem m_feedB (x : Int32) (w : Int64) (hx : x < nI 1 ∨ nI 8 < x) : xR X m_X12_feed 0 [.ref 169, .long w, xU, .int x, xU] [] h = some (some (.int cBAD), h) := by
  have q := fun hh : xH => m_inF (X := X) (h := hh) (x := x) (lo := nI 1) (hi := nI 8) hx
  simp (disch := first | exact xnl_i _ | exact xnl_r _ | exact xnl_u _ | exact xnl_n | exact zI_2 | exact zI_24 | assumption | omega | (simp only [xset_len]; omega)) only [↓reduceIte, xbd_s, xpv_n, xpv_s, e_X12_feed_0, e_X12_feed_1, e_X12_feed_2, e_X12_feed_4, e_X12_feed_7, e_X12_feed_10, e_X12_feed_12, e_X12_feed_13, e_X12_feed_14, e_X12_feed_17, e_X12_feed_18, e_X12_feed_19, e_X12_feed_22, e_X12_feed_25, e_X12_feed_27, e_X12_feed_28, e_X12_feed_29, e_X12_feed_30, e_X12_feed_31, e_X12_feed_33, e_X12_feed_35, e_X12_feed_38, e_X12_feed_39, e_X12_feed_42, e_X12_feed_43, e_X12_feed_46, e_X12_feed_47, e_X12_feed_49, e_X12_feed_51, e_X12_feed_52, e_X12_feed_53, e_X12_feed_56, e_X12_feed_57, e_X12_feed_58, e_X12_feed_59, e_X12_feed_60, e_X12_feed_61, e_X12_feed_64, e_X12_feed_65, e_X12_feed_66, e_X12_feed_69, e_X12_feed_72, e_X12_feed_75, e_X12_feed_76, e_X12_feed_79, g_12_32_11, g_12_66_11, p_12_66_11, q]
theorem m_feedF (hM : xMB X h S nm A) (hS : S 2 = nI t) (w : Int64) (ht : t ≤ 400) (hn : 1 ≤ n) (hn2 : n ≤ 8) (hf : 400 < t + n) : xR X m_X12_feed 0 [.ref 169, .long w, xU, .int (nI n), xU] [] h = some (some (.int cFULL), h) := by
  have hc := hM.1
  rw [hS] at hc
  have q := fun hh : xH => m_inT (X := X) (h := hh) (x := nI n) (lo := nI 1) (hi := nI 8) (nI_nlt hn (by omega)) (nI_nlt hn2 (by omega))
  have e4 : nI 400 < nI (t + n) := nI_lt hf (by omega)
  simp (disch := first | exact xnl_i _ | exact xnl_r _ | exact xnl_u _ | exact xnl_n | exact zI_2 | exact zI_24 | assumption | omega | (simp only [xset_len]; omega)) only [↓reduceIte, xbd_s, xpv_n, xpv_s, e_X12_feed_0, e_X12_feed_1, e_X12_feed_2, e_X12_feed_4, e_X12_feed_7, e_X12_feed_10, e_X12_feed_12, e_X12_feed_13, e_X12_feed_14, e_X12_feed_17, e_X12_feed_18, e_X12_feed_19, e_X12_feed_22, e_X12_feed_25, e_X12_feed_27, e_X12_feed_28, e_X12_feed_29, e_X12_feed_30, e_X12_feed_31, e_X12_feed_33, e_X12_feed_35, e_X12_feed_38, e_X12_feed_39, e_X12_feed_42, e_X12_feed_43, e_X12_feed_46, e_X12_feed_47, e_X12_feed_49, e_X12_feed_51, e_X12_feed_52, e_X12_feed_53, e_X12_feed_56, e_X12_feed_57, e_X12_feed_58, e_X12_feed_59, e_X12_feed_60, e_X12_feed_61, e_X12_feed_64, e_X12_feed_65, e_X12_feed_66, e_X12_feed_69, e_X12_feed_72, e_X12_feed_75, e_X12_feed_76, e_X12_feed_79, g_12_32_11, g_12_66_11, p_12_66_11, hc, q, ne10, nI_add, if_pos e4]
theorem m_feedG (hM : xMB X h S nm A) (hS : S 2 = nI t) (w : Int64) (hn : 1 ≤ n) (hn2 : n ≤ 8) (hf : t + n ≤ 400) : ∃ h', xR X m_X12_feed 0 [.ref 169, .long w, xU, .int (nI n), xU] [] h = some (some (.int (nI (t + n))), h') ∧ xMB X h' (upd S 2 (nI (t + n))) nm (setA A 7 (mdS w n t (A 7))) ∧ xFr X inM h h' := by
  have q := fun hh : xH => m_inT (X := X) (h := hh) (x := nI n) (lo := nI 1) (hi := nI 8) (nI_nlt hn (by omega)) (nI_nlt hn2 (by omega))
  have e4 : ¬ nI 400 < nI (t + n) := nI_nlt hf (by omega)
  have L : ∀ c t f h, c ≤ n → t + c ≤ 400 → xMB X h (upd S 2 (nI t)) nm (setA A 7 f) → ∃ h', xR X m_X12_feed 33 [.ref 169, .long w, xU, .int (nI n), .int (nI c - nI 1)] [] h = some (some (.int (nI (t + c))), h') ∧ xMB X h' (upd S 2 (nI (t + c))) nm (setA A 7 (mdS w c t f)) ∧ xFr X inM h h' := by
    intro c
    induction c with
    | zero =>
      intro t f h _ _ hM
      have hc := hM.1
      have e5 : nI 0 - nI 1 < 0 := by decide
      exact ⟨h, by simp (disch := first | exact xnl_i _ | exact xnl_r _ | exact xnl_u _ | exact xnl_n | exact zI_2 | exact zI_24 | assumption | omega | (simp only [xset_len]; omega)) only [↓reduceIte, xbd_s, xpv_n, xpv_s, e_X12_feed_0, e_X12_feed_1, e_X12_feed_2, e_X12_feed_4, e_X12_feed_7, e_X12_feed_10, e_X12_feed_12, e_X12_feed_13, e_X12_feed_14, e_X12_feed_17, e_X12_feed_18, e_X12_feed_19, e_X12_feed_22, e_X12_feed_25, e_X12_feed_27, e_X12_feed_28, e_X12_feed_29, e_X12_feed_30, e_X12_feed_31, e_X12_feed_33, e_X12_feed_35, e_X12_feed_38, e_X12_feed_39, e_X12_feed_42, e_X12_feed_43, e_X12_feed_46, e_X12_feed_47, e_X12_feed_49, e_X12_feed_51, e_X12_feed_52, e_X12_feed_53, e_X12_feed_56, e_X12_feed_57, e_X12_feed_58, e_X12_feed_59, e_X12_feed_60, e_X12_feed_61, e_X12_feed_64, e_X12_feed_65, e_X12_feed_66, e_X12_feed_69, e_X12_feed_72, e_X12_feed_75, e_X12_feed_76, e_X12_feed_79, g_12_32_11, g_12_66_11, p_12_66_11, hc, if_pos e5, Nat.add_zero, upd_eq], hM, xFr_rfl⟩
    | succ c ih =>
      intro t f h hcn htc hM
      have hc := hM.1
      rw [upd_eq] at hc
      have a7 := hM.2.2.2.2.2.2.2.2.1
      rw [setA_eq] at a7
      have e5 : ¬ nI c < 0 := nI_pos (by omega)
      have hM1 := xMB_S (S' := upd S 2 (nI (t + 1))) (nm' := nm) (xMB_7 (f := upd f t (mdB w c)) hM)
      rw [setA_setA] at hM1
      have f1 : xFr X inM h _ := xFr_tr (xFr_set (a := 177) (e := .inr ((0, 400), .inl (upd f t (mdB w c)))) (by omega) ⟨by omega, by omega⟩) (xFr_set (a := 169) (e := xMc (upd S 2 (nI (t + 1))) nm) (by omega) ⟨by omega, by omega⟩)
      obtain ⟨h', q1, q2, q3⟩ := ih (t + 1) (upd f t (mdB w c)) _ (by omega) (by omega) hM1
      rw [show t + 1 + c = t + (c + 1) by omega] at q1 q2
      refine ⟨h', ?_, q2, xFr_tr f1 q3⟩
      rw [← q1, nI_sub1, e_X12_feed_33]
      simp (disch := first | exact xnl_i _ | exact xnl_r _ | exact xnl_u _ | exact xnl_n | exact zI_2 | exact zI_24 | assumption | omega | (simp only [xset_len]; omega)) only [↓reduceIte, xbd_s, xpv_n, xpv_s, e_X12_feed_0, e_X12_feed_1, e_X12_feed_2, e_X12_feed_4, e_X12_feed_7, e_X12_feed_10, e_X12_feed_12, e_X12_feed_13, e_X12_feed_14, e_X12_feed_17, e_X12_feed_18, e_X12_feed_19, e_X12_feed_22, e_X12_feed_25, e_X12_feed_27, e_X12_feed_28, e_X12_feed_29, e_X12_feed_30, e_X12_feed_31, e_X12_feed_35, e_X12_feed_38, e_X12_feed_39, e_X12_feed_42, e_X12_feed_43, e_X12_feed_46, e_X12_feed_47, e_X12_feed_49, e_X12_feed_51, e_X12_feed_52, e_X12_feed_53, e_X12_feed_56, e_X12_feed_57, e_X12_feed_58, e_X12_feed_59, e_X12_feed_60, e_X12_feed_61, e_X12_feed_64, e_X12_feed_65, e_X12_feed_66, e_X12_feed_69, e_X12_feed_72, e_X12_feed_75, e_X12_feed_76, e_X12_feed_79, g_12_32_11, g_12_66_11, p_12_66_11, hc, a7, if_neg e5, xl_i, xs_i, xg_ne, nI_inc, nI_m1]
      all_goals rfl
  obtain ⟨h', q1, q2, q3⟩ := L n t (A 7) h (Nat.le_refl n) hf (by rw [setA_id, upd_id hS]; exact hM)
  have hc := hM.1
  rw [hS] at hc
  refine ⟨h', ?_, q2, q3⟩
  rw [← q1]
  simp (disch := first | exact xnl_i _ | exact xnl_r _ | exact xnl_u _ | exact xnl_n | exact zI_2 | exact zI_24 | assumption | omega | (simp only [xset_len]; omega)) only [↓reduceIte, xbd_s, xpv_n, xpv_s, e_X12_feed_0, e_X12_feed_1, e_X12_feed_2, e_X12_feed_4, e_X12_feed_7, e_X12_feed_10, e_X12_feed_12, e_X12_feed_13, e_X12_feed_14, e_X12_feed_17, e_X12_feed_18, e_X12_feed_19, e_X12_feed_22, e_X12_feed_25, e_X12_feed_27, e_X12_feed_28, e_X12_feed_29, e_X12_feed_30, e_X12_feed_31, e_X12_feed_35, e_X12_feed_38, e_X12_feed_39, e_X12_feed_42, e_X12_feed_43, e_X12_feed_46, e_X12_feed_47, e_X12_feed_49, e_X12_feed_51, e_X12_feed_52, e_X12_feed_53, e_X12_feed_56, e_X12_feed_57, e_X12_feed_58, e_X12_feed_59, e_X12_feed_60, e_X12_feed_61, e_X12_feed_64, e_X12_feed_65, e_X12_feed_66, e_X12_feed_69, e_X12_feed_72, e_X12_feed_75, e_X12_feed_76, e_X12_feed_79, g_12_32_11, g_12_66_11, p_12_66_11, hc, q, ne10, nI_add, if_neg e4]
theorem m_trace (hM : xMB X h S nm A) {len : Nat} (hl : len ≤ 16) (hS : S 13 = nI len) (x : Int32) : xR X m_X12_trace 0 [.ref 169, .int x] [] h = some (some (.int (if x < 0 then xNO else if x < nI len then A 9 x.toNatClampNeg else xNO)), h) := by
  obtain ⟨hc, a0, a1, a2, a3, a4, a5, a6, a7, a8, a9⟩ := hM
  rw [hS] at hc
  have e1 : (nI len - nI 1).toInt = (len : Int) - 1 := by
    have := (show ∀ n, n ≤ 16 → (nI n - nI 1).toInt = (n : Int) - 1 by decide)
    exact this len hl
  by_cases c1 : x < 0
  · have q := fun hh : xH => m_inF (X := X) (h := hh) (x := x) (lo := 0) (hi := nI len - nI 1) (Or.inl c1)
    simp (disch := first | exact xnl_i _ | exact xnl_r _ | exact xnl_u _ | exact xnl_n | exact zI_2 | exact zI_24 | assumption | omega | (simp only [xset_len]; omega)) only [↓reduceIte, xbd_s, xpv_n, xpv_s, e_X12_trace_0, e_X12_trace_1, e_X12_trace_2, e_X12_trace_3, e_X12_trace_6, e_X12_trace_7, e_X12_trace_8, e_X12_trace_11, e_X12_trace_14, e_X12_trace_15, e_X12_trace_18, e_X12_trace_19, e_X12_trace_20, e_X12_trace_23, e_X12_trace_25, g_12_209_11, g_12_38_11, hc, z0, q, if_pos c1]
  · obtain ⟨k, hk, rfl⟩ := xb_toInt c1
    by_cases c2 : nI k < nI len
    · have c3 := c2
      rw [xlt_i, nI_toInt hk, nI_toInt (by omega)] at c3
      have q := fun hh : xH => m_inT (X := X) (h := hh) (x := nI k) (lo := 0) (hi := nI len - nI 1) c1 (by rw [xlt_i, e1, nI_toInt hk]; omega)
      have e : (nI k).toNatClampNeg = k := by
        have := nI_toInt hk
        unfold Int32.toNatClampNeg
        omega
      simp (disch := first | exact xnl_i _ | exact xnl_r _ | exact xnl_u _ | exact xnl_n | exact zI_2 | exact zI_24 | assumption | omega | (simp only [xset_len]; omega)) only [↓reduceIte, xbd_s, xpv_n, xpv_s, e_X12_trace_0, e_X12_trace_1, e_X12_trace_2, e_X12_trace_3, e_X12_trace_6, e_X12_trace_7, e_X12_trace_8, e_X12_trace_11, e_X12_trace_14, e_X12_trace_15, e_X12_trace_18, e_X12_trace_19, e_X12_trace_20, e_X12_trace_23, e_X12_trace_25, g_12_209_11, g_12_38_11, hc, a9, z0, q, ne10, xl_i, if_neg c1, if_pos c2, e]
    · have c3 := c2
      rw [xlt_i, nI_toInt hk, nI_toInt (by omega)] at c3
      have q := fun hh : xH => m_inF (X := X) (h := hh) (x := nI k) (lo := 0) (hi := nI len - nI 1) (Or.inr (by rw [xlt_i, e1, nI_toInt hk]; omega))
      simp (disch := first | exact xnl_i _ | exact xnl_r _ | exact xnl_u _ | exact xnl_n | exact zI_2 | exact zI_24 | assumption | omega | (simp only [xset_len]; omega)) only [↓reduceIte, xbd_s, xpv_n, xpv_s, e_X12_trace_0, e_X12_trace_1, e_X12_trace_2, e_X12_trace_3, e_X12_trace_6, e_X12_trace_7, e_X12_trace_8, e_X12_trace_11, e_X12_trace_14, e_X12_trace_15, e_X12_trace_18, e_X12_trace_19, e_X12_trace_20, e_X12_trace_23, e_X12_trace_25, g_12_209_11, g_12_38_11, hc, z0, q, if_neg c1, if_neg c2]
theorem m_outNow (hM : xMB X h S nm A) (hn : n ≤ 7) (hA : A 0 1 = nI n) : xR X m_X12_outNow 0 [.ref 169, xU, xU] [] h = some (some (.int (xfold (fun s x => x + if 0 < A 0 (47 + s) then nI 1 else nI 0) n (nI 0))), h) := by
  have hc := hM.1
  have a0 := hM.2.1
  have L := x_loop (fun k (y : Int32) => xR X m_X12_outNow 4 [.ref 169, .int y, .int (nI k)] [] h) (fun y => some (some (.int y), h)) (fun s x => x + if 0 < A 0 (47 + s) then nI 1 else nI 0) n (nI 0)
    (by
      intro k hk y
      have e1 : nI k < nI n := nI_lt hk (by omega)
      rw [e_X12_outNow_4]
      by_cases c : 0 < A 0 (47 + k)
      · simp (disch := first | exact xnl_i _ | exact xnl_r _ | exact xnl_u _ | exact xnl_n | exact zI_2 | exact zI_24 | assumption | omega | (simp only [xset_len]; omega)) only [↓reduceIte, xbd_s, xpv_n, xpv_s, e_X12_outNow_0, e_X12_outNow_1, e_X12_outNow_2, e_X12_outNow_3, e_X12_outNow_5, e_X12_outNow_6, e_X12_outNow_9, e_X12_outNow_10, e_X12_outNow_11, e_X12_outNow_14, e_X12_outNow_15, e_X12_outNow_16, e_X12_outNow_19, e_X12_outNow_21, e_X12_outNow_22, e_X12_outNow_23, e_X12_outNow_24, e_X12_outNow_27, e_X12_outNow_28, e_X12_outNow_31, e_X12_outNow_32, e_X12_outNow_33, e_X12_outNow_34, e_X12_outNow_37, e_X12_outNow_40, e_X12_outNow_41, g_12_7_11, hc, a0, hA, xl_i, if_pos e1, if_pos c, nI_add, nI_inc]
      · simp (disch := first | exact xnl_i _ | exact xnl_r _ | exact xnl_u _ | exact xnl_n | exact zI_2 | exact zI_24 | assumption | omega | (simp only [xset_len]; omega)) only [↓reduceIte, xbd_s, xpv_n, xpv_s, e_X12_outNow_0, e_X12_outNow_1, e_X12_outNow_2, e_X12_outNow_3, e_X12_outNow_5, e_X12_outNow_6, e_X12_outNow_9, e_X12_outNow_10, e_X12_outNow_11, e_X12_outNow_14, e_X12_outNow_15, e_X12_outNow_16, e_X12_outNow_19, e_X12_outNow_21, e_X12_outNow_22, e_X12_outNow_23, e_X12_outNow_24, e_X12_outNow_27, e_X12_outNow_28, e_X12_outNow_31, e_X12_outNow_32, e_X12_outNow_33, e_X12_outNow_34, e_X12_outNow_37, e_X12_outNow_40, e_X12_outNow_41, g_12_7_11, hc, a0, hA, xl_i, if_pos e1, if_neg c, nI_add, nI_inc])
    (by
      intro y
      have e1 : ¬ nI n < nI n := nI_nlt (Nat.le_refl n) (by omega)
      simp (disch := first | exact xnl_i _ | exact xnl_r _ | exact xnl_u _ | exact xnl_n | exact zI_2 | exact zI_24 | assumption | omega | (simp only [xset_len]; omega)) only [↓reduceIte, xbd_s, xpv_n, xpv_s, e_X12_outNow_0, e_X12_outNow_1, e_X12_outNow_2, e_X12_outNow_3, e_X12_outNow_4, e_X12_outNow_5, e_X12_outNow_6, e_X12_outNow_9, e_X12_outNow_10, e_X12_outNow_11, e_X12_outNow_14, e_X12_outNow_15, e_X12_outNow_16, e_X12_outNow_19, e_X12_outNow_21, e_X12_outNow_22, e_X12_outNow_23, e_X12_outNow_24, e_X12_outNow_27, e_X12_outNow_28, e_X12_outNow_31, e_X12_outNow_32, e_X12_outNow_33, e_X12_outNow_34, e_X12_outNow_37, e_X12_outNow_40, e_X12_outNow_41, g_12_7_11, hc, a0, hA, xl_i, if_neg e1])
  simp (disch := first | exact xnl_i _ | exact xnl_r _ | exact xnl_u _ | exact xnl_n | exact zI_2 | exact zI_24 | assumption | omega | (simp only [xset_len]; omega)) only [↓reduceIte, xbd_s, xpv_n, xpv_s, e_X12_outNow_0, e_X12_outNow_1, e_X12_outNow_2, e_X12_outNow_3, e_X12_outNow_5, e_X12_outNow_6, e_X12_outNow_9, e_X12_outNow_10, e_X12_outNow_11, e_X12_outNow_14, e_X12_outNow_15, e_X12_outNow_16, e_X12_outNow_19, e_X12_outNow_21, e_X12_outNow_22, e_X12_outNow_23, e_X12_outNow_24, e_X12_outNow_27, e_X12_outNow_28, e_X12_outNow_31, e_X12_outNow_32, e_X12_outNow_33, e_X12_outNow_34, e_X12_outNow_37, e_X12_outNow_40, e_X12_outNow_41, g_12_7_11]
  exact L
theorem m_moved (hM : xMB X h S nm A) (hn : n ≤ 7) (hA : A 0 1 = nI n) (hA0 : A 0 0 = nI 1) : xR X m_X12_moved 0 [.ref 169, xU, xU] [] h = some (some (.int (xfold (fun s x => if A 0 (33 + s) = nI s then x else x ||| (nI 1 <<< (nI s &&& 31))) n (nI 0))), h) := by
  have q := m_isLibrary hM
  rw [if_pos hA0, z1] at q
  have hc := hM.1
  have a0 := hM.2.1
  have L := x_loop (fun k (y : Int32) => xR X m_X12_moved 14 [.ref 169, .int y, .int (nI k)] [] h) (fun y => some (some (.int y), h)) (fun s x => if A 0 (33 + s) = nI s then x else x ||| (nI 1 <<< (nI s &&& 31))) n (nI 0)
    (by
      intro k hk y
      have e1 : nI k < nI n := nI_lt hk (by omega)
      rw [e_X12_moved_14]
      by_cases c : A 0 (33 + k) = nI k
      · simp (disch := first | exact xnl_i _ | exact xnl_r _ | exact xnl_u _ | exact xnl_n | exact zI_2 | exact zI_24 | assumption | omega | (simp only [xset_len]; omega)) only [↓reduceIte, xbd_s, xpv_n, xpv_s, e_X12_moved_0, e_X12_moved_1, c_X12_moved_149_11_0, e_X12_moved_4, e_X12_moved_7, e_X12_moved_9, e_X12_moved_10, e_X12_moved_11, e_X12_moved_12, e_X12_moved_13, e_X12_moved_15, e_X12_moved_16, e_X12_moved_19, e_X12_moved_20, e_X12_moved_21, e_X12_moved_24, e_X12_moved_25, e_X12_moved_26, e_X12_moved_29, e_X12_moved_31, e_X12_moved_32, e_X12_moved_33, e_X12_moved_34, e_X12_moved_35, e_X12_moved_38, e_X12_moved_39, e_X12_moved_42, e_X12_moved_43, e_X12_moved_44, e_X12_moved_45, e_X12_moved_46, e_X12_moved_47, e_X12_moved_50, e_X12_moved_53, e_X12_moved_54, g_12_7_11, hc, a0, hA, xl_i, if_pos e1, if_pos c, nI_add, nI_inc, z0, Int32.or_zero]
      · simp (disch := first | exact xnl_i _ | exact xnl_r _ | exact xnl_u _ | exact xnl_n | exact zI_2 | exact zI_24 | assumption | omega | (simp only [xset_len]; omega)) only [↓reduceIte, xbd_s, xpv_n, xpv_s, e_X12_moved_0, e_X12_moved_1, c_X12_moved_149_11_0, e_X12_moved_4, e_X12_moved_7, e_X12_moved_9, e_X12_moved_10, e_X12_moved_11, e_X12_moved_12, e_X12_moved_13, e_X12_moved_15, e_X12_moved_16, e_X12_moved_19, e_X12_moved_20, e_X12_moved_21, e_X12_moved_24, e_X12_moved_25, e_X12_moved_26, e_X12_moved_29, e_X12_moved_31, e_X12_moved_32, e_X12_moved_33, e_X12_moved_34, e_X12_moved_35, e_X12_moved_38, e_X12_moved_39, e_X12_moved_42, e_X12_moved_43, e_X12_moved_44, e_X12_moved_45, e_X12_moved_46, e_X12_moved_47, e_X12_moved_50, e_X12_moved_53, e_X12_moved_54, g_12_7_11, hc, a0, hA, xl_i, if_pos e1, if_neg c, nI_add, nI_inc])
    (by
      intro y
      have e1 : ¬ nI n < nI n := nI_nlt (Nat.le_refl n) (by omega)
      simp (disch := first | exact xnl_i _ | exact xnl_r _ | exact xnl_u _ | exact xnl_n | exact zI_2 | exact zI_24 | assumption | omega | (simp only [xset_len]; omega)) only [↓reduceIte, xbd_s, xpv_n, xpv_s, e_X12_moved_0, e_X12_moved_1, c_X12_moved_149_11_0, e_X12_moved_4, e_X12_moved_7, e_X12_moved_9, e_X12_moved_10, e_X12_moved_11, e_X12_moved_12, e_X12_moved_13, e_X12_moved_14, e_X12_moved_15, e_X12_moved_16, e_X12_moved_19, e_X12_moved_20, e_X12_moved_21, e_X12_moved_24, e_X12_moved_25, e_X12_moved_26, e_X12_moved_29, e_X12_moved_31, e_X12_moved_32, e_X12_moved_33, e_X12_moved_34, e_X12_moved_35, e_X12_moved_38, e_X12_moved_39, e_X12_moved_42, e_X12_moved_43, e_X12_moved_44, e_X12_moved_45, e_X12_moved_46, e_X12_moved_47, e_X12_moved_50, e_X12_moved_53, e_X12_moved_54, g_12_7_11, hc, a0, hA, xl_i, if_neg e1])
  simp (disch := first | exact xnl_i _ | exact xnl_r _ | exact xnl_u _ | exact xnl_n | exact zI_2 | exact zI_24 | assumption | omega | (simp only [xset_len]; omega)) only [↓reduceIte, xbd_s, xpv_n, xpv_s, e_X12_moved_0, e_X12_moved_1, c_X12_moved_149_11_0, e_X12_moved_4, e_X12_moved_7, e_X12_moved_9, e_X12_moved_10, e_X12_moved_11, e_X12_moved_12, e_X12_moved_13, e_X12_moved_15, e_X12_moved_16, e_X12_moved_19, e_X12_moved_20, e_X12_moved_21, e_X12_moved_24, e_X12_moved_25, e_X12_moved_26, e_X12_moved_29, e_X12_moved_31, e_X12_moved_32, e_X12_moved_33, e_X12_moved_34, e_X12_moved_35, e_X12_moved_38, e_X12_moved_39, e_X12_moved_42, e_X12_moved_43, e_X12_moved_44, e_X12_moved_45, e_X12_moved_46, e_X12_moved_47, e_X12_moved_50, e_X12_moved_53, e_X12_moved_54, g_12_7_11, hc, q, ne10]
  exact L
theorem m_isA (so w : Int32) (hw : ∃ j, j ≤ 5 ∧ w = nI j) (hso : ∃ t, 1 ≤ t ∧ t ≤ 5 ∧ so = nI t) : xR X m_X12_isA 0 [.int so, .int w] [] h = some (some (.int (kdS so w)), h) := by
  obtain ⟨j, hj, rfl⟩ := hw
  obtain ⟨t, h1, h2, rfl⟩ := hso
  have q : ∀ hh, xR X m_X12_in 0 [.int (nI t), .int (nI 2), .int (nI 3)] [] hh = some (some (.int (if nI t = nI 2 then nI 1 else if nI t = nI 3 then nI 1 else nI 0)), hh) := by
    intro hh
    have t3 : t = 1 ∨ t = 2 ∨ t = 3 ∨ t = 4 ∨ t = 5 := by omega
    rcases t3 with rfl | rfl | rfl | rfl | rfl
    · exact m_inF (Or.inl (by decide))
    · exact m_inT (by decide) (by decide)
    · exact m_inT (by decide) (by decide)
    · exact m_inF (Or.inr (by decide))
    · exact m_inF (Or.inr (by decide))
  unfold kdS
  by_cases c0 : nI j = nI 0
  · have c0' : nI j = 0 := c0
    rw [if_pos c0]
    simp (disch := first | exact xnl_i _ | exact xnl_r _ | exact xnl_u _ | exact xnl_n | exact zI_2 | exact zI_24 | assumption | omega | (simp only [xset_len]; omega)) only [↓reduceIte, xbd_s, xpv_n, xpv_s, e_X12_isA_0, e_X12_isA_1, e_X12_isA_4, e_X12_isA_5, e_X12_isA_6, e_X12_isA_9, e_X12_isA_10, e_X12_isA_11, e_X12_isA_14, e_X12_isA_15, e_X12_isA_16, e_X12_isA_17, e_X12_isA_20, e_X12_isA_23, e_X12_isA_24, e_X12_isA_25, e_X12_isA_28, e_X12_isA_29, e_X12_isA_30, e_X12_isA_33, e_X12_isA_34, e_X12_isA_37, e_X12_isA_38, e_X12_isA_38_0, e_X12_isA_38_1, if_pos c0']
  have c0' : ¬ nI j = 0 := c0
  rw [if_neg c0]
  by_cases c1 : nI t = nI j
  · rw [if_pos c1]
    simp (disch := first | exact xnl_i _ | exact xnl_r _ | exact xnl_u _ | exact xnl_n | exact zI_2 | exact zI_24 | assumption | omega | (simp only [xset_len]; omega)) only [↓reduceIte, xbd_s, xpv_n, xpv_s, e_X12_isA_0, e_X12_isA_1, e_X12_isA_4, e_X12_isA_5, e_X12_isA_6, e_X12_isA_9, e_X12_isA_10, e_X12_isA_11, e_X12_isA_14, e_X12_isA_15, e_X12_isA_16, e_X12_isA_17, e_X12_isA_20, e_X12_isA_23, e_X12_isA_24, e_X12_isA_25, e_X12_isA_28, e_X12_isA_29, e_X12_isA_30, e_X12_isA_33, e_X12_isA_34, e_X12_isA_37, e_X12_isA_38, e_X12_isA_38_0, e_X12_isA_38_1, if_neg c0', if_pos c1]
  rw [if_neg c1]
  by_cases c2 : nI j = nI 1
  · have c3 : ¬ nI j = nI 4 := by rw [c2]; decide
    rw [if_pos c2]
    by_cases c4 : nI t = nI 2
    · rw [if_pos c4] at q
      rw [if_pos c4]
      simp (disch := first | exact xnl_i _ | exact xnl_r _ | exact xnl_u _ | exact xnl_n | exact zI_2 | exact zI_24 | assumption | omega | (simp only [xset_len]; omega)) only [↓reduceIte, xbd_s, xpv_n, xpv_s, e_X12_isA_0, e_X12_isA_1, e_X12_isA_4, e_X12_isA_5, e_X12_isA_6, e_X12_isA_9, e_X12_isA_10, e_X12_isA_11, e_X12_isA_14, e_X12_isA_15, e_X12_isA_16, e_X12_isA_17, e_X12_isA_20, e_X12_isA_23, e_X12_isA_24, e_X12_isA_25, e_X12_isA_28, e_X12_isA_29, e_X12_isA_30, e_X12_isA_33, e_X12_isA_34, e_X12_isA_37, e_X12_isA_38, e_X12_isA_38_0, e_X12_isA_38_1, if_neg c0', if_neg c1, if_pos c2, q, zI_1]
    rw [if_neg c4] at q
    rw [if_neg c4]
    by_cases c5 : nI t = nI 3
    · rw [if_pos c5] at q
      rw [if_pos c5]
      simp (disch := first | exact xnl_i _ | exact xnl_r _ | exact xnl_u _ | exact xnl_n | exact zI_2 | exact zI_24 | assumption | omega | (simp only [xset_len]; omega)) only [↓reduceIte, xbd_s, xpv_n, xpv_s, e_X12_isA_0, e_X12_isA_1, e_X12_isA_4, e_X12_isA_5, e_X12_isA_6, e_X12_isA_9, e_X12_isA_10, e_X12_isA_11, e_X12_isA_14, e_X12_isA_15, e_X12_isA_16, e_X12_isA_17, e_X12_isA_20, e_X12_isA_23, e_X12_isA_24, e_X12_isA_25, e_X12_isA_28, e_X12_isA_29, e_X12_isA_30, e_X12_isA_33, e_X12_isA_34, e_X12_isA_37, e_X12_isA_38, e_X12_isA_38_0, e_X12_isA_38_1, if_neg c0', if_neg c1, if_pos c2, q, zI_1]
    · rw [if_neg c5] at q
      rw [if_neg c5]
      have c6 : nI 0 = 0 := rfl
      simp (disch := first | exact xnl_i _ | exact xnl_r _ | exact xnl_u _ | exact xnl_n | exact zI_2 | exact zI_24 | assumption | omega | (simp only [xset_len]; omega)) only [↓reduceIte, xbd_s, xpv_n, xpv_s, e_X12_isA_0, e_X12_isA_1, e_X12_isA_4, e_X12_isA_5, e_X12_isA_6, e_X12_isA_9, e_X12_isA_10, e_X12_isA_11, e_X12_isA_14, e_X12_isA_15, e_X12_isA_16, e_X12_isA_17, e_X12_isA_20, e_X12_isA_23, e_X12_isA_24, e_X12_isA_25, e_X12_isA_28, e_X12_isA_29, e_X12_isA_30, e_X12_isA_33, e_X12_isA_34, e_X12_isA_37, e_X12_isA_38, e_X12_isA_38_0, e_X12_isA_38_1, if_neg c0', if_neg c1, if_pos c2, q, if_pos c6, if_neg c3]
  rw [if_neg c2]
  by_cases c3 : nI j = nI 4
  · rw [if_pos c3]
    by_cases c4 : nI t = nI 5
    · rw [if_pos c4]
      simp (disch := first | exact xnl_i _ | exact xnl_r _ | exact xnl_u _ | exact xnl_n | exact zI_2 | exact zI_24 | assumption | omega | (simp only [xset_len]; omega)) only [↓reduceIte, xbd_s, xpv_n, xpv_s, e_X12_isA_0, e_X12_isA_1, e_X12_isA_4, e_X12_isA_5, e_X12_isA_6, e_X12_isA_9, e_X12_isA_10, e_X12_isA_11, e_X12_isA_14, e_X12_isA_15, e_X12_isA_16, e_X12_isA_17, e_X12_isA_20, e_X12_isA_23, e_X12_isA_24, e_X12_isA_25, e_X12_isA_28, e_X12_isA_29, e_X12_isA_30, e_X12_isA_33, e_X12_isA_34, e_X12_isA_37, e_X12_isA_38, e_X12_isA_38_0, e_X12_isA_38_1, if_neg c0', if_neg c1, if_neg c2, if_pos c3, if_pos c4]
    · rw [if_neg c4]
      simp (disch := first | exact xnl_i _ | exact xnl_r _ | exact xnl_u _ | exact xnl_n | exact zI_2 | exact zI_24 | assumption | omega | (simp only [xset_len]; omega)) only [↓reduceIte, xbd_s, xpv_n, xpv_s, e_X12_isA_0, e_X12_isA_1, e_X12_isA_4, e_X12_isA_5, e_X12_isA_6, e_X12_isA_9, e_X12_isA_10, e_X12_isA_11, e_X12_isA_14, e_X12_isA_15, e_X12_isA_16, e_X12_isA_17, e_X12_isA_20, e_X12_isA_23, e_X12_isA_24, e_X12_isA_25, e_X12_isA_28, e_X12_isA_29, e_X12_isA_30, e_X12_isA_33, e_X12_isA_34, e_X12_isA_37, e_X12_isA_38, e_X12_isA_38_0, e_X12_isA_38_1, if_neg c0', if_neg c1, if_neg c2, if_pos c3, if_neg c4]
  · rw [if_neg c3]
    simp (disch := first | exact xnl_i _ | exact xnl_r _ | exact xnl_u _ | exact xnl_n | exact zI_2 | exact zI_24 | assumption | omega | (simp only [xset_len]; omega)) only [↓reduceIte, xbd_s, xpv_n, xpv_s, e_X12_isA_0, e_X12_isA_1, e_X12_isA_4, e_X12_isA_5, e_X12_isA_6, e_X12_isA_9, e_X12_isA_10, e_X12_isA_11, e_X12_isA_14, e_X12_isA_15, e_X12_isA_16, e_X12_isA_17, e_X12_isA_20, e_X12_isA_23, e_X12_isA_24, e_X12_isA_25, e_X12_isA_28, e_X12_isA_29, e_X12_isA_30, e_X12_isA_33, e_X12_isA_34, e_X12_isA_37, e_X12_isA_38, e_X12_isA_38_0, e_X12_isA_38_1, if_neg c0', if_neg c1, if_neg c2, if_neg c3]
end XMW
