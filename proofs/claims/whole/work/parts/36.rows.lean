/-! ROWS -/
theorem upd_eq {f : Nat → Int32} {k : Nat} {x : Int32} : upd f k x k = x := by unfold upd; exact if_pos rfl
theorem upd_ne {f : Nat → Int32} {k j : Nat} {x : Int32} (h : j ≠ k) : upd f k x j = f j := by unfold upd; exact if_neg h
theorem fill_all {x : Int32} {n : Nat} (f : Nat → Int32) : ∀ j, j < n → xfold (fun k y => upd y k x) n f j = x := by
  induction n with
  | zero => intro j hj; omega
  | succ n ih =>
    intro j hj
    show upd (xfold (fun k y => upd y k x) n f) n x j = x
    by_cases e : j = n
    · rw [e]; exact upd_eq
    · rw [upd_ne e]; exact ih j (by omega)
section XRO
variable {X : xS} {h : xH}
theorem r_fill {a N : Nat} {f : Nat → Int32} {x : Int32} (ha : 16 ≤ a) (hN : N < 2 ^ 31) (hf : xget X h a = some (.inr ((0, N), .inl f))) : ∃ h' f', xR X m_J7_fill_53178 0 [.ref a, .int x, xU, xU] [] h = some (none, h') ∧ xget X h' a = some (.inr ((0, N), .inl f')) ∧ (∀ j, j < N → f' j = x) ∧ xFr X (fun c => c = a) h h' := by
  obtain ⟨h1, e1, i1, f1⟩ := x_loopH (X := X) (A := fun c => c = a) (fun j (y : Nat → Int32) h => xR X m_J7_fill_53178 5 [.ref a, .int x, .int (nI j), .int (nI N)] [] h) (fun y h => xget X h a = some (.inr ((0, N), .inl y))) (fun k y => upd y k x) N (by
    intro j hj y h hI
    have lv := xg_live ha hI
    have e1 : nI j < nI N := nI_lt hj hN
    refine ⟨_, ?_, xg_same (h := h) (e := .inr ((0, N), .inl (upd y j x))) ha lv, xFr_set ha rfl⟩
    rw [e_J7_fill_53178_5]
    simp (disch := first | exact xnl_i _ | exact xnl_r _ | exact xnl_u _ | exact xnl_n | exact zI_2 | exact zI_24 | assumption | omega | (simp only [xset_len]; omega)) only [↓reduceIte, xbd_s, xpv_n, xpv_s, e_J7_fill_53178_0, e_J7_fill_53178_1, e_J7_fill_53178_2, e_J7_fill_53178_3, e_J7_fill_53178_4, e_J7_fill_53178_6, e_J7_fill_53178_7, e_J7_fill_53178_10, e_J7_fill_53178_11, e_J7_fill_53178_12, e_J7_fill_53178_13, e_J7_fill_53178_14, e_J7_fill_53178_17, e_J7_fill_53178_20, hI, e1, if_true, xs_i, nI_inc]) f h hf
  refine ⟨h1, _, ?_, i1, fill_all f, f1⟩
  have e2 : ¬ nI N < nI N := nI_nlt (Nat.le_refl N) hN
  have h05 : 0 ≤ 5 := by omega
  rw [e_J7_fill_53178_0, e_J7_fill_53178_1 _ _ _ _ (xnl_i _), e_J7_fill_53178_2, e_J7_fill_53178_3, hf, xn_K h05, e_J7_fill_53178_4 _ _ _ _ (xnl_i _)]
  refine e1.trans ?_
  simp (disch := first | exact xnl_i _ | exact xnl_r _ | exact xnl_u _ | exact xnl_n | exact zI_2 | exact zI_24 | assumption | omega | (simp only [xset_len]; omega)) only [↓reduceIte, xbd_s, xpv_n, xpv_s, e_J7_fill_53178_0, e_J7_fill_53178_1, e_J7_fill_53178_2, e_J7_fill_53178_3, e_J7_fill_53178_4, e_J7_fill_53178_5, e_J7_fill_53178_6, e_J7_fill_53178_7, e_J7_fill_53178_10, e_J7_fill_53178_11, e_J7_fill_53178_12, e_J7_fill_53178_13, e_J7_fill_53178_14, e_J7_fill_53178_17, e_J7_fill_53178_20, e2, if_false]
def xRW (X : xS) (h : xH) (it : Nat → Nat → Int32) (la si : Nat → Int32) : Prop :=
  xget X h 17 = some (.inl (7, [.ref 18, .ref 27, .ref 28])) ∧ (∃ g, xget X h 18 = some (.inr ((3, 8), .inr g)) ∧ ∀ r, r < 8 → g r = some (19 + r)) ∧ xget X h 27 = some (.inr ((0, 8), .inl la)) ∧ xget X h 28 = some (.inr ((0, 8), .inl si)) ∧ ∀ r, r < 8 → xget X h (19 + r) = some (.inr ((0, 40), .inl (it r)))
def wiS (sz i n : Int32) : Int32 := if i < 0 then nI 0 else if n < 0 then nI 0 else if sz - n < i then nI 0 else nI 1
def fiA (sz i n : Int32) : Int32 := if sz < 0 then nI 1 else if wiS sz i n = 0 then nI 2 else nI 0
variable {it : Nat → Nat → Int32} {la si : Nat → Int32}
theorem r_isRow {q : Nat} (x : Int32) : xR X m_X8_isRow 0 [.ref q, .int x] [] h = some (some (.int (if x < 0 then nI 0 else if x < nI 8 then nI 1 else nI 0)), h) := by
  simp (disch := first | exact xnl_i _ | exact xnl_r _ | exact xnl_u _ | exact xnl_n | exact zI_2 | exact zI_24 | assumption | omega | (simp only [xset_len]; omega)) only [↓reduceIte, xbd_s, xpv_n, xpv_s, e_X8_isRow_0, e_X8_isRow_1, e_X8_isRow_4, e_X8_isRow_5, e_X8_isRow_7, e_X8_isRow_10, e_X8_isRow_11, e_X8_isRow_14, e_X8_isRow_15, e_X8_isRow_15_0, e_X8_isRow_15_1]
  repeat' split
  all_goals rfl
theorem r_isMissing (hR : xRW X h it la si) {r : Nat} (hr : r < 8) : xR X m_X8_isMissing 0 [.ref 17, .int (nI r)] [] h = some (some (.int (if si r < 0 then nI 1 else nI 0)), h) := by
  obtain ⟨r0, ⟨g, r1, rg⟩, r2, r3, r4⟩ := hR
  simp (disch := first | exact xnl_i _ | exact xnl_r _ | exact xnl_u _ | exact xnl_n | exact zI_2 | exact zI_24 | assumption | omega | (simp only [xset_len]; omega)) only [↓reduceIte, xbd_s, xpv_n, xpv_s, e_X8_isMissing_0, e_X8_isMissing_1, e_X8_isMissing_4, e_X8_isMissing_5, e_X8_isMissing_6, e_X8_isMissing_9, e_X8_isMissing_10, e_X8_isMissing_13, e_X8_isMissing_14, e_X8_isMissing_14_0, e_X8_isMissing_14_1, g_8_20_7, r0, r3, xl_i]
  split
  all_goals rfl
theorem r_howMany (hR : xRW X h it la si) : xR X m_X8_howMany 0 [.ref 17, xU, xU] [] h = some (some (.int (xfold (fun r x => x + if si r < 0 then nI 0 else nI 1) 8 (nI 0))), h) := by
  have L := x_loop (fun j x => xR X m_X8_howMany 4 [.ref 17, .int x, .int (nI j)] [] h) (fun x => some (some (.int x), h)) (fun r x => x + if si r < 0 then nI 0 else nI 1) 8 (nI 0)
    (by
      intro j hj x
      have e1 : nI j < nI 8 := nI_lt hj (by omega)
      have q2 := r_isMissing hR hj
      have l0 := hR.1
      rw [e_X8_howMany_4]
      simp (disch := first | exact xnl_i _ | exact xnl_r _ | exact xnl_u _ | exact xnl_n | exact zI_2 | exact zI_24 | assumption | omega | (simp only [xset_len]; omega)) only [↓reduceIte, xbd_s, xpv_n, xpv_s, e_X8_howMany_0, e_X8_howMany_1, e_X8_howMany_2, e_X8_howMany_3, e_X8_howMany_5, e_X8_howMany_7, e_X8_howMany_10, e_X8_howMany_11, e_X8_howMany_12, e_X8_howMany_13, c_X8_howMany_29_7_1, e_X8_howMany_16, e_X8_howMany_19, e_X8_howMany_20, e_X8_howMany_23, e_X8_howMany_24, e_X8_howMany_25, e_X8_howMany_26, e_X8_howMany_29, e_X8_howMany_32, e_X8_howMany_33, l0, q2, e1, if_true, nI_inc]
      by_cases c : si j < 0
      · simp (disch := first | exact xnl_i _ | exact xnl_r _ | exact xnl_u _ | exact xnl_n | exact zI_2 | exact zI_24 | assumption | omega | (simp only [xset_len]; omega)) only [↓reduceIte, xbd_s, xpv_n, xpv_s, e_X8_howMany_0, e_X8_howMany_1, e_X8_howMany_2, e_X8_howMany_3, e_X8_howMany_5, e_X8_howMany_7, e_X8_howMany_10, e_X8_howMany_11, e_X8_howMany_12, e_X8_howMany_13, c_X8_howMany_29_7_1, e_X8_howMany_16, e_X8_howMany_19, e_X8_howMany_20, e_X8_howMany_23, e_X8_howMany_24, e_X8_howMany_25, e_X8_howMany_26, e_X8_howMany_29, e_X8_howMany_32, e_X8_howMany_33, if_pos c, zI_1, if_false, nI_inc]
      · have e0 : nI 0 = 0 := rfl
        simp (disch := first | exact xnl_i _ | exact xnl_r _ | exact xnl_u _ | exact xnl_n | exact zI_2 | exact zI_24 | assumption | omega | (simp only [xset_len]; omega)) only [↓reduceIte, xbd_s, xpv_n, xpv_s, e_X8_howMany_0, e_X8_howMany_1, e_X8_howMany_2, e_X8_howMany_3, e_X8_howMany_5, e_X8_howMany_7, e_X8_howMany_10, e_X8_howMany_11, e_X8_howMany_12, e_X8_howMany_13, c_X8_howMany_29_7_1, e_X8_howMany_16, e_X8_howMany_19, e_X8_howMany_20, e_X8_howMany_23, e_X8_howMany_24, e_X8_howMany_25, e_X8_howMany_26, e_X8_howMany_29, e_X8_howMany_32, e_X8_howMany_33, if_neg c, e0, if_true, nI_inc])
    (by
      intro x
      have e1 : ¬ nI 8 < nI 8 := by decide
      simp (disch := first | exact xnl_i _ | exact xnl_r _ | exact xnl_u _ | exact xnl_n | exact zI_2 | exact zI_24 | assumption | omega | (simp only [xset_len]; omega)) only [↓reduceIte, xbd_s, xpv_n, xpv_s, e_X8_howMany_0, e_X8_howMany_1, e_X8_howMany_2, e_X8_howMany_3, e_X8_howMany_4, e_X8_howMany_5, e_X8_howMany_7, e_X8_howMany_10, e_X8_howMany_11, e_X8_howMany_12, e_X8_howMany_13, c_X8_howMany_29_7_1, e_X8_howMany_16, e_X8_howMany_19, e_X8_howMany_20, e_X8_howMany_23, e_X8_howMany_24, e_X8_howMany_25, e_X8_howMany_26, e_X8_howMany_29, e_X8_howMany_32, e_X8_howMany_33, e1, if_false])
  simp (disch := first | exact xnl_i _ | exact xnl_r _ | exact xnl_u _ | exact xnl_n | exact zI_2 | exact zI_24 | assumption | omega | (simp only [xset_len]; omega)) only [↓reduceIte, xbd_s, xpv_n, xpv_s, e_X8_howMany_0, e_X8_howMany_1, e_X8_howMany_2, e_X8_howMany_3, e_X8_howMany_5, e_X8_howMany_7, e_X8_howMany_10, e_X8_howMany_11, e_X8_howMany_12, e_X8_howMany_13, c_X8_howMany_29_7_1, e_X8_howMany_16, e_X8_howMany_19, e_X8_howMany_20, e_X8_howMany_23, e_X8_howMany_24, e_X8_howMany_25, e_X8_howMany_26, e_X8_howMany_29, e_X8_howMany_32, e_X8_howMany_33]
  exact L
theorem r_isWithin (hR : xRW X h it la si) {r : Nat} (hr : r < 8) (i n : Int32) : xR X m_X8_isWithin 0 [.ref 17, .int (nI r), .int i, .int n] [] h = some (some (.int (wiS (si r) i n)), h) := by
  obtain ⟨r0, ⟨g, r1, rg⟩, r2, r3, r4⟩ := hR
  simp (disch := first | exact xnl_i _ | exact xnl_r _ | exact xnl_u _ | exact xnl_n | exact zI_2 | exact zI_24 | assumption | omega | (simp only [xset_len]; omega)) only [↓reduceIte, xbd_s, xpv_n, xpv_s, e_X8_isWithin_0, e_X8_isWithin_1, e_X8_isWithin_4, e_X8_isWithin_5, e_X8_isWithin_8, e_X8_isWithin_9, e_X8_isWithin_10, e_X8_isWithin_13, e_X8_isWithin_14, e_X8_isWithin_15, e_X8_isWithin_16, e_X8_isWithin_17, e_X8_isWithin_20, e_X8_isWithin_21, e_X8_isWithin_24, e_X8_isWithin_25, e_X8_isWithin_25_0, e_X8_isWithin_25_1, g_8_20_7, r0, r3, xl_i]
  unfold wiS
  repeat' split
  all_goals rfl
theorem r_findingAt (hR : xRW X h it la si) {r : Nat} (hr : r < 8) (i n : Int32) : xR X m_X8_findingAt 0 [.ref 17, .int (nI r), .int i, .int n] [] h = some (some (.int (fiA (si r) i n)), h) := by
  have q1 := r_isMissing hR hr
  have q2 := r_isWithin hR hr i n
  obtain ⟨r0, ⟨g, r1, rg⟩, r2, r3, r4⟩ := hR
  simp (disch := first | exact xnl_i _ | exact xnl_r _ | exact xnl_u _ | exact xnl_n | exact zI_2 | exact zI_24 | assumption | omega | (simp only [xset_len]; omega)) only [↓reduceIte, xbd_s, xpv_n, xpv_s, e_X8_findingAt_0, e_X8_findingAt_1, e_X8_findingAt_2, c_X8_findingAt_29_7_0, c_X8_findingAt_33_7_0, e_X8_findingAt_5, e_X8_findingAt_8, e_X8_findingAt_9, e_X8_findingAt_10, e_X8_findingAt_11, e_X8_findingAt_12, e_X8_findingAt_13, e_X8_findingAt_14, e_X8_findingAt_17, e_X8_findingAt_20, e_X8_findingAt_21, e_X8_findingAt_24, e_X8_findingAt_25, r0, q1, q2]
  unfold fiA
  by_cases c : si r < 0
  · simp (disch := first | exact xnl_i _ | exact xnl_r _ | exact xnl_u _ | exact xnl_n | exact zI_2 | exact zI_24 | assumption | omega | (simp only [xset_len]; omega)) only [↓reduceIte, xbd_s, xpv_n, xpv_s, e_X8_findingAt_0, e_X8_findingAt_1, e_X8_findingAt_2, c_X8_findingAt_29_7_0, c_X8_findingAt_33_7_0, e_X8_findingAt_5, e_X8_findingAt_8, e_X8_findingAt_9, e_X8_findingAt_10, e_X8_findingAt_11, e_X8_findingAt_12, e_X8_findingAt_13, e_X8_findingAt_14, e_X8_findingAt_17, e_X8_findingAt_20, e_X8_findingAt_21, e_X8_findingAt_24, e_X8_findingAt_25, if_pos c, zI_1, if_false]
  · have e0 : nI 0 = 0 := rfl
    simp (disch := first | exact xnl_i _ | exact xnl_r _ | exact xnl_u _ | exact xnl_n | exact zI_2 | exact zI_24 | assumption | omega | (simp only [xset_len]; omega)) only [↓reduceIte, xbd_s, xpv_n, xpv_s, e_X8_findingAt_0, e_X8_findingAt_1, e_X8_findingAt_2, c_X8_findingAt_29_7_0, c_X8_findingAt_33_7_0, e_X8_findingAt_5, e_X8_findingAt_8, e_X8_findingAt_9, e_X8_findingAt_10, e_X8_findingAt_11, e_X8_findingAt_12, e_X8_findingAt_13, e_X8_findingAt_14, e_X8_findingAt_17, e_X8_findingAt_20, e_X8_findingAt_21, e_X8_findingAt_24, e_X8_findingAt_25, if_neg c, e0, if_true, r0, q2]
    split <;> rfl
def fiB (sa sb lA lB i j n : Int32) : Int32 := if sa < 0 then nI 1 else if sb < 0 then nI 1 else if lA = lB then (if wiS sa i n = 0 then nI 2 else if wiS sb j n = 0 then nI 2 else nI 0) else nI 5
theorem r_findingBetween (hR : xRW X h it la si) {r s : Nat} (hr : r < 8) (hs : s < 8) (i j n : Int32) : xR X m_X8_findingBetween 0 [.ref 17, .int (nI r), .int i, .int (nI s), .int j, .int n] [] h = some (some (.int (fiB (si r) (si s) (la r) (la s) i j n)), h) := by
  have q1 := r_isMissing hR hr
  have q3 := r_isMissing hR hs
  have q2 := r_isWithin hR hr i n
  have q4 := r_isWithin hR hs j n
  have e0 : nI 0 = 0 := rfl
  obtain ⟨r0, ⟨g, r1, rg⟩, r2, r3, r4⟩ := hR
  unfold fiB
  by_cases c : si r < 0
  · simp (disch := first | exact xnl_i _ | exact xnl_r _ | exact xnl_u _ | exact xnl_n | exact zI_2 | exact zI_24 | assumption | omega | (simp only [xset_len]; omega)) only [↓reduceIte, xbd_s, xpv_n, xpv_s, e_X8_findingBetween_0, e_X8_findingBetween_1, e_X8_findingBetween_2, c_X8_findingBetween_29_7_0, c_X8_findingBetween_33_7_0, e_X8_findingBetween_5, e_X8_findingBetween_8, e_X8_findingBetween_9, e_X8_findingBetween_10, e_X8_findingBetween_13, e_X8_findingBetween_16, e_X8_findingBetween_17, e_X8_findingBetween_18, e_X8_findingBetween_19, e_X8_findingBetween_22, e_X8_findingBetween_23, e_X8_findingBetween_24, e_X8_findingBetween_25, e_X8_findingBetween_28, e_X8_findingBetween_29, e_X8_findingBetween_30, e_X8_findingBetween_33, e_X8_findingBetween_34, e_X8_findingBetween_35, e_X8_findingBetween_36, e_X8_findingBetween_37, e_X8_findingBetween_38, e_X8_findingBetween_40, e_X8_findingBetween_43, e_X8_findingBetween_46, e_X8_findingBetween_47, e_X8_findingBetween_48, e_X8_findingBetween_50, e_X8_findingBetween_52, e_X8_findingBetween_55, e_X8_findingBetween_58, e_X8_findingBetween_59, e_X8_findingBetween_62, e_X8_findingBetween_63, g_8_16_7, r0, q1, if_pos c, zI_1, if_false]
  · by_cases c2 : si s < 0
    · simp (disch := first | exact xnl_i _ | exact xnl_r _ | exact xnl_u _ | exact xnl_n | exact zI_2 | exact zI_24 | assumption | omega | (simp only [xset_len]; omega)) only [↓reduceIte, xbd_s, xpv_n, xpv_s, e_X8_findingBetween_0, e_X8_findingBetween_1, e_X8_findingBetween_2, c_X8_findingBetween_29_7_0, c_X8_findingBetween_33_7_0, e_X8_findingBetween_5, e_X8_findingBetween_8, e_X8_findingBetween_9, e_X8_findingBetween_10, e_X8_findingBetween_13, e_X8_findingBetween_16, e_X8_findingBetween_17, e_X8_findingBetween_18, e_X8_findingBetween_19, e_X8_findingBetween_22, e_X8_findingBetween_23, e_X8_findingBetween_24, e_X8_findingBetween_25, e_X8_findingBetween_28, e_X8_findingBetween_29, e_X8_findingBetween_30, e_X8_findingBetween_33, e_X8_findingBetween_34, e_X8_findingBetween_35, e_X8_findingBetween_36, e_X8_findingBetween_37, e_X8_findingBetween_38, e_X8_findingBetween_40, e_X8_findingBetween_43, e_X8_findingBetween_46, e_X8_findingBetween_47, e_X8_findingBetween_48, e_X8_findingBetween_50, e_X8_findingBetween_52, e_X8_findingBetween_55, e_X8_findingBetween_58, e_X8_findingBetween_59, e_X8_findingBetween_62, e_X8_findingBetween_63, g_8_16_7, r0, q1, q3, if_neg c, if_pos c2, zI_1, e0, if_true, if_false]
    · by_cases c3 : la r = la s
      · by_cases c4 : wiS (si r) i n = 0
        · simp (disch := first | exact xnl_i _ | exact xnl_r _ | exact xnl_u _ | exact xnl_n | exact zI_2 | exact zI_24 | assumption | omega | (simp only [xset_len]; omega)) only [↓reduceIte, xbd_s, xpv_n, xpv_s, e_X8_findingBetween_0, e_X8_findingBetween_1, e_X8_findingBetween_2, c_X8_findingBetween_29_7_0, c_X8_findingBetween_33_7_0, e_X8_findingBetween_5, e_X8_findingBetween_8, e_X8_findingBetween_9, e_X8_findingBetween_10, e_X8_findingBetween_13, e_X8_findingBetween_16, e_X8_findingBetween_17, e_X8_findingBetween_18, e_X8_findingBetween_19, e_X8_findingBetween_22, e_X8_findingBetween_23, e_X8_findingBetween_24, e_X8_findingBetween_25, e_X8_findingBetween_28, e_X8_findingBetween_29, e_X8_findingBetween_30, e_X8_findingBetween_33, e_X8_findingBetween_34, e_X8_findingBetween_35, e_X8_findingBetween_36, e_X8_findingBetween_37, e_X8_findingBetween_38, e_X8_findingBetween_40, e_X8_findingBetween_43, e_X8_findingBetween_46, e_X8_findingBetween_47, e_X8_findingBetween_48, e_X8_findingBetween_50, e_X8_findingBetween_52, e_X8_findingBetween_55, e_X8_findingBetween_58, e_X8_findingBetween_59, e_X8_findingBetween_62, e_X8_findingBetween_63, g_8_16_7, r0, r2, xl_i, q1, q3, q2, q4, if_neg c, if_neg c2, if_pos c3, if_pos c4, e0, if_true, if_false]
        · simp (disch := first | exact xnl_i _ | exact xnl_r _ | exact xnl_u _ | exact xnl_n | exact zI_2 | exact zI_24 | assumption | omega | (simp only [xset_len]; omega)) only [↓reduceIte, xbd_s, xpv_n, xpv_s, e_X8_findingBetween_0, e_X8_findingBetween_1, e_X8_findingBetween_2, c_X8_findingBetween_29_7_0, c_X8_findingBetween_33_7_0, e_X8_findingBetween_5, e_X8_findingBetween_8, e_X8_findingBetween_9, e_X8_findingBetween_10, e_X8_findingBetween_13, e_X8_findingBetween_16, e_X8_findingBetween_17, e_X8_findingBetween_18, e_X8_findingBetween_19, e_X8_findingBetween_22, e_X8_findingBetween_23, e_X8_findingBetween_24, e_X8_findingBetween_25, e_X8_findingBetween_28, e_X8_findingBetween_29, e_X8_findingBetween_30, e_X8_findingBetween_33, e_X8_findingBetween_34, e_X8_findingBetween_35, e_X8_findingBetween_36, e_X8_findingBetween_37, e_X8_findingBetween_38, e_X8_findingBetween_40, e_X8_findingBetween_43, e_X8_findingBetween_46, e_X8_findingBetween_47, e_X8_findingBetween_48, e_X8_findingBetween_50, e_X8_findingBetween_52, e_X8_findingBetween_55, e_X8_findingBetween_58, e_X8_findingBetween_59, e_X8_findingBetween_62, e_X8_findingBetween_63, g_8_16_7, r0, r2, xl_i, q1, q3, q2, q4, if_neg c, if_neg c2, if_pos c3, if_neg c4, e0, if_true, if_false]
          split <;> rfl
      · simp (disch := first | exact xnl_i _ | exact xnl_r _ | exact xnl_u _ | exact xnl_n | exact zI_2 | exact zI_24 | assumption | omega | (simp only [xset_len]; omega)) only [↓reduceIte, xbd_s, xpv_n, xpv_s, e_X8_findingBetween_0, e_X8_findingBetween_1, e_X8_findingBetween_2, c_X8_findingBetween_29_7_0, c_X8_findingBetween_33_7_0, e_X8_findingBetween_5, e_X8_findingBetween_8, e_X8_findingBetween_9, e_X8_findingBetween_10, e_X8_findingBetween_13, e_X8_findingBetween_16, e_X8_findingBetween_17, e_X8_findingBetween_18, e_X8_findingBetween_19, e_X8_findingBetween_22, e_X8_findingBetween_23, e_X8_findingBetween_24, e_X8_findingBetween_25, e_X8_findingBetween_28, e_X8_findingBetween_29, e_X8_findingBetween_30, e_X8_findingBetween_33, e_X8_findingBetween_34, e_X8_findingBetween_35, e_X8_findingBetween_36, e_X8_findingBetween_37, e_X8_findingBetween_38, e_X8_findingBetween_40, e_X8_findingBetween_43, e_X8_findingBetween_46, e_X8_findingBetween_47, e_X8_findingBetween_48, e_X8_findingBetween_50, e_X8_findingBetween_52, e_X8_findingBetween_55, e_X8_findingBetween_58, e_X8_findingBetween_59, e_X8_findingBetween_62, e_X8_findingBetween_63, g_8_16_7, r0, r2, xl_i, q1, q3, q2, q4, if_neg c, if_neg c2, if_neg c3, e0, if_true, if_false]
/-- what a LANE keeps -/
def kpS (l v : Int32) : Int32 := if l = 0 then v.toInt8.toInt32 else if l = nI 1 then v.toInt16.toInt32 else v
theorem r_put (hR : xRW X h it la si) {r i : Nat} (hr : r < 8) (hi : i < 40) (v : Int32) : xR X m_X8_put 0 [.ref 17, .int (nI r), .int (nI i), .int v, xU] [] h = some (some (.int (kpS (la r) v)), xset h (19 + r) (.inr ((0, 40), .inl (upd (it r) i (kpS (la r) v))))) := by
  obtain ⟨r0, ⟨g, r1, rg⟩, r2, r3, r4⟩ := hR
  have q1 := rg r hr
  have q2 := r4 r hr
  have q3 : 3 ≤ 3 ∧ 3 ≤ 5 := by omega
  unfold kpS
  by_cases c : la r = 0
  · simp (disch := first | exact xnl_i _ | exact xnl_r _ | exact xnl_u _ | exact xnl_n | exact zI_2 | exact zI_24 | assumption | omega | (simp only [xset_len]; omega)) only [↓reduceIte, xbd_s, xpv_n, xpv_s, e_X8_put_0, e_X8_put_1, e_X8_put_3, e_X8_put_4, e_X8_put_7, e_X8_put_8, e_X8_put_9, e_X8_put_12, e_X8_put_13, e_X8_put_14, e_X8_put_16, e_X8_put_19, e_X8_put_20, e_X8_put_23, e_X8_put_24, e_X8_put_25, e_X8_put_26, e_X8_put_29, e_X8_put_30, e_X8_put_31, e_X8_put_33, e_X8_put_34, e_X8_put_37, e_X8_put_38, e_X8_put_39, e_X8_put_40, e_X8_put_42, e_X8_put_43, e_X8_put_45, g_8_11_7, g_8_16_7, r0, r1, q1, xrv_s, q2, r2, xl_i, xl_a, xs_i, if_pos c]
  · by_cases c2 : la r = nI 1
    · simp (disch := first | exact xnl_i _ | exact xnl_r _ | exact xnl_u _ | exact xnl_n | exact zI_2 | exact zI_24 | assumption | omega | (simp only [xset_len]; omega)) only [↓reduceIte, xbd_s, xpv_n, xpv_s, e_X8_put_0, e_X8_put_1, e_X8_put_3, e_X8_put_4, e_X8_put_7, e_X8_put_8, e_X8_put_9, e_X8_put_12, e_X8_put_13, e_X8_put_14, e_X8_put_16, e_X8_put_19, e_X8_put_20, e_X8_put_23, e_X8_put_24, e_X8_put_25, e_X8_put_26, e_X8_put_29, e_X8_put_30, e_X8_put_31, e_X8_put_33, e_X8_put_34, e_X8_put_37, e_X8_put_38, e_X8_put_39, e_X8_put_40, e_X8_put_42, e_X8_put_43, e_X8_put_45, g_8_11_7, g_8_16_7, r0, r1, q1, xrv_s, q2, r2, xl_i, xl_a, xs_i, if_neg c, if_pos c2]
    · simp (disch := first | exact xnl_i _ | exact xnl_r _ | exact xnl_u _ | exact xnl_n | exact zI_2 | exact zI_24 | assumption | omega | (simp only [xset_len]; omega)) only [↓reduceIte, xbd_s, xpv_n, xpv_s, e_X8_put_0, e_X8_put_1, e_X8_put_3, e_X8_put_4, e_X8_put_7, e_X8_put_8, e_X8_put_9, e_X8_put_12, e_X8_put_13, e_X8_put_14, e_X8_put_16, e_X8_put_19, e_X8_put_20, e_X8_put_23, e_X8_put_24, e_X8_put_25, e_X8_put_26, e_X8_put_29, e_X8_put_30, e_X8_put_31, e_X8_put_33, e_X8_put_34, e_X8_put_37, e_X8_put_38, e_X8_put_39, e_X8_put_40, e_X8_put_42, e_X8_put_43, e_X8_put_45, g_8_11_7, g_8_16_7, r0, r1, q1, xrv_s, q2, r2, xl_i, xl_a, xs_i, if_neg c, if_neg c2]
theorem r_remove (hR : xRW X h it la si) {r : Nat} (hr : r < 8) : xR X m_X8_remove 0 [.ref 17, .int (nI r), xU] [] h = some (some (.int (si r)), xset h 28 (.inr ((0, 8), .inl (upd si r (-1))))) := by
  obtain ⟨r0, ⟨g, r1, rg⟩, r2, r3, r4⟩ := hR
  simp (disch := first | exact xnl_i _ | exact xnl_r _ | exact xnl_u _ | exact xnl_n | exact zI_2 | exact zI_24 | assumption | omega | (simp only [xset_len]; omega)) only [↓reduceIte, xbd_s, xpv_n, xpv_s, e_X8_remove_0, e_X8_remove_1, e_X8_remove_4, e_X8_remove_5, e_X8_remove_6, e_X8_remove_7, e_X8_remove_8, e_X8_remove_11, e_X8_remove_12, e_X8_remove_13, e_X8_remove_14, e_X8_remove_15, g_8_20_7, r0, r3, xl_i, xs_i]
theorem r_lay (hR : xRW X h it la si) {r : Nat} (hr : r < 8) (l n : Int32) : ∃ h' f', xR X m_X8_lay 0 [.ref 17, .int (nI r), .int l, .int n] [] h = some (none, h') ∧ xRW X h' (fun q => if q = r then f' else it q) (upd la r l) (upd si r n) ∧ (∀ j, j < 40 → f' j = nI 0) ∧ xFr X (fun c => 19 ≤ c ∧ c ≤ 28) h h' := by
  obtain ⟨r0, ⟨g, r1, rg⟩, r2, r3, r4⟩ := hR
  have lv := xg_live (by omega) r3
  have q1 := rg r hr
  have q3 : 3 ≤ 3 ∧ 3 ≤ 5 := by omega
  have f1 : xFr X (fun c => 19 ≤ c ∧ c ≤ 28) h (xset (xset h 27 (.inr ((0, 8), .inl (upd la r l)))) 28 (.inr ((0, 8), .inl (upd si r n)))) := xFr_tr (xFr_set (by omega) ⟨by omega, by omega⟩) (xFr_set (by omega) ⟨by omega, by omega⟩)
  have q2 : ∀ q, q < 8 → xget X (xset (xset h 27 (.inr ((0, 8), .inl (upd la r l)))) 28 (.inr ((0, 8), .inl (upd si r n)))) (19 + q) = some (.inr ((0, 40), .inl (it q))) := by
    intro q hq
    rw [xg_ne (by omega) (by omega), xg_ne (by omega) (by omega)]
    exact r4 q hq
  obtain ⟨h', f', e1, e2, e3, e4⟩ := r_fill (x := nI 0) (by omega) (by omega) (q2 r hr)
  refine ⟨h', f', ?_, ⟨?_, ⟨g, ?_, rg⟩, ?_, ?_, ?_⟩, e3, xFr_tr f1 (xFr_mo e4 (by intro c hc; omega))⟩
  · simp (disch := first | exact xnl_i _ | exact xnl_r _ | exact xnl_u _ | exact xnl_n | exact zI_2 | exact zI_24 | assumption | omega | (simp only [xset_len]; omega)) only [↓reduceIte, xbd_s, xpv_n, xpv_s, e_X8_lay_0, e_X8_lay_1, e_X8_lay_4, e_X8_lay_5, e_X8_lay_6, e_X8_lay_7, e_X8_lay_8, e_X8_lay_11, e_X8_lay_12, e_X8_lay_13, e_X8_lay_14, e_X8_lay_15, e_X8_lay_18, e_X8_lay_19, e_X8_lay_20, e_X8_lay_21, e_X8_lay_24, g_8_11_7, g_8_16_7, g_8_20_7, r0, r1, r2, r3, q1, xrv_s, xl_a, xs_i, xg_ne, e1]
  · rw [e4.2 _ (by omega), xg_ne (by omega) (by omega), xg_ne (by omega) (by omega), r0]
  · rw [e4.2 _ (by omega), xg_ne (by omega) (by omega), xg_ne (by omega) (by omega), r1]
  · rw [e4.2 _ (by omega), xg_ne (by omega) (by omega), xg_same (by omega) (by omega)]
  · rw [e4.2 _ (by omega), xg_same (by omega) (by rw [xset_len]; omega)]
  · intro q hq
    by_cases c : q = r
    · rw [c, e2]
      dsimp only
      rw [if_pos rfl]
    · rw [e4.2 _ (by omega), q2 q hq]
      dsimp only
      rw [if_neg c]
theorem r_itemAt (hR : xRW X h it la si) {r i : Nat} (hr : r < 8) (hi : i < 40) : xR X m_X8_itemAt 0 [.ref 17, .int (nI r), .int (nI i)] [] h = some (some (.int (it r i)), h) := by
  obtain ⟨r0, ⟨g, r1, rg⟩, r2, r3, r4⟩ := hR
  have q1 := rg r hr
  have q2 := r4 r hr
  have q3 : 3 ≤ 3 ∧ 3 ≤ 5 := by omega
  simp (disch := first | exact xnl_i _ | exact xnl_r _ | exact xnl_u _ | exact xnl_n | exact zI_2 | exact zI_24 | assumption | omega | (simp only [xset_len]; omega)) only [↓reduceIte, xbd_s, xpv_n, xpv_s, e_X8_itemAt_0, e_X8_itemAt_1, e_X8_itemAt_4, e_X8_itemAt_5, e_X8_itemAt_6, e_X8_itemAt_7, e_X8_itemAt_8, g_8_11_7, r0, r1, q1, xrv_s, q2, xl_i, xl_a]
theorem r_carry (hR : xRW X h it la si) {r s i j n : Nat} (hr : r < 8) (hs : s < 8) (hi : i + n ≤ 40) (hj : j + n ≤ 40) : xR X m_X8_carry 0 [.ref 17, .int (nI r), .int (nI i), .int (nI s), .int (nI j), .int (nI n)] [] h = some (none, xset h (19 + s) (.inr ((0, 40), .inl (fun k => if j ≤ k ∧ k < j + n then it r (i + (k - j)) else it s k)))) := by
  obtain ⟨r0, ⟨g, r1, rg⟩, r2, r3, r4⟩ := hR
  have q1 := rg r hr
  have q2 := rg s hs
  have q3 : 3 ≤ 3 ∧ 3 ≤ 5 := by omega
  simp (disch := first | exact xnl_i _ | exact xnl_r _ | exact xnl_u _ | exact xnl_n | exact zI_2 | exact zI_24 | assumption | omega | (simp only [xset_len]; omega)) only [↓reduceIte, xbd_s, xpv_n, xpv_s, e_X8_carry_0, e_X8_carry_1, e_X8_carry_4, e_X8_carry_5, e_X8_carry_6, e_X8_carry_7, e_X8_carry_8, e_X8_carry_11, e_X8_carry_12, e_X8_carry_13, e_X8_carry_15, e_X8_carry_20, g_8_11_7, r0, r1, q1, q2, xrv_s, xl_a]
  have ci := nI_clamp (n := i) (by omega)
  have cj := nI_clamp (n := j) (by omega)
  have cn := nI_clamp (n := n) (by omega)
  rw [q_cpy dX8_carry_17 rfl (by decide) (r4 r hr) (r4 s hs) ⟨by omega, by omega, by decide, nI_pos (by omega), nI_pos (by omega), nI_pos (by omega), by omega, by omega⟩, ci, cj, cn]
  exact e_X8_carry_20
end XRO
