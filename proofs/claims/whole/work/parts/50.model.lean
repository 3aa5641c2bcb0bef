/-! the reference: picture, helpers -/
def xMc (S : Nat → Int32) (nm : Int64) : xE := .inl (11, [.ref 170, .ref 171, .ref 172, .ref 173, .int (S 0), .ref 174, .ref 175, .ref 176, .int (S 1), .ref 177, .int (S 2), .int (S 3), .int (S 4), .int (S 5), .int (S 6), .long nm, .int (S 7), .int (S 8), .ref 178, .int (S 9), .int (S 10), .int (S 11), .int (S 12), .ref 179, .int (S 13)])
/-- S: 0 acts 1 status 2 taped 3 cursor 4 start 5 token 6 number 7 fault 8 latestFault 9 thenDust 10 thenFaded 11 firstHour 12 lastHour 13 traced; A: 0 st 1 kept 2 isKept 3 was 4 lanes 5 sizes 6 items 7 tape 8 read 9 trace -/
def xMB (X : xS) (h : xH) (S : Nat → Int32) (nm : Int64) (A : Nat → Nat → Int32) : Prop :=
  xget X h 169 = some (.inl (11, [.ref 170, .ref 171, .ref 172, .ref 173, .int (S 0), .ref 174, .ref 175, .ref 176, .int (S 1), .ref 177, .int (S 2), .int (S 3), .int (S 4), .int (S 5), .int (S 6), .long nm, .int (S 7), .int (S 8), .ref 178, .int (S 9), .int (S 10), .int (S 11), .int (S 12), .ref 179, .int (S 13)])) ∧ xget X h 170 = some (.inr ((0, 54), .inl (A 0))) ∧ xget X h 171 = some (.inr ((0, 108), .inl (A 1))) ∧ xget X h 172 = some (.inr ((2, 2), .inl (A 2))) ∧ xget X h 173 = some (.inr ((0, 696), .inl (A 3))) ∧ xget X h 174 = some (.inr ((0, 8), .inl (A 4))) ∧ xget X h 175 = some (.inr ((0, 8), .inl (A 5))) ∧ xget X h 176 = some (.inr ((0, 320), .inl (A 6))) ∧ xget X h 177 = some (.inr ((0, 400), .inl (A 7))) ∧ xget X h 178 = some (.inr ((0, 54), .inl (A 8))) ∧ xget X h 179 = some (.inr ((0, 16), .inl (A 9)))
def updA (A : Nat → Nat → Int32) (i k : Nat) (x : Int32) : Nat → Nat → Int32 := fun j => if j = i then upd (A i) k x else A j
section XMO
variable {X : xS} {h : xH} {S : Nat → Int32} {nm : Int64} {A : Nat → Nat → Int32}
theorem m_in (x lo hi : Int32) : xR X m_X12_in 0 [.int x, .int lo, .int hi] [] h = some (some (.int (if x < lo then nI 0 else if hi < x then nI 0 else nI 1)), h) := by
  simp (disch := first | exact xnl_i _ | exact xnl_r _ | exact xnl_u _ | exact xnl_n | exact zI_2 | exact zI_24 | assumption | omega | (simp only [xset_len]; omega)) only [↓reduceIte, xbd_s, xpv_n, xpv_s, e_X12_in_0, e_X12_in_1, e_X12_in_2, e_X12_in_5, e_X12_in_6, e_X12_in_7, e_X12_in_10, e_X12_in_11, e_X12_in_14, e_X12_in_15, e_X12_in_15_0, e_X12_in_15_1]
  repeat' split
  all_goals rfl
theorem m_inT {x lo hi : Int32} (h1 : ¬ x < lo) (h2 : ¬ hi < x) : xR X m_X12_in 0 [.int x, .int lo, .int hi] [] h = some (some (.int 1), h) := by
  rw [m_in, if_neg h1, if_neg h2]; rfl
theorem m_inF {x lo hi : Int32} (hx : x < lo ∨ hi < x) : xR X m_X12_in 0 [.int x, .int lo, .int hi] [] h = some (some (.int 0), h) := by
  rw [m_in]
  by_cases c : x < lo
  · rw [if_pos c]; rfl
  · rw [if_neg c, if_pos (hx.resolve_left c)]; rfl
theorem m_has (x y : Int32) : xR X m_X12_has 0 [.int x, .int y] [] h = some (some (.int (if (x >>> (y &&& 31)) &&& nI 1 = nI 1 then nI 1 else nI 0)), h) := by
  simp (disch := first | exact xnl_i _ | exact xnl_r _ | exact xnl_u _ | exact xnl_n | exact zI_2 | exact zI_24 | assumption | omega | (simp only [xset_len]; omega)) only [↓reduceIte, xbd_s, xpv_n, xpv_s, e_X12_has_0, e_X12_has_1, e_X12_has_2, e_X12_has_3, e_X12_has_4, e_X12_has_5, e_X12_has_6, e_X12_has_9, e_X12_has_10, e_X12_has_13, e_X12_has_14, e_X12_has_14_0, e_X12_has_14_1]
  split
  all_goals rfl
theorem m_atMost (x : Int32) : xR X m_X12_atMost 0 [.int x] [] h = some (some (.int (atS x)), h) := by
  simp (disch := first | exact xnl_i _ | exact xnl_r _ | exact xnl_u _ | exact xnl_n | exact zI_2 | exact zI_24 | assumption | omega | (simp only [xset_len]; omega)) only [↓reduceIte, xbd_s, xpv_n, xpv_s, e_X12_atMost_0, e_X12_atMost_1, e_X12_atMost_4, e_X12_atMost_7, e_X12_atMost_10, e_X12_atMost_13, e_X12_atMost_14]
  unfold atS
  split
  all_goals rfl
theorem m_fallBy (hM : xMB X h S nm A) {s so : Nat} (hs : s < 7) (hso : A 0 (3 + s) = nI so) (h1 : 1 ≤ so) (h2 : so ≤ 5) (t d : Int32) : xR X m_X12_fallBy 0 [.ref 169, .int (nI s), .int t, .int d, xU] [] h = some (some (.int (fallS (nI so) d t)), h) := by
  have hc := hM.1
  have a0 := hM.2.1
  have hso2 : so = 1 ∨ so = 2 ∨ so = 3 ∨ so = 4 ∨ so = 5 := by omega
  have z2 : ¬ nI 2 = 0 := by decide
  have o1 : (nI 1).toInt < 3 ∨ 5 < (nI 1).toInt := by decide
  have o2 : (nI 2).toInt < 3 ∨ 5 < (nI 2).toInt := by decide
  rcases hso2 with rfl | rfl | rfl | rfl | rfl
  · have e : fallS (nI 1) d t = d := by unfold fallS; rw [if_neg (by decide), if_neg (by decide), if_neg (by decide)]
    rw [e]
    simp (disch := first | exact xnl_i _ | exact xnl_r _ | exact xnl_u _ | exact xnl_n | exact zI_2 | exact zI_24 | assumption | omega | (simp only [xset_len]; omega)) only [↓reduceIte, xbd_s, xpv_n, xpv_s, e_X12_fallBy_0, e_X12_fallBy_1, e_X12_fallBy_3, e_X12_fallBy_4, e_X12_fallBy_6, e_X12_fallBy_7, e_X12_fallBy_10, e_X12_fallBy_11, e_X12_fallBy_12, e_X12_fallBy_13, e_X12_fallBy_14_3, e_X12_fallBy_14_4, e_X12_fallBy_14_5, e_X12_fallBy_14_d, e_X12_fallBy_40, e_X12_fallBy_41, e_X12_fallBy_42, e_X12_fallBy_43, e_X12_fallBy_46, e_X12_fallBy_47, e_X12_fallBy_48, e_X12_fallBy_49, e_X12_fallBy_52, e_X12_fallBy_53, e_X12_fallBy_54, e_X12_fallBy_55, e_X12_fallBy_56, e_X12_fallBy_57, e_X12_fallBy_58, e_X12_fallBy_59, e_X12_fallBy_60, e_X12_fallBy_62, e_X12_fallBy_64, e_X12_fallBy_66, e_X12_fallBy_69, e_X12_fallBy_72, e_X12_fallBy_73, e_X12_fallBy_76, e_X12_fallBy_77, e_X12_fallBy_78, e_X12_fallBy_79, e_X12_fallBy_80, e_X12_fallBy_81, g_12_7_11, hc, a0, nI_add, xl_i, hso]
  · have e : fallS (nI 2) d t = d := by unfold fallS; rw [if_neg (by decide), if_neg (by decide), if_neg (by decide)]
    rw [e]
    simp (disch := first | exact xnl_i _ | exact xnl_r _ | exact xnl_u _ | exact xnl_n | exact zI_2 | exact zI_24 | assumption | omega | (simp only [xset_len]; omega)) only [↓reduceIte, xbd_s, xpv_n, xpv_s, e_X12_fallBy_0, e_X12_fallBy_1, e_X12_fallBy_3, e_X12_fallBy_4, e_X12_fallBy_6, e_X12_fallBy_7, e_X12_fallBy_10, e_X12_fallBy_11, e_X12_fallBy_12, e_X12_fallBy_13, e_X12_fallBy_14_3, e_X12_fallBy_14_4, e_X12_fallBy_14_5, e_X12_fallBy_14_d, e_X12_fallBy_40, e_X12_fallBy_41, e_X12_fallBy_42, e_X12_fallBy_43, e_X12_fallBy_46, e_X12_fallBy_47, e_X12_fallBy_48, e_X12_fallBy_49, e_X12_fallBy_52, e_X12_fallBy_53, e_X12_fallBy_54, e_X12_fallBy_55, e_X12_fallBy_56, e_X12_fallBy_57, e_X12_fallBy_58, e_X12_fallBy_59, e_X12_fallBy_60, e_X12_fallBy_62, e_X12_fallBy_64, e_X12_fallBy_66, e_X12_fallBy_69, e_X12_fallBy_72, e_X12_fallBy_73, e_X12_fallBy_76, e_X12_fallBy_77, e_X12_fallBy_78, e_X12_fallBy_79, e_X12_fallBy_80, e_X12_fallBy_81, g_12_7_11, hc, a0, nI_add, xl_i, hso]
  · have e : fallS (nI 3) d t = if nI 5 < xday t then (if xday t < nI 18 then d else nI 2 * d) else nI 2 * d := by unfold fallS; rw [if_neg (by decide), if_neg (by decide), if_pos rfl]
    rw [e]
    have b5 : (nI 5).toInt = 5 := by decide
    have b6 : (nI 6).toInt = 6 := by decide
    have b17 : (nI 17).toInt = 17 := by decide
    have b18 : (nI 18).toInt = 18 := by decide
    have q : ∀ hh : xH, xR X m_X12_in 0 [.int (xday t), .int (nI 6), .int (nI 17)] [] hh = some (some (.int (if nI 5 < xday t then (if xday t < nI 18 then 1 else 0) else 0)), hh) := by
      intro hh
      by_cases c1 : nI 5 < xday t
      · by_cases c2 : xday t < nI 18
        · rw [if_pos c1, if_pos c2]
          rw [xlt_i] at c1 c2
          exact m_inT (by rw [xlt_i]; omega) (by rw [xlt_i]; omega)
        · rw [if_pos c1, if_neg c2]
          rw [xlt_i] at c1 c2
          exact m_inF (by rw [xlt_i, xlt_i]; omega)
      · rw [if_neg c1]
        rw [xlt_i] at c1
        exact m_inF (by rw [xlt_i, xlt_i]; omega)
    unfold xday at q ⊢
    by_cases c1 : nI 5 < t - t / nI 24 * nI 24
    · by_cases c2 : t - t / nI 24 * nI 24 < nI 18
      · simp (disch := first | exact xnl_i _ | exact xnl_r _ | exact xnl_u _ | exact xnl_n | exact zI_2 | exact zI_24 | assumption | omega | (simp only [xset_len]; omega)) only [↓reduceIte, xbd_s, xpv_n, xpv_s, e_X12_fallBy_0, e_X12_fallBy_1, e_X12_fallBy_3, e_X12_fallBy_4, e_X12_fallBy_6, e_X12_fallBy_7, e_X12_fallBy_10, e_X12_fallBy_11, e_X12_fallBy_12, e_X12_fallBy_13, e_X12_fallBy_14_3, e_X12_fallBy_14_4, e_X12_fallBy_14_5, e_X12_fallBy_14_d, e_X12_fallBy_40, e_X12_fallBy_41, e_X12_fallBy_42, e_X12_fallBy_43, e_X12_fallBy_46, e_X12_fallBy_47, e_X12_fallBy_48, e_X12_fallBy_49, e_X12_fallBy_52, e_X12_fallBy_53, e_X12_fallBy_54, e_X12_fallBy_55, e_X12_fallBy_56, e_X12_fallBy_57, e_X12_fallBy_58, e_X12_fallBy_59, e_X12_fallBy_60, e_X12_fallBy_62, e_X12_fallBy_64, e_X12_fallBy_66, e_X12_fallBy_69, e_X12_fallBy_72, e_X12_fallBy_73, e_X12_fallBy_76, e_X12_fallBy_77, e_X12_fallBy_78, e_X12_fallBy_79, e_X12_fallBy_80, e_X12_fallBy_81, g_12_7_11, hc, a0, nI_add, xl_i, hso, q, if_pos c1, if_pos c2, ne10]
      · simp (disch := first | exact xnl_i _ | exact xnl_r _ | exact xnl_u _ | exact xnl_n | exact zI_2 | exact zI_24 | assumption | omega | (simp only [xset_len]; omega)) only [↓reduceIte, xbd_s, xpv_n, xpv_s, e_X12_fallBy_0, e_X12_fallBy_1, e_X12_fallBy_3, e_X12_fallBy_4, e_X12_fallBy_6, e_X12_fallBy_7, e_X12_fallBy_10, e_X12_fallBy_11, e_X12_fallBy_12, e_X12_fallBy_13, e_X12_fallBy_14_3, e_X12_fallBy_14_4, e_X12_fallBy_14_5, e_X12_fallBy_14_d, e_X12_fallBy_40, e_X12_fallBy_41, e_X12_fallBy_42, e_X12_fallBy_43, e_X12_fallBy_46, e_X12_fallBy_47, e_X12_fallBy_48, e_X12_fallBy_49, e_X12_fallBy_52, e_X12_fallBy_53, e_X12_fallBy_54, e_X12_fallBy_55, e_X12_fallBy_56, e_X12_fallBy_57, e_X12_fallBy_58, e_X12_fallBy_59, e_X12_fallBy_60, e_X12_fallBy_62, e_X12_fallBy_64, e_X12_fallBy_66, e_X12_fallBy_69, e_X12_fallBy_72, e_X12_fallBy_73, e_X12_fallBy_76, e_X12_fallBy_77, e_X12_fallBy_78, e_X12_fallBy_79, e_X12_fallBy_80, e_X12_fallBy_81, g_12_7_11, hc, a0, nI_add, xl_i, hso, q, if_pos c1, if_neg c2]
    · simp (disch := first | exact xnl_i _ | exact xnl_r _ | exact xnl_u _ | exact xnl_n | exact zI_2 | exact zI_24 | assumption | omega | (simp only [xset_len]; omega)) only [↓reduceIte, xbd_s, xpv_n, xpv_s, e_X12_fallBy_0, e_X12_fallBy_1, e_X12_fallBy_3, e_X12_fallBy_4, e_X12_fallBy_6, e_X12_fallBy_7, e_X12_fallBy_10, e_X12_fallBy_11, e_X12_fallBy_12, e_X12_fallBy_13, e_X12_fallBy_14_3, e_X12_fallBy_14_4, e_X12_fallBy_14_5, e_X12_fallBy_14_d, e_X12_fallBy_40, e_X12_fallBy_41, e_X12_fallBy_42, e_X12_fallBy_43, e_X12_fallBy_46, e_X12_fallBy_47, e_X12_fallBy_48, e_X12_fallBy_49, e_X12_fallBy_52, e_X12_fallBy_53, e_X12_fallBy_54, e_X12_fallBy_55, e_X12_fallBy_56, e_X12_fallBy_57, e_X12_fallBy_58, e_X12_fallBy_59, e_X12_fallBy_60, e_X12_fallBy_62, e_X12_fallBy_64, e_X12_fallBy_66, e_X12_fallBy_69, e_X12_fallBy_72, e_X12_fallBy_73, e_X12_fallBy_76, e_X12_fallBy_77, e_X12_fallBy_78, e_X12_fallBy_79, e_X12_fallBy_80, e_X12_fallBy_81, g_12_7_11, hc, a0, nI_add, xl_i, hso, q, if_neg c1]
  · have e : fallS (nI 4) d t = if t - t / nI 2 * nI 2 = 0 then d / nI 2 else d - d / nI 2 := if_pos rfl
    rw [e]
    by_cases c : t - t / nI 2 * nI 2 = 0
    · simp (disch := first | exact xnl_i _ | exact xnl_r _ | exact xnl_u _ | exact xnl_n | exact zI_2 | exact zI_24 | assumption | omega | (simp only [xset_len]; omega)) only [↓reduceIte, xbd_s, xpv_n, xpv_s, e_X12_fallBy_0, e_X12_fallBy_1, e_X12_fallBy_3, e_X12_fallBy_4, e_X12_fallBy_6, e_X12_fallBy_7, e_X12_fallBy_10, e_X12_fallBy_11, e_X12_fallBy_12, e_X12_fallBy_13, e_X12_fallBy_14_3, e_X12_fallBy_14_4, e_X12_fallBy_14_5, e_X12_fallBy_14_d, e_X12_fallBy_40, e_X12_fallBy_41, e_X12_fallBy_42, e_X12_fallBy_43, e_X12_fallBy_46, e_X12_fallBy_47, e_X12_fallBy_48, e_X12_fallBy_49, e_X12_fallBy_52, e_X12_fallBy_53, e_X12_fallBy_54, e_X12_fallBy_55, e_X12_fallBy_56, e_X12_fallBy_57, e_X12_fallBy_58, e_X12_fallBy_59, e_X12_fallBy_60, e_X12_fallBy_62, e_X12_fallBy_64, e_X12_fallBy_66, e_X12_fallBy_69, e_X12_fallBy_72, e_X12_fallBy_73, e_X12_fallBy_76, e_X12_fallBy_77, e_X12_fallBy_78, e_X12_fallBy_79, e_X12_fallBy_80, e_X12_fallBy_81, g_12_7_11, hc, a0, nI_add, xl_i, hso, if_pos c]
    · simp (disch := first | exact xnl_i _ | exact xnl_r _ | exact xnl_u _ | exact xnl_n | exact zI_2 | exact zI_24 | assumption | omega | (simp only [xset_len]; omega)) only [↓reduceIte, xbd_s, xpv_n, xpv_s, e_X12_fallBy_0, e_X12_fallBy_1, e_X12_fallBy_3, e_X12_fallBy_4, e_X12_fallBy_6, e_X12_fallBy_7, e_X12_fallBy_10, e_X12_fallBy_11, e_X12_fallBy_12, e_X12_fallBy_13, e_X12_fallBy_14_3, e_X12_fallBy_14_4, e_X12_fallBy_14_5, e_X12_fallBy_14_d, e_X12_fallBy_40, e_X12_fallBy_41, e_X12_fallBy_42, e_X12_fallBy_43, e_X12_fallBy_46, e_X12_fallBy_47, e_X12_fallBy_48, e_X12_fallBy_49, e_X12_fallBy_52, e_X12_fallBy_53, e_X12_fallBy_54, e_X12_fallBy_55, e_X12_fallBy_56, e_X12_fallBy_57, e_X12_fallBy_58, e_X12_fallBy_59, e_X12_fallBy_60, e_X12_fallBy_62, e_X12_fallBy_64, e_X12_fallBy_66, e_X12_fallBy_69, e_X12_fallBy_72, e_X12_fallBy_73, e_X12_fallBy_76, e_X12_fallBy_77, e_X12_fallBy_78, e_X12_fallBy_79, e_X12_fallBy_80, e_X12_fallBy_81, g_12_7_11, hc, a0, nI_add, xl_i, hso, if_neg c]
  · have e : fallS (nI 5) d t = nI 0 := by unfold fallS; rw [if_neg (by decide), if_pos rfl]
    rw [e]
    simp (disch := first | exact xnl_i _ | exact xnl_r _ | exact xnl_u _ | exact xnl_n | exact zI_2 | exact zI_24 | assumption | omega | (simp only [xset_len]; omega)) only [↓reduceIte, xbd_s, xpv_n, xpv_s, e_X12_fallBy_0, e_X12_fallBy_1, e_X12_fallBy_3, e_X12_fallBy_4, e_X12_fallBy_6, e_X12_fallBy_7, e_X12_fallBy_10, e_X12_fallBy_11, e_X12_fallBy_12, e_X12_fallBy_13, e_X12_fallBy_14_3, e_X12_fallBy_14_4, e_X12_fallBy_14_5, e_X12_fallBy_14_d, e_X12_fallBy_40, e_X12_fallBy_41, e_X12_fallBy_42, e_X12_fallBy_43, e_X12_fallBy_46, e_X12_fallBy_47, e_X12_fallBy_48, e_X12_fallBy_49, e_X12_fallBy_52, e_X12_fallBy_53, e_X12_fallBy_54, e_X12_fallBy_55, e_X12_fallBy_56, e_X12_fallBy_57, e_X12_fallBy_58, e_X12_fallBy_59, e_X12_fallBy_60, e_X12_fallBy_62, e_X12_fallBy_64, e_X12_fallBy_66, e_X12_fallBy_69, e_X12_fallBy_72, e_X12_fallBy_73, e_X12_fallBy_76, e_X12_fallBy_77, e_X12_fallBy_78, e_X12_fallBy_79, e_X12_fallBy_80, e_X12_fallBy_81, g_12_7_11, hc, a0, nI_add, xl_i, hso]
end XMO
