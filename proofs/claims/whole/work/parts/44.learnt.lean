/-! the class: learnt, ask -/
/-- would this DRAUGHT tell the ROW from place i on -/
def wtS (F : Int32 → Int32) (it : Nat → Int32) : Nat → Nat → Int32 → Int32
  | 0, _, _ => nI 1
  | c + 1, j, y => if atS (y + F (nI j)) = it j then wtS F it c (j + 1) (atS (y + F (nI j))) else nI 0
def lnS (W : Nat → Int32) : Nat → Nat → Int32
  | 0, _ => xNO
  | c + 1, j => if W j = 0 then lnS W c (j + 1) else nI j
section XLR
variable {X : xS} {h : xH} {fi ta lf ol un : Int32} {lib p n m pl fr to : Nat} {pv : Value} {hr : Int32} {d k a o : Nat → Int32} {g : Nat → Option Nat} {u v so dr : Nat → Int32} {it : Nat → Nat → Int32} {la si : Nat → Int32}
theorem wtS_01 (F : Int32 → Int32) (it : Nat → Int32) : ∀ c j y, wtS F it c j y = 0 ∨ wtS F it c j y = 1 := by
  intro c
  induction c with
  | zero => intro j y; exact Or.inr rfl
  | succ c ih =>
    intro j y
    unfold wtS
    split
    · exact ih _ _
    · exact Or.inl rfl
theorem r_wouldTell (hC : xCB X h fi ta lf lib ol un) (hL : xLB X h lib pv hr d k a o) (hR : xRW X h it la si) {r i c s q ci : Nat} {x nu dd dg : Int32} (hr8 : r < 8) (hi : i + c ≤ 40) (hs : s < 7) (g2 : xget X h q = some (.inl (ci, [.int nu, .int dd]))) (g3 : xSort ci x) : xR X m_X11_wouldTell 0 [.ref 16, .int (nI r), .int (nI i), .int (nI c), .int (nI s), .ref q, .int dg, xU, xU] [] h = some (some (.int (wtS (fun t => fallS x dg (hr + t)) (fun j => it r (i + j)) c 0 (d s))), h) := by
  have hc : xget X h 16 = _ := hC
  have l0 := hL.1
  have l1 := hL.2.1
  have r0 := hR.1
  have L : ∀ e j y, e + j = c → xR X m_X11_wouldTell 15 [.ref 16, .int (nI r), .int (nI i), .int (nI c), .int (nI s), .ref q, .int dg, .int y, .int (nI j)] [] h = some (some (.int (wtS (fun t => fallS x dg (hr + t)) (fun j => it r (i + j)) e j y)), h) := by
    intro e
    induction e with
    | zero =>
      intro j y hj
      have e1 : ¬ nI j < nI c := nI_nlt (by omega) (by omega)
      unfold wtS
      simp (disch := first | exact xnl_i _ | exact xnl_r _ | exact xnl_u _ | exact xnl_n | exact zI_2 | exact zI_24 | assumption | omega | (simp only [xset_len]; omega)) only [↓reduceIte, xbd_s, xpv_n, xpv_s, e_X11_wouldTell_0, e_X11_wouldTell_1, e_X11_wouldTell_4, e_X11_wouldTell_7, e_X11_wouldTell_9, e_X11_wouldTell_10, e_X11_wouldTell_12, e_X11_wouldTell_13, e_X11_wouldTell_15, e_X11_wouldTell_17, e_X11_wouldTell_18, e_X11_wouldTell_21, e_X11_wouldTell_23, e_X11_wouldTell_25, e_X11_wouldTell_27, e_X11_wouldTell_28, e_X11_wouldTell_31, e_X11_wouldTell_34, e_X11_wouldTell_36, e_X11_wouldTell_37, c_X11_wouldTell_180_0_1, c_X11_wouldTell_180_1_1, c_X11_wouldTell_180_2_1, c_X11_wouldTell_180_4_1, c_X11_wouldTell_180_9_1, c_X11_wouldTell_263_7_1, e_X11_wouldTell_40, e_X11_wouldTell_41, e_X11_wouldTell_44, e_X11_wouldTell_46, e_X11_wouldTell_48, e_X11_wouldTell_49, e_X11_wouldTell_52, e_X11_wouldTell_53, e_X11_wouldTell_54, e_X11_wouldTell_56, e_X11_wouldTell_57, e_X11_wouldTell_60, e_X11_wouldTell_63, e_X11_wouldTell_64, e_X11_wouldTell_64_0, e_X11_wouldTell_64_1, e_X11_wouldTell_65, e_X11_wouldTell_68, e_X11_wouldTell_71, e_X11_wouldTell_72, e_X11_wouldTell_72_0, e_X11_wouldTell_72_1, g_11_10_10, g_11_116_3, g_11_171_3, g_11_25_10, e1]
    | succ e ih =>
      intro j y hj
      have e1 : nI j < nI c := nI_lt (by omega) (by omega)
      have q1 := r_itemAt hR (r := r) (i := i + j) hr8 (by omega)
      unfold wtS
      rw [e_X11_wouldTell_15]
      by_cases c1 : atS (y + fallS x dg (hr + nI j)) = it r (i + j)
      · simp (disch := first | exact xnl_i _ | exact xnl_r _ | exact xnl_u _ | exact xnl_n | exact zI_2 | exact zI_24 | assumption | omega | (simp only [xset_len]; omega)) only [↓reduceIte, xbd_s, xpv_n, xpv_s, r_tell_180, e_X11_wouldTell_0, e_X11_wouldTell_1, e_X11_wouldTell_4, e_X11_wouldTell_7, e_X11_wouldTell_9, e_X11_wouldTell_10, e_X11_wouldTell_12, e_X11_wouldTell_13, e_X11_wouldTell_17, e_X11_wouldTell_18, e_X11_wouldTell_21, e_X11_wouldTell_23, e_X11_wouldTell_25, e_X11_wouldTell_27, e_X11_wouldTell_28, e_X11_wouldTell_31, e_X11_wouldTell_34, e_X11_wouldTell_36, e_X11_wouldTell_37, c_X11_wouldTell_180_0_1, c_X11_wouldTell_180_1_1, c_X11_wouldTell_180_2_1, c_X11_wouldTell_180_4_1, c_X11_wouldTell_180_9_1, c_X11_wouldTell_263_7_1, e_X11_wouldTell_40, e_X11_wouldTell_41, e_X11_wouldTell_44, e_X11_wouldTell_46, e_X11_wouldTell_48, e_X11_wouldTell_49, e_X11_wouldTell_52, e_X11_wouldTell_53, e_X11_wouldTell_54, e_X11_wouldTell_56, e_X11_wouldTell_57, e_X11_wouldTell_60, e_X11_wouldTell_63, e_X11_wouldTell_64, e_X11_wouldTell_64_0, e_X11_wouldTell_64_1, e_X11_wouldTell_65, e_X11_wouldTell_68, e_X11_wouldTell_71, e_X11_wouldTell_72, e_X11_wouldTell_72_0, e_X11_wouldTell_72_1, g_11_10_10, g_11_116_3, g_11_171_3, g_11_25_10, hc, l0, r0, g2, r_atMost, nI_add, q1, e1, if_pos c1]
        exact ih (j + 1) _ (by omega)
      · simp (disch := first | exact xnl_i _ | exact xnl_r _ | exact xnl_u _ | exact xnl_n | exact zI_2 | exact zI_24 | assumption | omega | (simp only [xset_len]; omega)) only [↓reduceIte, xbd_s, xpv_n, xpv_s, r_tell_180, e_X11_wouldTell_0, e_X11_wouldTell_1, e_X11_wouldTell_4, e_X11_wouldTell_7, e_X11_wouldTell_9, e_X11_wouldTell_10, e_X11_wouldTell_12, e_X11_wouldTell_13, e_X11_wouldTell_17, e_X11_wouldTell_18, e_X11_wouldTell_21, e_X11_wouldTell_23, e_X11_wouldTell_25, e_X11_wouldTell_27, e_X11_wouldTell_28, e_X11_wouldTell_31, e_X11_wouldTell_34, e_X11_wouldTell_36, e_X11_wouldTell_37, c_X11_wouldTell_180_0_1, c_X11_wouldTell_180_1_1, c_X11_wouldTell_180_2_1, c_X11_wouldTell_180_4_1, c_X11_wouldTell_180_9_1, c_X11_wouldTell_263_7_1, e_X11_wouldTell_40, e_X11_wouldTell_41, e_X11_wouldTell_44, e_X11_wouldTell_46, e_X11_wouldTell_48, e_X11_wouldTell_49, e_X11_wouldTell_52, e_X11_wouldTell_53, e_X11_wouldTell_54, e_X11_wouldTell_56, e_X11_wouldTell_57, e_X11_wouldTell_60, e_X11_wouldTell_63, e_X11_wouldTell_64, e_X11_wouldTell_64_0, e_X11_wouldTell_64_1, e_X11_wouldTell_65, e_X11_wouldTell_68, e_X11_wouldTell_71, e_X11_wouldTell_72, e_X11_wouldTell_72_0, e_X11_wouldTell_72_1, g_11_10_10, g_11_116_3, g_11_171_3, g_11_25_10, hc, l0, r0, g2, r_atMost, nI_add, q1, e1, if_neg c1]
  simp (disch := first | exact xnl_i _ | exact xnl_r _ | exact xnl_u _ | exact xnl_n | exact zI_2 | exact zI_24 | assumption | omega | (simp only [xset_len]; omega)) only [↓reduceIte, xbd_s, xpv_n, xpv_s, e_X11_wouldTell_0, e_X11_wouldTell_1, e_X11_wouldTell_4, e_X11_wouldTell_7, e_X11_wouldTell_9, e_X11_wouldTell_10, e_X11_wouldTell_12, e_X11_wouldTell_13, e_X11_wouldTell_17, e_X11_wouldTell_18, e_X11_wouldTell_21, e_X11_wouldTell_23, e_X11_wouldTell_25, e_X11_wouldTell_27, e_X11_wouldTell_28, e_X11_wouldTell_31, e_X11_wouldTell_34, e_X11_wouldTell_36, e_X11_wouldTell_37, c_X11_wouldTell_180_0_1, c_X11_wouldTell_180_1_1, c_X11_wouldTell_180_2_1, c_X11_wouldTell_180_4_1, c_X11_wouldTell_180_9_1, c_X11_wouldTell_263_7_1, e_X11_wouldTell_40, e_X11_wouldTell_41, e_X11_wouldTell_44, e_X11_wouldTell_46, e_X11_wouldTell_48, e_X11_wouldTell_49, e_X11_wouldTell_52, e_X11_wouldTell_53, e_X11_wouldTell_54, e_X11_wouldTell_56, e_X11_wouldTell_57, e_X11_wouldTell_60, e_X11_wouldTell_63, e_X11_wouldTell_64, e_X11_wouldTell_64_0, e_X11_wouldTell_64_1, e_X11_wouldTell_65, e_X11_wouldTell_68, e_X11_wouldTell_71, e_X11_wouldTell_72, e_X11_wouldTell_72_0, e_X11_wouldTell_72_1, g_11_10_10, g_11_116_3, g_11_171_3, g_11_25_10, hc, l0, l1, xl_i]
  exact L c 0 _ rfl
theorem r_learntB (hC : xCB X h fi ta lf lib ol un) (hL : xLB X h lib pv hr d k a o) (hR : xRW X h it la si) {x i e s : Int32} (hq : (xR X m_X3_placeAt 0 [.ref lib, .int s] [] h = some (some .null, h)) ∨ ∃ q, xR X m_X3_placeAt 0 [.ref lib, .int s] [] h = some (some (.ref q), h)) (hx : (x < 0 ∨ ¬ x < nI 8) ∨ e < nI 1 ∨ nI 20 < e ∨ xR X m_X3_placeAt 0 [.ref lib, .int s] [] h = some (some .null, h)) : xR X m_X11_learnt 0 [.ref 16, .int x, .int i, .int e, .int s, xU, xU] [] h = some (some (.int cBAD), h) := by
  have hc : xget X h 16 = _ := hC
  have l0 := hL.1
  have r0 := hR.1
  by_cases c : x < 0 ∨ ¬ x < nI 8
  · have q := fun (p : Nat) (hh : xH) => r_isRowF (X := X) (h := hh) (q := p) c
    rcases hq with hq | ⟨qa, hq⟩
    all_goals simp (disch := first | exact xnl_i _ | exact xnl_r _ | exact xnl_u _ | exact xnl_n | exact zI_2 | exact zI_24 | assumption | omega | (simp only [xset_len]; omega)) only [↓reduceIte, xbd_s, xpv_n, xpv_s, e_X11_learnt_0, e_X11_learnt_0n, e_X11_learnt_1, e_X11_learnt_4, e_X11_learnt_6, c_X11_learnt_162_3_0, c_X11_learnt_43_7_0, c_X11_learnt_128_3_0, c_X11_learnt_57_7_1, c_X11_learnt_224_10_0, e_X11_learnt_9, e_X11_learnt_9n, e_X11_learnt_11, e_X11_learnt_11n, e_X11_learnt_12, e_X11_learnt_15, e_X11_learnt_16, e_X11_learnt_19, e_X11_learnt_22, e_X11_learnt_23, e_X11_learnt_24, e_X11_learnt_27, e_X11_learnt_28, e_X11_learnt_30, e_X11_learnt_33, e_X11_learnt_33n, e_X11_learnt_35n, e_X11_learnt_35, e_X11_learnt_38, e_X11_learnt_40, e_X11_learnt_41, e_X11_learnt_41n, e_X11_learnt_42, e_X11_learnt_45, e_X11_learnt_47, e_X11_learnt_50, e_X11_learnt_53, e_X11_learnt_55, e_X11_learnt_56, e_X11_learnt_56n, e_X11_learnt_57, e_X11_learnt_57n, e_X11_learnt_58, e_X11_learnt_61, e_X11_learnt_62, e_X11_learnt_63, e_X11_learnt_64, e_X11_learnt_67, e_X11_learnt_70, e_X11_learnt_70n, e_X11_learnt_71, e_X11_learnt_74, e_X11_learnt_77, e_X11_learnt_79, e_X11_learnt_79n, e_X11_learnt_80, e_X11_learnt_83, e_X11_learnt_84, e_X11_learnt_85, e_X11_learnt_86, e_X11_learnt_88, e_X11_learnt_90, e_X11_learnt_91, e_X11_learnt_94, e_X11_learnt_94n, e_X11_learnt_95, e_X11_learnt_96, e_X11_learnt_97, e_X11_learnt_98, e_X11_learnt_100, e_X11_learnt_100n, e_X11_learnt_102, e_X11_learnt_104, e_X11_learnt_107, e_X11_learnt_110, e_X11_learnt_112, e_X11_learnt_113, e_X11_learnt_116, e_X11_learnt_119, e_X11_learnt_121, g_11_10_10, g_11_25_10, g_11_48_10, p_11_48_10, hc, l0, r0, q, hq]
  · have q : ∀ hh : xH, xR X m_X8_isRow 0 [.ref 17, .int x] [] hh = some (some (.int (nI 1)), hh) := by
      intro hh
      rw [r_isRow, if_neg (fun e => c (Or.inl e)), if_pos (Classical.byContradiction fun e => c (Or.inr e))]
    have h2 := hx.resolve_left c
    by_cases c2 : e < nI 1
    · rcases hq with hq | ⟨qa, hq⟩
      all_goals simp (disch := first | exact xnl_i _ | exact xnl_r _ | exact xnl_u _ | exact xnl_n | exact zI_2 | exact zI_24 | assumption | omega | (simp only [xset_len]; omega)) only [↓reduceIte, xbd_s, xpv_n, xpv_s, e_X11_learnt_0, e_X11_learnt_0n, e_X11_learnt_1, e_X11_learnt_4, e_X11_learnt_6, c_X11_learnt_162_3_0, c_X11_learnt_43_7_0, c_X11_learnt_128_3_0, c_X11_learnt_57_7_1, c_X11_learnt_224_10_0, e_X11_learnt_9, e_X11_learnt_9n, e_X11_learnt_11, e_X11_learnt_11n, e_X11_learnt_12, e_X11_learnt_15, e_X11_learnt_16, e_X11_learnt_19, e_X11_learnt_22, e_X11_learnt_23, e_X11_learnt_24, e_X11_learnt_27, e_X11_learnt_28, e_X11_learnt_30, e_X11_learnt_33, e_X11_learnt_33n, e_X11_learnt_35n, e_X11_learnt_35, e_X11_learnt_38, e_X11_learnt_40, e_X11_learnt_41, e_X11_learnt_41n, e_X11_learnt_42, e_X11_learnt_45, e_X11_learnt_47, e_X11_learnt_50, e_X11_learnt_53, e_X11_learnt_55, e_X11_learnt_56, e_X11_learnt_56n, e_X11_learnt_57, e_X11_learnt_57n, e_X11_learnt_58, e_X11_learnt_61, e_X11_learnt_62, e_X11_learnt_63, e_X11_learnt_64, e_X11_learnt_67, e_X11_learnt_70, e_X11_learnt_70n, e_X11_learnt_71, e_X11_learnt_74, e_X11_learnt_77, e_X11_learnt_79, e_X11_learnt_79n, e_X11_learnt_80, e_X11_learnt_83, e_X11_learnt_84, e_X11_learnt_85, e_X11_learnt_86, e_X11_learnt_88, e_X11_learnt_90, e_X11_learnt_91, e_X11_learnt_94, e_X11_learnt_94n, e_X11_learnt_95, e_X11_learnt_96, e_X11_learnt_97, e_X11_learnt_98, e_X11_learnt_100, e_X11_learnt_100n, e_X11_learnt_102, e_X11_learnt_104, e_X11_learnt_107, e_X11_learnt_110, e_X11_learnt_112, e_X11_learnt_113, e_X11_learnt_116, e_X11_learnt_119, e_X11_learnt_121, g_11_10_10, g_11_25_10, g_11_48_10, p_11_48_10, hc, l0, r0, q, hq, zI_1, c2]
    · by_cases c3 : nI 20 < e
      · rcases hq with hq | ⟨qa, hq⟩
        all_goals simp (disch := first | exact xnl_i _ | exact xnl_r _ | exact xnl_u _ | exact xnl_n | exact zI_2 | exact zI_24 | assumption | omega | (simp only [xset_len]; omega)) only [↓reduceIte, xbd_s, xpv_n, xpv_s, e_X11_learnt_0, e_X11_learnt_0n, e_X11_learnt_1, e_X11_learnt_4, e_X11_learnt_6, c_X11_learnt_162_3_0, c_X11_learnt_43_7_0, c_X11_learnt_128_3_0, c_X11_learnt_57_7_1, c_X11_learnt_224_10_0, e_X11_learnt_9, e_X11_learnt_9n, e_X11_learnt_11, e_X11_learnt_11n, e_X11_learnt_12, e_X11_learnt_15, e_X11_learnt_16, e_X11_learnt_19, e_X11_learnt_22, e_X11_learnt_23, e_X11_learnt_24, e_X11_learnt_27, e_X11_learnt_28, e_X11_learnt_30, e_X11_learnt_33, e_X11_learnt_33n, e_X11_learnt_35n, e_X11_learnt_35, e_X11_learnt_38, e_X11_learnt_40, e_X11_learnt_41, e_X11_learnt_41n, e_X11_learnt_42, e_X11_learnt_45, e_X11_learnt_47, e_X11_learnt_50, e_X11_learnt_53, e_X11_learnt_55, e_X11_learnt_56, e_X11_learnt_56n, e_X11_learnt_57, e_X11_learnt_57n, e_X11_learnt_58, e_X11_learnt_61, e_X11_learnt_62, e_X11_learnt_63, e_X11_learnt_64, e_X11_learnt_67, e_X11_learnt_70, e_X11_learnt_70n, e_X11_learnt_71, e_X11_learnt_74, e_X11_learnt_77, e_X11_learnt_79, e_X11_learnt_79n, e_X11_learnt_80, e_X11_learnt_83, e_X11_learnt_84, e_X11_learnt_85, e_X11_learnt_86, e_X11_learnt_88, e_X11_learnt_90, e_X11_learnt_91, e_X11_learnt_94, e_X11_learnt_94n, e_X11_learnt_95, e_X11_learnt_96, e_X11_learnt_97, e_X11_learnt_98, e_X11_learnt_100, e_X11_learnt_100n, e_X11_learnt_102, e_X11_learnt_104, e_X11_learnt_107, e_X11_learnt_110, e_X11_learnt_112, e_X11_learnt_113, e_X11_learnt_116, e_X11_learnt_119, e_X11_learnt_121, g_11_10_10, g_11_25_10, g_11_48_10, p_11_48_10, hc, l0, r0, q, hq, zI_1, c2, c3]
      · have c4 := (h2.resolve_left c2).resolve_left c3
        simp (disch := first | exact xnl_i _ | exact xnl_r _ | exact xnl_u _ | exact xnl_n | exact zI_2 | exact zI_24 | assumption | omega | (simp only [xset_len]; omega)) only [↓reduceIte, xbd_s, xpv_n, xpv_s, e_X11_learnt_0, e_X11_learnt_0n, e_X11_learnt_1, e_X11_learnt_4, e_X11_learnt_6, c_X11_learnt_162_3_0, c_X11_learnt_43_7_0, c_X11_learnt_128_3_0, c_X11_learnt_57_7_1, c_X11_learnt_224_10_0, e_X11_learnt_9, e_X11_learnt_9n, e_X11_learnt_11, e_X11_learnt_11n, e_X11_learnt_12, e_X11_learnt_15, e_X11_learnt_16, e_X11_learnt_19, e_X11_learnt_22, e_X11_learnt_23, e_X11_learnt_24, e_X11_learnt_27, e_X11_learnt_28, e_X11_learnt_30, e_X11_learnt_33, e_X11_learnt_33n, e_X11_learnt_35n, e_X11_learnt_35, e_X11_learnt_38, e_X11_learnt_40, e_X11_learnt_41, e_X11_learnt_41n, e_X11_learnt_42, e_X11_learnt_45, e_X11_learnt_47, e_X11_learnt_50, e_X11_learnt_53, e_X11_learnt_55, e_X11_learnt_56, e_X11_learnt_56n, e_X11_learnt_57, e_X11_learnt_57n, e_X11_learnt_58, e_X11_learnt_61, e_X11_learnt_62, e_X11_learnt_63, e_X11_learnt_64, e_X11_learnt_67, e_X11_learnt_70, e_X11_learnt_70n, e_X11_learnt_71, e_X11_learnt_74, e_X11_learnt_77, e_X11_learnt_79, e_X11_learnt_79n, e_X11_learnt_80, e_X11_learnt_83, e_X11_learnt_84, e_X11_learnt_85, e_X11_learnt_86, e_X11_learnt_88, e_X11_learnt_90, e_X11_learnt_91, e_X11_learnt_94, e_X11_learnt_94n, e_X11_learnt_95, e_X11_learnt_96, e_X11_learnt_97, e_X11_learnt_98, e_X11_learnt_100, e_X11_learnt_100n, e_X11_learnt_102, e_X11_learnt_104, e_X11_learnt_107, e_X11_learnt_110, e_X11_learnt_112, e_X11_learnt_113, e_X11_learnt_116, e_X11_learnt_119, e_X11_learnt_121, g_11_10_10, g_11_25_10, g_11_48_10, p_11_48_10, hc, l0, r0, q, c4, zI_1, c2, c3]
theorem r_learntS (hC : xCB X h fi ta lf lib ol un) (hL : xLB X h lib (.ref p) hr d k a o) (hP : xPB X h p n m pl fr to g u v) (hG : xGB X h n g so dr) (hR : xRW X h it la si) {r s : Nat} {i e : Int32} (hr8 : r < 8) (h1 : ¬ e < nI 1) (h2 : ¬ nI 20 < e) (hs : s < n) (ho : 0 < o s) : xR X m_X11_learnt 0 [.ref 16, .int (nI r), .int i, .int e, .int (nI s), xU, xU] [] h = some (some (.int cSTATE), h) := by
  have hc : xget X h 16 = _ := hC
  obtain ⟨q, ci, g1, g2, g3⟩ := hG s hs
  have q1 := r_placeAt hL hP hs g1
  have hn := hP.2.2.2.2.1
  have q2 := r_isOut (s := s) hL (by omega)
  rw [if_pos ho] at q2
  have q := fun hh : xH => r_isRowT (X := X) (h := hh) (q := 17) hr8
  have l0 := hL.1
  have r0 := hR.1
  simp (disch := first | exact xnl_i _ | exact xnl_r _ | exact xnl_u _ | exact xnl_n | exact zI_2 | exact zI_24 | assumption | omega | (simp only [xset_len]; omega)) only [↓reduceIte, xbd_s, xpv_n, xpv_s, e_X11_learnt_0, e_X11_learnt_0n, e_X11_learnt_1, e_X11_learnt_4, e_X11_learnt_6, c_X11_learnt_162_3_0, c_X11_learnt_43_7_0, c_X11_learnt_128_3_0, c_X11_learnt_57_7_1, c_X11_learnt_224_10_0, e_X11_learnt_9, e_X11_learnt_9n, e_X11_learnt_11, e_X11_learnt_11n, e_X11_learnt_12, e_X11_learnt_15, e_X11_learnt_16, e_X11_learnt_19, e_X11_learnt_22, e_X11_learnt_23, e_X11_learnt_24, e_X11_learnt_27, e_X11_learnt_28, e_X11_learnt_30, e_X11_learnt_33, e_X11_learnt_33n, e_X11_learnt_35n, e_X11_learnt_35, e_X11_learnt_38, e_X11_learnt_40, e_X11_learnt_41, e_X11_learnt_41n, e_X11_learnt_42, e_X11_learnt_45, e_X11_learnt_47, e_X11_learnt_50, e_X11_learnt_53, e_X11_learnt_55, e_X11_learnt_56, e_X11_learnt_56n, e_X11_learnt_57, e_X11_learnt_57n, e_X11_learnt_58, e_X11_learnt_61, e_X11_learnt_62, e_X11_learnt_63, e_X11_learnt_64, e_X11_learnt_67, e_X11_learnt_70, e_X11_learnt_70n, e_X11_learnt_71, e_X11_learnt_74, e_X11_learnt_77, e_X11_learnt_79, e_X11_learnt_79n, e_X11_learnt_80, e_X11_learnt_83, e_X11_learnt_84, e_X11_learnt_85, e_X11_learnt_86, e_X11_learnt_88, e_X11_learnt_90, e_X11_learnt_91, e_X11_learnt_94, e_X11_learnt_94n, e_X11_learnt_95, e_X11_learnt_96, e_X11_learnt_97, e_X11_learnt_98, e_X11_learnt_100, e_X11_learnt_100n, e_X11_learnt_102, e_X11_learnt_104, e_X11_learnt_107, e_X11_learnt_110, e_X11_learnt_112, e_X11_learnt_113, e_X11_learnt_116, e_X11_learnt_119, e_X11_learnt_121, g_11_10_10, g_11_25_10, g_11_48_10, p_11_48_10, hc, l0, r0, q, q1, q2, zI_1, h1, h2]
theorem r_learntF (hC : xCB X h fi ta lf lib ol un) (hL : xLB X h lib (.ref p) hr d k a o) (hP : xPB X h p n m pl fr to g u v) (hG : xGB X h n g so dr) (hR : xRW X h it la si) {r s : Nat} {i e : Int32} (hr8 : r < 8) (h1 : ¬ e < nI 1) (h2 : ¬ nI 20 < e) (hs : s < n) (ho : ¬ 0 < o s) (hf : ¬ fiA (si r) i e = 0) : xR X m_X11_learnt 0 [.ref 16, .int (nI r), .int i, .int e, .int (nI s), xU, xU] [] h = some (some (.int (cFIND - fiA (si r) i e)), xset h 16 (xCc (fiA (si r) i e) ta lf lib ol un)) := by
  have hc : xget X h 16 = _ := hC
  have lv := xg_live (by omega) hc
  obtain ⟨q, ci, g1, g2, g3⟩ := hG s hs
  have q1 := r_placeAt hL hP hs g1
  have hn := hP.2.2.2.2.1
  have q2 := r_isOut (s := s) hL (by omega)
  rw [if_neg ho] at q2
  have q := fun hh : xH => r_isRowT (X := X) (h := hh) (q := 17) hr8
  have q3 := r_findingAt hR hr8 i e
  have l0 := hL.1
  have r0 := hR.1
  simp (disch := first | exact xnl_i _ | exact xnl_r _ | exact xnl_u _ | exact xnl_n | exact zI_2 | exact zI_24 | assumption | omega | (simp only [xset_len]; omega)) only [↓reduceIte, xbd_s, xpv_n, xpv_s, e_X11_learnt_0, e_X11_learnt_0n, e_X11_learnt_1, e_X11_learnt_4, e_X11_learnt_6, c_X11_learnt_162_3_0, c_X11_learnt_43_7_0, c_X11_learnt_128_3_0, c_X11_learnt_57_7_1, c_X11_learnt_224_10_0, e_X11_learnt_9, e_X11_learnt_9n, e_X11_learnt_11, e_X11_learnt_11n, e_X11_learnt_12, e_X11_learnt_15, e_X11_learnt_16, e_X11_learnt_19, e_X11_learnt_22, e_X11_learnt_23, e_X11_learnt_24, e_X11_learnt_27, e_X11_learnt_28, e_X11_learnt_30, e_X11_learnt_33, e_X11_learnt_33n, e_X11_learnt_35n, e_X11_learnt_35, e_X11_learnt_38, e_X11_learnt_40, e_X11_learnt_41, e_X11_learnt_41n, e_X11_learnt_42, e_X11_learnt_45, e_X11_learnt_47, e_X11_learnt_50, e_X11_learnt_53, e_X11_learnt_55, e_X11_learnt_56, e_X11_learnt_56n, e_X11_learnt_57, e_X11_learnt_57n, e_X11_learnt_58, e_X11_learnt_61, e_X11_learnt_62, e_X11_learnt_63, e_X11_learnt_64, e_X11_learnt_67, e_X11_learnt_70, e_X11_learnt_70n, e_X11_learnt_71, e_X11_learnt_74, e_X11_learnt_77, e_X11_learnt_79, e_X11_learnt_79n, e_X11_learnt_80, e_X11_learnt_83, e_X11_learnt_84, e_X11_learnt_85, e_X11_learnt_86, e_X11_learnt_88, e_X11_learnt_90, e_X11_learnt_91, e_X11_learnt_94, e_X11_learnt_94n, e_X11_learnt_95, e_X11_learnt_96, e_X11_learnt_97, e_X11_learnt_98, e_X11_learnt_100, e_X11_learnt_100n, e_X11_learnt_102, e_X11_learnt_104, e_X11_learnt_107, e_X11_learnt_110, e_X11_learnt_112, e_X11_learnt_113, e_X11_learnt_116, e_X11_learnt_119, e_X11_learnt_121, g_11_10_10, g_11_25_10, g_11_48_10, p_11_48_10, hc, l0, r0, q, q1, q2, q3, zI_1, z0, h1, h2, xg_same, hf]
  rfl
theorem r_learnt (hlib : 16 < lib) (hC : xCB X h fi ta lf lib ol un) (hL : xLB X h lib (.ref p) hr d k a o) (hP : xPB X h p n m pl fr to g u v) (hG : xGB X h n g so dr) (hR : xRW X h it la si) {r s i e : Nat} (hr8 : r < 8) (h1 : 1 ≤ e) (h2 : e ≤ 20) (hs : s < n) (ho : ¬ 0 < o s) (hf : fiA (si r) (nI i) (nI e) = 0) (hi : i + e ≤ 40) : xR X m_X11_learnt 0 [.ref 16, .int (nI r), .int (nI i), .int (nI e), .int (nI s), xU, xU] [] h = some (some (.int (lnS (fun j => wtS (fun t => fallS (so s) (nI j) (hr + t)) (fun j => it r (i + j)) e 0 (d s)) 5 1)), xset h 16 (xCc 0 ta lf lib ol un)) := by
  have hc : xget X h 16 = _ := hC
  have lv := xg_live (by omega) hc
  obtain ⟨q, ci, g1, g2, g3⟩ := hG s hs
  have q1 := r_placeAt hL hP hs g1
  have hn := hP.2.2.2.2.1
  have q2 := r_isOut (s := s) hL (by omega)
  rw [if_neg ho] at q2
  have qq := fun hh : xH => r_isRowT (X := X) (h := hh) (q := 17) hr8
  have q3 := r_findingAt hR hr8 (nI i) (nI e)
  rw [hf] at q3
  have l0 := hL.1
  have r0 := hR.1
  have c1 : ¬ nI e < nI 1 := nI_nlt h1 (by omega)
  have c2 : ¬ nI 20 < nI e := nI_nlt h2 (by omega)
  have hq : q ≠ 16 := by
    intro hq
    rw [hq, hc] at g2
    cases g2
  have f1 : xFr X (fun c => c = 16) h (xset h 16 (xCc 0 ta lf lib ol un)) := xFr_set (by omega) rfl
  have hR1 := xRW_fr hR f1 (by omega)
  have hC1 : xCB X (xset h 16 (xCc 0 ta lf lib ol un)) 0 ta lf lib ol un := xCB_set hC
  have hL1 := xLB_fr hL f1 (by unfold inL; omega)
  have g4 := (f1.2 q hq).trans g2
  have q5 := fun j : Nat => r_wouldTell hC1 hL1 hR1 (r := r) (i := i) (c := e) (s := s) (dg := nI j) hr8 hi (by omega) g4 g3
  have L : ∀ c j, c + j = 6 → xR X m_X11_learnt 88 [.ref 16, .int (nI r), .int (nI i), .int (nI e), .int (nI s), .ref q, .int (nI j)] [] (xset h 16 (xCc 0 ta lf lib ol un)) = some (some (.int (lnS (fun j => wtS (fun t => fallS (so s) (nI j) (hr + t)) (fun j => it r (i + j)) e 0 (d s)) c j)), xset h 16 (xCc 0 ta lf lib ol un)) := by
    have hc1 : xget X (xset h 16 (xCc 0 ta lf lib ol un)) 16 = _ := hC1
    generalize xset h 16 (xCc 0 ta lf lib ol un) = h1 at q5 hc1 ⊢
    intro c
    induction c with
    | zero =>
      intro j hj
      have e1 : nI 5 < nI j := nI_lt (by omega) (by omega)
      unfold lnS
      simp (disch := first | exact xnl_i _ | exact xnl_r _ | exact xnl_u _ | exact xnl_n | exact zI_2 | exact zI_24 | assumption | omega | (simp only [xset_len]; omega)) only [↓reduceIte, xbd_s, xpv_n, xpv_s, e_X11_learnt_0, e_X11_learnt_0n, e_X11_learnt_1, e_X11_learnt_4, e_X11_learnt_6, c_X11_learnt_162_3_0, c_X11_learnt_43_7_0, c_X11_learnt_128_3_0, c_X11_learnt_57_7_1, c_X11_learnt_224_10_0, e_X11_learnt_9, e_X11_learnt_9n, e_X11_learnt_11, e_X11_learnt_11n, e_X11_learnt_12, e_X11_learnt_15, e_X11_learnt_16, e_X11_learnt_19, e_X11_learnt_22, e_X11_learnt_23, e_X11_learnt_24, e_X11_learnt_27, e_X11_learnt_28, e_X11_learnt_30, e_X11_learnt_33, e_X11_learnt_33n, e_X11_learnt_35n, e_X11_learnt_35, e_X11_learnt_38, e_X11_learnt_40, e_X11_learnt_41, e_X11_learnt_41n, e_X11_learnt_42, e_X11_learnt_45, e_X11_learnt_47, e_X11_learnt_50, e_X11_learnt_53, e_X11_learnt_55, e_X11_learnt_56, e_X11_learnt_56n, e_X11_learnt_57, e_X11_learnt_57n, e_X11_learnt_58, e_X11_learnt_61, e_X11_learnt_62, e_X11_learnt_63, e_X11_learnt_64, e_X11_learnt_67, e_X11_learnt_70, e_X11_learnt_70n, e_X11_learnt_71, e_X11_learnt_74, e_X11_learnt_77, e_X11_learnt_79, e_X11_learnt_79n, e_X11_learnt_80, e_X11_learnt_83, e_X11_learnt_84, e_X11_learnt_85, e_X11_learnt_86, e_X11_learnt_88, e_X11_learnt_90, e_X11_learnt_91, e_X11_learnt_94, e_X11_learnt_94n, e_X11_learnt_95, e_X11_learnt_96, e_X11_learnt_97, e_X11_learnt_98, e_X11_learnt_100, e_X11_learnt_100n, e_X11_learnt_102, e_X11_learnt_104, e_X11_learnt_107, e_X11_learnt_110, e_X11_learnt_112, e_X11_learnt_113, e_X11_learnt_116, e_X11_learnt_119, e_X11_learnt_121, g_11_10_10, g_11_25_10, g_11_48_10, p_11_48_10, e1]
    | succ c ih =>
      intro j hj
      have e1 : ¬ nI 5 < nI j := nI_nlt (by omega) (by omega)
      have q6 := q5 j
      unfold lnS
      rw [e_X11_learnt_88]
      rcases wtS_01 (fun t => fallS (so s) (nI j) (hr + t)) (fun j => it r (i + j)) e 0 (d s) with w | w
      · rw [w] at q6
        simp (disch := first | exact xnl_i _ | exact xnl_r _ | exact xnl_u _ | exact xnl_n | exact zI_2 | exact zI_24 | assumption | omega | (simp only [xset_len]; omega)) only [↓reduceIte, xbd_s, xpv_n, xpv_s, e_X11_learnt_0, e_X11_learnt_0n, e_X11_learnt_1, e_X11_learnt_4, e_X11_learnt_6, c_X11_learnt_162_3_0, c_X11_learnt_43_7_0, c_X11_learnt_128_3_0, c_X11_learnt_57_7_1, c_X11_learnt_224_10_0, e_X11_learnt_9, e_X11_learnt_9n, e_X11_learnt_11, e_X11_learnt_11n, e_X11_learnt_12, e_X11_learnt_15, e_X11_learnt_16, e_X11_learnt_19, e_X11_learnt_22, e_X11_learnt_23, e_X11_learnt_24, e_X11_learnt_27, e_X11_learnt_28, e_X11_learnt_30, e_X11_learnt_33, e_X11_learnt_33n, e_X11_learnt_35n, e_X11_learnt_35, e_X11_learnt_38, e_X11_learnt_40, e_X11_learnt_41, e_X11_learnt_41n, e_X11_learnt_42, e_X11_learnt_45, e_X11_learnt_47, e_X11_learnt_50, e_X11_learnt_53, e_X11_learnt_55, e_X11_learnt_56, e_X11_learnt_56n, e_X11_learnt_57, e_X11_learnt_57n, e_X11_learnt_58, e_X11_learnt_61, e_X11_learnt_62, e_X11_learnt_63, e_X11_learnt_64, e_X11_learnt_67, e_X11_learnt_70, e_X11_learnt_70n, e_X11_learnt_71, e_X11_learnt_74, e_X11_learnt_77, e_X11_learnt_79, e_X11_learnt_79n, e_X11_learnt_80, e_X11_learnt_83, e_X11_learnt_84, e_X11_learnt_85, e_X11_learnt_86, e_X11_learnt_90, e_X11_learnt_91, e_X11_learnt_94, e_X11_learnt_94n, e_X11_learnt_95, e_X11_learnt_96, e_X11_learnt_97, e_X11_learnt_98, e_X11_learnt_100, e_X11_learnt_100n, e_X11_learnt_102, e_X11_learnt_104, e_X11_learnt_107, e_X11_learnt_110, e_X11_learnt_112, e_X11_learnt_113, e_X11_learnt_116, e_X11_learnt_119, e_X11_learnt_121, g_11_10_10, g_11_25_10, g_11_48_10, p_11_48_10, hc1, q6, e1, nI_inc, w]
        exact ih (j + 1) (by omega)
      · rw [w] at q6
        simp (disch := first | exact xnl_i _ | exact xnl_r _ | exact xnl_u _ | exact xnl_n | exact zI_2 | exact zI_24 | assumption | omega | (simp only [xset_len]; omega)) only [↓reduceIte, xbd_s, xpv_n, xpv_s, e_X11_learnt_0, e_X11_learnt_0n, e_X11_learnt_1, e_X11_learnt_4, e_X11_learnt_6, c_X11_learnt_162_3_0, c_X11_learnt_43_7_0, c_X11_learnt_128_3_0, c_X11_learnt_57_7_1, c_X11_learnt_224_10_0, e_X11_learnt_9, e_X11_learnt_9n, e_X11_learnt_11, e_X11_learnt_11n, e_X11_learnt_12, e_X11_learnt_15, e_X11_learnt_16, e_X11_learnt_19, e_X11_learnt_22, e_X11_learnt_23, e_X11_learnt_24, e_X11_learnt_27, e_X11_learnt_28, e_X11_learnt_30, e_X11_learnt_33, e_X11_learnt_33n, e_X11_learnt_35n, e_X11_learnt_35, e_X11_learnt_38, e_X11_learnt_40, e_X11_learnt_41, e_X11_learnt_41n, e_X11_learnt_42, e_X11_learnt_45, e_X11_learnt_47, e_X11_learnt_50, e_X11_learnt_53, e_X11_learnt_55, e_X11_learnt_56, e_X11_learnt_56n, e_X11_learnt_57, e_X11_learnt_57n, e_X11_learnt_58, e_X11_learnt_61, e_X11_learnt_62, e_X11_learnt_63, e_X11_learnt_64, e_X11_learnt_67, e_X11_learnt_70, e_X11_learnt_70n, e_X11_learnt_71, e_X11_learnt_74, e_X11_learnt_77, e_X11_learnt_79, e_X11_learnt_79n, e_X11_learnt_80, e_X11_learnt_83, e_X11_learnt_84, e_X11_learnt_85, e_X11_learnt_86, e_X11_learnt_90, e_X11_learnt_91, e_X11_learnt_94, e_X11_learnt_94n, e_X11_learnt_95, e_X11_learnt_96, e_X11_learnt_97, e_X11_learnt_98, e_X11_learnt_100, e_X11_learnt_100n, e_X11_learnt_102, e_X11_learnt_104, e_X11_learnt_107, e_X11_learnt_110, e_X11_learnt_112, e_X11_learnt_113, e_X11_learnt_116, e_X11_learnt_119, e_X11_learnt_121, g_11_10_10, g_11_25_10, g_11_48_10, p_11_48_10, hc1, q6, e1, ne10, w]
  have L5 := L 5 1 rfl
  unfold xCc at L5 ⊢
  rw [← L5]
  simp (disch := first | exact xnl_i _ | exact xnl_r _ | exact xnl_u _ | exact xnl_n | exact zI_2 | exact zI_24 | assumption | omega | (simp only [xset_len]; omega)) only [↓reduceIte, xbd_s, xpv_n, xpv_s, e_X11_learnt_0, e_X11_learnt_0n, e_X11_learnt_1, e_X11_learnt_4, e_X11_learnt_6, c_X11_learnt_162_3_0, c_X11_learnt_43_7_0, c_X11_learnt_128_3_0, c_X11_learnt_57_7_1, c_X11_learnt_224_10_0, e_X11_learnt_9, e_X11_learnt_9n, e_X11_learnt_11, e_X11_learnt_11n, e_X11_learnt_12, e_X11_learnt_15, e_X11_learnt_16, e_X11_learnt_19, e_X11_learnt_22, e_X11_learnt_23, e_X11_learnt_24, e_X11_learnt_27, e_X11_learnt_28, e_X11_learnt_30, e_X11_learnt_33, e_X11_learnt_33n, e_X11_learnt_35n, e_X11_learnt_35, e_X11_learnt_38, e_X11_learnt_40, e_X11_learnt_41, e_X11_learnt_41n, e_X11_learnt_42, e_X11_learnt_45, e_X11_learnt_47, e_X11_learnt_50, e_X11_learnt_53, e_X11_learnt_55, e_X11_learnt_56, e_X11_learnt_56n, e_X11_learnt_57, e_X11_learnt_57n, e_X11_learnt_58, e_X11_learnt_61, e_X11_learnt_62, e_X11_learnt_63, e_X11_learnt_64, e_X11_learnt_67, e_X11_learnt_70, e_X11_learnt_70n, e_X11_learnt_71, e_X11_learnt_74, e_X11_learnt_77, e_X11_learnt_79, e_X11_learnt_79n, e_X11_learnt_80, e_X11_learnt_83, e_X11_learnt_84, e_X11_learnt_85, e_X11_learnt_86, e_X11_learnt_90, e_X11_learnt_91, e_X11_learnt_94, e_X11_learnt_94n, e_X11_learnt_95, e_X11_learnt_96, e_X11_learnt_97, e_X11_learnt_98, e_X11_learnt_100, e_X11_learnt_100n, e_X11_learnt_102, e_X11_learnt_104, e_X11_learnt_107, e_X11_learnt_110, e_X11_learnt_112, e_X11_learnt_113, e_X11_learnt_116, e_X11_learnt_119, e_X11_learnt_121, g_11_10_10, g_11_25_10, g_11_48_10, p_11_48_10, hc, l0, r0, qq, q1, q2, q3, zI_1, z0, c1, c2, xg_same]
/-- SIZE and MARK: what is answered, which BODIES begin -/
def azS (so nu dr du : Int32) : Int32 := if so = nI 1 then dr + (nu + du) else if so = nI 2 then -(dr + (nI 2 * (nu + du))) else if so = nI 3 then dr + (nu + du - nI 1000) else if so = nI 4 then dr - nI 100 else nI 2 * (dr - nI 100)
def azB (so : Int32) : List Int32 := if so = nI 1 then [nI 11, nI 10, nI 21, nI 20] else if so = nI 2 then [nI 12, nI 11, nI 10, nI 24, nI 21, nI 20] else if so = nI 3 then [nI 11, nI 10, nI 22, nI 21, nI 20] else if so = nI 4 then [nI 13, nI 10] else [nI 14, nI 13, nI 10]
def amS (so nu dr du : Int32) : Int32 := if so = nI 1 then nu + du else if so = nI 2 then nI 2 * (nu + du) else if so = nI 3 then nu + du - nI 1000 else if so = nI 4 then nu - (dr - nI 100) else nu - (nI 2 * (dr - nI 100))
def amB (so : Int32) : List Int32 := if so = nI 1 then [nI 21, nI 20] else if so = nI 2 then [nI 24, nI 21, nI 20] else if so = nI 3 then [nI 22, nI 21, nI 20] else if so = nI 4 then [nI 23, nI 20, nI 13, nI 10] else [nI 23, nI 20, nI 14, nI 13, nI 10]
theorem azS_1 (nu dr du : Int32) : azS (nI 1) nu dr du = dr + (nu + du) := by unfold azS; simp (decide := true) only [↓reduceIte]
theorem azB_1 : azB (nI 1) = [nI 11, nI 10, nI 21, nI 20] := by unfold azB; simp (decide := true) only [↓reduceIte]
theorem azS_2 (nu dr du : Int32) : azS (nI 2) nu dr du = -(dr + (nI 2 * (nu + du))) := by unfold azS; simp (decide := true) only [↓reduceIte]
theorem azB_2 : azB (nI 2) = [nI 12, nI 11, nI 10, nI 24, nI 21, nI 20] := by unfold azB; simp (decide := true) only [↓reduceIte]
theorem azS_3 (nu dr du : Int32) : azS (nI 3) nu dr du = dr + (nu + du - nI 1000) := by unfold azS; simp (decide := true) only [↓reduceIte]
theorem azB_3 : azB (nI 3) = [nI 11, nI 10, nI 22, nI 21, nI 20] := by unfold azB; simp (decide := true) only [↓reduceIte]
theorem azS_4 (nu dr du : Int32) : azS (nI 4) nu dr du = dr - nI 100 := by unfold azS; simp (decide := true) only [↓reduceIte]
theorem azB_4 : azB (nI 4) = [nI 13, nI 10] := by unfold azB; simp (decide := true) only [↓reduceIte]
theorem azS_5 (nu dr du : Int32) : azS (nI 5) nu dr du = nI 2 * (dr - nI 100) := by unfold azS; simp (decide := true) only [↓reduceIte]
theorem azB_5 : azB (nI 5) = [nI 14, nI 13, nI 10] := by unfold azB; simp (decide := true) only [↓reduceIte]
theorem amS_1 (nu dr du : Int32) : amS (nI 1) nu dr du = nu + du := by unfold amS; simp (decide := true) only [↓reduceIte]
theorem amB_1 : amB (nI 1) = [nI 21, nI 20] := by unfold amB; simp (decide := true) only [↓reduceIte]
theorem amS_2 (nu dr du : Int32) : amS (nI 2) nu dr du = nI 2 * (nu + du) := by unfold amS; simp (decide := true) only [↓reduceIte]
theorem amB_2 : amB (nI 2) = [nI 24, nI 21, nI 20] := by unfold amB; simp (decide := true) only [↓reduceIte]
theorem amS_3 (nu dr du : Int32) : amS (nI 3) nu dr du = nu + du - nI 1000 := by unfold amS; simp (decide := true) only [↓reduceIte]
theorem amB_3 : amB (nI 3) = [nI 22, nI 21, nI 20] := by unfold amB; simp (decide := true) only [↓reduceIte]
theorem amS_4 (nu dr du : Int32) : amS (nI 4) nu dr du = nu - (dr - nI 100) := by unfold amS; simp (decide := true) only [↓reduceIte]
theorem amB_4 : amB (nI 4) = [nI 23, nI 20, nI 13, nI 10] := by unfold amB; simp (decide := true) only [↓reduceIte]
theorem amS_5 (nu dr du : Int32) : amS (nI 5) nu dr du = nu - (nI 2 * (dr - nI 100)) := by unfold amS; simp (decide := true) only [↓reduceIte]
theorem amB_5 : amB (nI 5) = [nI 23, nI 20, nI 14, nI 13, nI 10] := by unfold amB; simp (decide := true) only [↓reduceIte]
theorem r_askN (hC : xCB X h fi ta lf lib ol un) (hL : xLB X h lib .null hr d k a o) (x w : Int32) : xR X m_X11_ask 0 [.ref 16, .int x, .int w, xU, xU] [] h = some (some (.int cBAD), h) := by
  have hc : xget X h 16 = _ := hC
  have q := r_placeAtN hL (x := x)
  have l0 := hL.1
  simp (disch := first | exact xnl_i _ | exact xnl_r _ | exact xnl_u _ | exact xnl_n | exact zI_2 | exact zI_24 | assumption | omega | (simp only [xset_len]; omega)) only [↓reduceIte, xbd_s, xpv_n, xpv_s, e_X11_ask_0, e_X11_ask_0n, e_X11_ask_1, e_X11_ask_4, e_X11_ask_5, c_X11_ask_162_3_0, c_X11_ask_238_8_0, c_X11_ask_241_0_0, c_X11_ask_241_1_0, c_X11_ask_241_2_0, c_X11_ask_241_4_0, c_X11_ask_241_9_0, c_X11_ask_245_0_0, c_X11_ask_245_1_0, c_X11_ask_245_2_0, c_X11_ask_245_4_0, c_X11_ask_245_9_0, e_X11_ask_8, e_X11_ask_8n, e_X11_ask_9, e_X11_ask_9n, e_X11_ask_10n, e_X11_ask_10, e_X11_ask_13, e_X11_ask_14, e_X11_ask_17, e_X11_ask_20, e_X11_ask_22, e_X11_ask_23, e_X11_ask_23n, e_X11_ask_24, e_X11_ask_27, e_X11_ask_30, e_X11_ask_30n, e_X11_ask_31, e_X11_ask_34, e_X11_ask_37, e_X11_ask_38, e_X11_ask_39, e_X11_ask_41, e_X11_ask_42, e_X11_ask_45, e_X11_ask_45n, e_X11_ask_46, e_X11_ask_46n, e_X11_ask_47, e_X11_ask_50, e_X11_ask_52, e_X11_ask_55, e_X11_ask_58, e_X11_ask_58n, e_X11_ask_59, e_X11_ask_59n, e_X11_ask_60, e_X11_ask_63, e_X11_ask_65, e_X11_ask_68, g_11_171_3, g_11_25_10, g_11_39_10, hc, l0, q]
theorem r_askX (hC : xCB X h fi ta lf lib ol un) (hL : xLB X h lib (.ref p) hr d k a o) (hP : xPB X h p n m pl fr to g u v) {x : Int32} (w : Int32) (hx : x < 0 ∨ ¬ x < nI n) : xR X m_X11_ask 0 [.ref 16, .int x, .int w, xU, xU] [] h = some (some (.int cBAD), h) := by
  have hc : xget X h 16 = _ := hC
  have q := r_placeAtX hL hP hx
  have l0 := hL.1
  simp (disch := first | exact xnl_i _ | exact xnl_r _ | exact xnl_u _ | exact xnl_n | exact zI_2 | exact zI_24 | assumption | omega | (simp only [xset_len]; omega)) only [↓reduceIte, xbd_s, xpv_n, xpv_s, e_X11_ask_0, e_X11_ask_0n, e_X11_ask_1, e_X11_ask_4, e_X11_ask_5, c_X11_ask_162_3_0, c_X11_ask_238_8_0, c_X11_ask_241_0_0, c_X11_ask_241_1_0, c_X11_ask_241_2_0, c_X11_ask_241_4_0, c_X11_ask_241_9_0, c_X11_ask_245_0_0, c_X11_ask_245_1_0, c_X11_ask_245_2_0, c_X11_ask_245_4_0, c_X11_ask_245_9_0, e_X11_ask_8, e_X11_ask_8n, e_X11_ask_9, e_X11_ask_9n, e_X11_ask_10n, e_X11_ask_10, e_X11_ask_13, e_X11_ask_14, e_X11_ask_17, e_X11_ask_20, e_X11_ask_22, e_X11_ask_23, e_X11_ask_23n, e_X11_ask_24, e_X11_ask_27, e_X11_ask_30, e_X11_ask_30n, e_X11_ask_31, e_X11_ask_34, e_X11_ask_37, e_X11_ask_38, e_X11_ask_39, e_X11_ask_41, e_X11_ask_42, e_X11_ask_45, e_X11_ask_45n, e_X11_ask_46, e_X11_ask_46n, e_X11_ask_47, e_X11_ask_50, e_X11_ask_52, e_X11_ask_55, e_X11_ask_58, e_X11_ask_58n, e_X11_ask_59, e_X11_ask_59n, e_X11_ask_60, e_X11_ask_63, e_X11_ask_65, e_X11_ask_68, g_11_171_3, g_11_25_10, g_11_39_10, hc, l0, q]
theorem r_askE (hC : xCB X h fi ta lf lib ol un) (hL : xLB X h lib (.ref p) hr d k a o) (hP : xPB X h p n m pl fr to g u v) (hG : xGB X h n g so dr) {s : Nat} (hs : s < n) {w : Int32} (h0 : ¬ w = 0) (h1 : ¬ w = 1) : xR X m_X11_ask 0 [.ref 16, .int (nI s), .int w, xU, xU] [] h = some (some (.int cBAD), h) := by
  have hc : xget X h 16 = _ := hC
  obtain ⟨q, ci, g1, g2, g3⟩ := hG s hs
  have q := r_placeAt hL hP hs g1
  have l0 := hL.1
  have qe := fun hh : xH => r_isEitherF (X := X) (h := hh) h0 h1
  simp (disch := first | exact xnl_i _ | exact xnl_r _ | exact xnl_u _ | exact xnl_n | exact zI_2 | exact zI_24 | assumption | omega | (simp only [xset_len]; omega)) only [↓reduceIte, xbd_s, xpv_n, xpv_s, e_X11_ask_0, e_X11_ask_0n, e_X11_ask_1, e_X11_ask_4, e_X11_ask_5, c_X11_ask_162_3_0, c_X11_ask_238_8_0, c_X11_ask_241_0_0, c_X11_ask_241_1_0, c_X11_ask_241_2_0, c_X11_ask_241_4_0, c_X11_ask_241_9_0, c_X11_ask_245_0_0, c_X11_ask_245_1_0, c_X11_ask_245_2_0, c_X11_ask_245_4_0, c_X11_ask_245_9_0, e_X11_ask_8, e_X11_ask_8n, e_X11_ask_9, e_X11_ask_9n, e_X11_ask_10n, e_X11_ask_10, e_X11_ask_13, e_X11_ask_14, e_X11_ask_17, e_X11_ask_20, e_X11_ask_22, e_X11_ask_23, e_X11_ask_23n, e_X11_ask_24, e_X11_ask_27, e_X11_ask_30, e_X11_ask_30n, e_X11_ask_31, e_X11_ask_34, e_X11_ask_37, e_X11_ask_38, e_X11_ask_39, e_X11_ask_41, e_X11_ask_42, e_X11_ask_45, e_X11_ask_45n, e_X11_ask_46, e_X11_ask_46n, e_X11_ask_47, e_X11_ask_50, e_X11_ask_52, e_X11_ask_55, e_X11_ask_58, e_X11_ask_58n, e_X11_ask_59, e_X11_ask_59n, e_X11_ask_60, e_X11_ask_63, e_X11_ask_65, e_X11_ask_68, g_11_171_3, g_11_25_10, g_11_39_10, hc, l0, q, qe]
theorem r_askZ (hlib : 16 < lib) (hlt : ∀ c, inL lib c → ¬ inT c) {len : Nat} {tr : Nat → Int32} (hC : xCB X h fi ta lf lib ol un) (hT : xTB X h len tr) (hL : xLB X h lib (.ref p) hr d k a o) (hP : xPB X h p n m pl fr to g u v) (hG : xGB X h n g so dr) {s : Nat} (hs : s < n) : ∃ h', xR X m_X11_ask 0 [.ref 16, .int (nI s), .int 0, xU, xU] [] h = some (some (.int (azS (so s) (nI s) (dr s) (d s))), h') ∧ xAk X h h' 0 tr (azB (so s)) := by
  have hc : xget X h 16 = _ := hC
  obtain ⟨q, ci, g1, g2, g3⟩ := hG s hs
  have q1 := r_placeAt hL hP hs g1
  have hn := hP.2.2.2.2.1
  have l0 := hL.1
  have lv := xg_live (by omega) hT.1
  have t0 := hT.1
  have hq : ¬ inT q := by
    intro hq
    rcases hq with rfl | rfl
    · rw [hT.1] at g2; cases g2
    · rw [hT.2] at g2; cases g2
  have f1 : xFr X inT h (xset h 167 (.inl (8, [.ref 168, .int (nI 0)]))) := xFr_set (by omega) (Or.inl rfl)
  have T1 : xTB X (xset h 167 (.inl (8, [.ref 168, .int (nI 0)]))) 0 tr := ⟨xg_same (by omega) lv, (xg_ne (by omega) (by omega)).trans hT.2⟩
  have hL1 := xLB_fr hL f1 hlt
  have l01 := hL1.1
  have l11 := hL1.2.1
  have hc1 := (f1.2 16 (by unfold inT; omega)).trans hc
  have g4 := (f1.2 q hq).trans g2
  generalize hh1 : xset h 167 (.inl (8, [.ref 168, .int (nI 0)])) = h1 at f1 T1 hL1 l01 l11 hc1 g4
  have s1 : xR X m_X11_ask 0 [.ref 16, .int (nI s), .int 0, xU, xU] [] h = xR X m_X11_ask 41 [.ref 16, .int (nI s), .int 0, .ref q, .int (d s)] [] h1 := by
    simp (disch := first | exact xnl_i _ | exact xnl_r _ | exact xnl_u _ | exact xnl_n | exact zI_2 | exact zI_24 | assumption | omega | (simp only [xset_len]; omega)) only [↓reduceIte, xbd_s, xpv_n, xpv_s, e_X9_clear_0, e_X9_clear_1, e_X9_clear_2, e_X9_clear_5, p_9_15_8, e_X11_ask_0, e_X11_ask_0n, e_X11_ask_1, e_X11_ask_4, e_X11_ask_5, c_X11_ask_162_3_0, c_X11_ask_238_8_0, c_X11_ask_241_0_0, c_X11_ask_241_1_0, c_X11_ask_241_2_0, c_X11_ask_241_4_0, c_X11_ask_241_9_0, c_X11_ask_245_0_0, c_X11_ask_245_1_0, c_X11_ask_245_2_0, c_X11_ask_245_4_0, c_X11_ask_245_9_0, e_X11_ask_8, e_X11_ask_8n, e_X11_ask_9, e_X11_ask_9n, e_X11_ask_10n, e_X11_ask_10, e_X11_ask_13, e_X11_ask_14, e_X11_ask_17, e_X11_ask_20, e_X11_ask_22, e_X11_ask_23, e_X11_ask_23n, e_X11_ask_24, e_X11_ask_27, e_X11_ask_30, e_X11_ask_30n, e_X11_ask_31, e_X11_ask_34, e_X11_ask_37, e_X11_ask_38, e_X11_ask_39, e_X11_ask_42, e_X11_ask_45, e_X11_ask_45n, e_X11_ask_46, e_X11_ask_46n, e_X11_ask_47, e_X11_ask_50, e_X11_ask_52, e_X11_ask_55, e_X11_ask_58, e_X11_ask_58n, e_X11_ask_59, e_X11_ask_59n, e_X11_ask_60, e_X11_ask_63, e_X11_ask_65, e_X11_ask_68, g_11_171_3, g_11_25_10, g_11_39_10, hc, l0, q1, r_isEither0, ne10, t0, hh1, hc1, l01, l11, xl_i]
  rw [s1]
  rcases g3 with ⟨rfl, e⟩ | ⟨rfl, e⟩ | ⟨rfl, e⟩ | ⟨rfl, e⟩ | ⟨rfl, e⟩
  · obtain ⟨h2, e2, k2⟩ := b_X4_askSize_4 (du := d s) h1 0 tr T1 (by simp only [List.length_cons, List.length_nil]; omega) g4
    refine ⟨h2, ?_, ?_⟩
    · rw [e, azS_1]
      simp (disch := first | exact xnl_i _ | exact xnl_r _ | exact xnl_u _ | exact xnl_n | exact zI_2 | exact zI_24 | assumption | omega | (simp only [xset_len]; omega)) only [↓reduceIte, xbd_s, xpv_n, xpv_s, e_X11_ask_0, e_X11_ask_0n, e_X11_ask_1, e_X11_ask_4, e_X11_ask_5, c_X11_ask_162_3_0, c_X11_ask_238_8_0, c_X11_ask_241_0_0, c_X11_ask_241_1_0, c_X11_ask_241_2_0, c_X11_ask_241_4_0, c_X11_ask_241_9_0, c_X11_ask_245_0_0, c_X11_ask_245_1_0, c_X11_ask_245_2_0, c_X11_ask_245_4_0, c_X11_ask_245_9_0, e_X11_ask_8, e_X11_ask_8n, e_X11_ask_9, e_X11_ask_9n, e_X11_ask_10n, e_X11_ask_10, e_X11_ask_13, e_X11_ask_14, e_X11_ask_17, e_X11_ask_20, e_X11_ask_22, e_X11_ask_23, e_X11_ask_23n, e_X11_ask_24, e_X11_ask_27, e_X11_ask_30, e_X11_ask_30n, e_X11_ask_31, e_X11_ask_34, e_X11_ask_37, e_X11_ask_38, e_X11_ask_39, e_X11_ask_41, e_X11_ask_42, e_X11_ask_45, e_X11_ask_45n, e_X11_ask_46, e_X11_ask_46n, e_X11_ask_47, e_X11_ask_50, e_X11_ask_52, e_X11_ask_55, e_X11_ask_58, e_X11_ask_58n, e_X11_ask_59, e_X11_ask_59n, e_X11_ask_60, e_X11_ask_63, e_X11_ask_65, e_X11_ask_68, g_11_171_3, g_11_25_10, g_11_39_10, hc1, g4, e2, ne10]
    · rw [e, azB_1]
      exact ⟨k2.1, xFr_tr f1 k2.2⟩
  · obtain ⟨h2, e2, k2⟩ := b_X10_askSize_9 (du := d s) h1 0 tr T1 (by simp only [List.length_cons, List.length_nil]; omega) g4
    refine ⟨h2, ?_, ?_⟩
    · rw [e, azS_2]
      simp (disch := first | exact xnl_i _ | exact xnl_r _ | exact xnl_u _ | exact xnl_n | exact zI_2 | exact zI_24 | assumption | omega | (simp only [xset_len]; omega)) only [↓reduceIte, xbd_s, xpv_n, xpv_s, e_X11_ask_0, e_X11_ask_0n, e_X11_ask_1, e_X11_ask_4, e_X11_ask_5, c_X11_ask_162_3_0, c_X11_ask_238_8_0, c_X11_ask_241_0_0, c_X11_ask_241_1_0, c_X11_ask_241_2_0, c_X11_ask_241_4_0, c_X11_ask_241_9_0, c_X11_ask_245_0_0, c_X11_ask_245_1_0, c_X11_ask_245_2_0, c_X11_ask_245_4_0, c_X11_ask_245_9_0, e_X11_ask_8, e_X11_ask_8n, e_X11_ask_9, e_X11_ask_9n, e_X11_ask_10n, e_X11_ask_10, e_X11_ask_13, e_X11_ask_14, e_X11_ask_17, e_X11_ask_20, e_X11_ask_22, e_X11_ask_23, e_X11_ask_23n, e_X11_ask_24, e_X11_ask_27, e_X11_ask_30, e_X11_ask_30n, e_X11_ask_31, e_X11_ask_34, e_X11_ask_37, e_X11_ask_38, e_X11_ask_39, e_X11_ask_41, e_X11_ask_42, e_X11_ask_45, e_X11_ask_45n, e_X11_ask_46, e_X11_ask_46n, e_X11_ask_47, e_X11_ask_50, e_X11_ask_52, e_X11_ask_55, e_X11_ask_58, e_X11_ask_58n, e_X11_ask_59, e_X11_ask_59n, e_X11_ask_60, e_X11_ask_63, e_X11_ask_65, e_X11_ask_68, g_11_171_3, g_11_25_10, g_11_39_10, hc1, g4, e2, ne10]
    · rw [e, azB_2]
      exact ⟨k2.1, xFr_tr f1 k2.2⟩
  · obtain ⟨h2, e2, k2⟩ := b_X4_askSize_2 (du := d s) h1 0 tr T1 (by simp only [List.length_cons, List.length_nil]; omega) g4
    refine ⟨h2, ?_, ?_⟩
    · rw [e, azS_3]
      simp (disch := first | exact xnl_i _ | exact xnl_r _ | exact xnl_u _ | exact xnl_n | exact zI_2 | exact zI_24 | assumption | omega | (simp only [xset_len]; omega)) only [↓reduceIte, xbd_s, xpv_n, xpv_s, e_X11_ask_0, e_X11_ask_0n, e_X11_ask_1, e_X11_ask_4, e_X11_ask_5, c_X11_ask_162_3_0, c_X11_ask_238_8_0, c_X11_ask_241_0_0, c_X11_ask_241_1_0, c_X11_ask_241_2_0, c_X11_ask_241_4_0, c_X11_ask_241_9_0, c_X11_ask_245_0_0, c_X11_ask_245_1_0, c_X11_ask_245_2_0, c_X11_ask_245_4_0, c_X11_ask_245_9_0, e_X11_ask_8, e_X11_ask_8n, e_X11_ask_9, e_X11_ask_9n, e_X11_ask_10n, e_X11_ask_10, e_X11_ask_13, e_X11_ask_14, e_X11_ask_17, e_X11_ask_20, e_X11_ask_22, e_X11_ask_23, e_X11_ask_23n, e_X11_ask_24, e_X11_ask_27, e_X11_ask_30, e_X11_ask_30n, e_X11_ask_31, e_X11_ask_34, e_X11_ask_37, e_X11_ask_38, e_X11_ask_39, e_X11_ask_41, e_X11_ask_42, e_X11_ask_45, e_X11_ask_45n, e_X11_ask_46, e_X11_ask_46n, e_X11_ask_47, e_X11_ask_50, e_X11_ask_52, e_X11_ask_55, e_X11_ask_58, e_X11_ask_58n, e_X11_ask_59, e_X11_ask_59n, e_X11_ask_60, e_X11_ask_63, e_X11_ask_65, e_X11_ask_68, g_11_171_3, g_11_25_10, g_11_39_10, hc1, g4, e2, ne10]
    · rw [e, azB_3]
      exact ⟨k2.1, xFr_tr f1 k2.2⟩
  · obtain ⟨h2, e2, k2⟩ := b_X0_askSize (Or.inl rfl) (du := d s) h1 0 tr T1 (by simp only [List.length_cons, List.length_nil]; omega) g4
    refine ⟨h2, ?_, ?_⟩
    · rw [e, azS_4]
      simp (disch := first | exact xnl_i _ | exact xnl_r _ | exact xnl_u _ | exact xnl_n | exact zI_2 | exact zI_24 | assumption | omega | (simp only [xset_len]; omega)) only [↓reduceIte, xbd_s, xpv_n, xpv_s, e_X11_ask_0, e_X11_ask_0n, e_X11_ask_1, e_X11_ask_4, e_X11_ask_5, c_X11_ask_162_3_0, c_X11_ask_238_8_0, c_X11_ask_241_0_0, c_X11_ask_241_1_0, c_X11_ask_241_2_0, c_X11_ask_241_4_0, c_X11_ask_241_9_0, c_X11_ask_245_0_0, c_X11_ask_245_1_0, c_X11_ask_245_2_0, c_X11_ask_245_4_0, c_X11_ask_245_9_0, e_X11_ask_8, e_X11_ask_8n, e_X11_ask_9, e_X11_ask_9n, e_X11_ask_10n, e_X11_ask_10, e_X11_ask_13, e_X11_ask_14, e_X11_ask_17, e_X11_ask_20, e_X11_ask_22, e_X11_ask_23, e_X11_ask_23n, e_X11_ask_24, e_X11_ask_27, e_X11_ask_30, e_X11_ask_30n, e_X11_ask_31, e_X11_ask_34, e_X11_ask_37, e_X11_ask_38, e_X11_ask_39, e_X11_ask_41, e_X11_ask_42, e_X11_ask_45, e_X11_ask_45n, e_X11_ask_46, e_X11_ask_46n, e_X11_ask_47, e_X11_ask_50, e_X11_ask_52, e_X11_ask_55, e_X11_ask_58, e_X11_ask_58n, e_X11_ask_59, e_X11_ask_59n, e_X11_ask_60, e_X11_ask_63, e_X11_ask_65, e_X11_ask_68, g_11_171_3, g_11_25_10, g_11_39_10, hc1, g4, e2, ne10]
    · rw [e, azB_4]
      exact ⟨k2.1, xFr_tr f1 k2.2⟩
  · obtain ⟨h2, e2, k2⟩ := b_X1_askSize_1 (du := d s) h1 0 tr T1 (by simp only [List.length_cons, List.length_nil]; omega) g4
    refine ⟨h2, ?_, ?_⟩
    · rw [e, azS_5]
      simp (disch := first | exact xnl_i _ | exact xnl_r _ | exact xnl_u _ | exact xnl_n | exact zI_2 | exact zI_24 | assumption | omega | (simp only [xset_len]; omega)) only [↓reduceIte, xbd_s, xpv_n, xpv_s, e_X11_ask_0, e_X11_ask_0n, e_X11_ask_1, e_X11_ask_4, e_X11_ask_5, c_X11_ask_162_3_0, c_X11_ask_238_8_0, c_X11_ask_241_0_0, c_X11_ask_241_1_0, c_X11_ask_241_2_0, c_X11_ask_241_4_0, c_X11_ask_241_9_0, c_X11_ask_245_0_0, c_X11_ask_245_1_0, c_X11_ask_245_2_0, c_X11_ask_245_4_0, c_X11_ask_245_9_0, e_X11_ask_8, e_X11_ask_8n, e_X11_ask_9, e_X11_ask_9n, e_X11_ask_10n, e_X11_ask_10, e_X11_ask_13, e_X11_ask_14, e_X11_ask_17, e_X11_ask_20, e_X11_ask_22, e_X11_ask_23, e_X11_ask_23n, e_X11_ask_24, e_X11_ask_27, e_X11_ask_30, e_X11_ask_30n, e_X11_ask_31, e_X11_ask_34, e_X11_ask_37, e_X11_ask_38, e_X11_ask_39, e_X11_ask_41, e_X11_ask_42, e_X11_ask_45, e_X11_ask_45n, e_X11_ask_46, e_X11_ask_46n, e_X11_ask_47, e_X11_ask_50, e_X11_ask_52, e_X11_ask_55, e_X11_ask_58, e_X11_ask_58n, e_X11_ask_59, e_X11_ask_59n, e_X11_ask_60, e_X11_ask_63, e_X11_ask_65, e_X11_ask_68, g_11_171_3, g_11_25_10, g_11_39_10, hc1, g4, e2, ne10]
    · rw [e, azB_5]
      exact ⟨k2.1, xFr_tr f1 k2.2⟩
theorem r_askM (hlib : 16 < lib) (hlt : ∀ c, inL lib c → ¬ inT c) {len : Nat} {tr : Nat → Int32} (hC : xCB X h fi ta lf lib ol un) (hT : xTB X h len tr) (hL : xLB X h lib (.ref p) hr d k a o) (hP : xPB X h p n m pl fr to g u v) (hG : xGB X h n g so dr) {s : Nat} (hs : s < n) : ∃ h', xR X m_X11_ask 0 [.ref 16, .int (nI s), .int 1, xU, xU] [] h = some (some (.int (amS (so s) (nI s) (dr s) (d s))), h') ∧ xAk X h h' 0 tr (amB (so s)) := by
  have hc : xget X h 16 = _ := hC
  obtain ⟨q, ci, g1, g2, g3⟩ := hG s hs
  have q1 := r_placeAt hL hP hs g1
  have hn := hP.2.2.2.2.1
  have l0 := hL.1
  have lv := xg_live (by omega) hT.1
  have t0 := hT.1
  have hq : ¬ inT q := by
    intro hq
    rcases hq with rfl | rfl
    · rw [hT.1] at g2; cases g2
    · rw [hT.2] at g2; cases g2
  have f1 : xFr X inT h (xset h 167 (.inl (8, [.ref 168, .int (nI 0)]))) := xFr_set (by omega) (Or.inl rfl)
  have T1 : xTB X (xset h 167 (.inl (8, [.ref 168, .int (nI 0)]))) 0 tr := ⟨xg_same (by omega) lv, (xg_ne (by omega) (by omega)).trans hT.2⟩
  have hL1 := xLB_fr hL f1 hlt
  have l01 := hL1.1
  have l11 := hL1.2.1
  have hc1 := (f1.2 16 (by unfold inT; omega)).trans hc
  have g4 := (f1.2 q hq).trans g2
  generalize hh1 : xset h 167 (.inl (8, [.ref 168, .int (nI 0)])) = h1 at f1 T1 hL1 l01 l11 hc1 g4
  have s1 : xR X m_X11_ask 0 [.ref 16, .int (nI s), .int 1, xU, xU] [] h = xR X m_X11_ask 41 [.ref 16, .int (nI s), .int 1, .ref q, .int (d s)] [] h1 := by
    simp (disch := first | exact xnl_i _ | exact xnl_r _ | exact xnl_u _ | exact xnl_n | exact zI_2 | exact zI_24 | assumption | omega | (simp only [xset_len]; omega)) only [↓reduceIte, xbd_s, xpv_n, xpv_s, e_X9_clear_0, e_X9_clear_1, e_X9_clear_2, e_X9_clear_5, p_9_15_8, e_X11_ask_0, e_X11_ask_0n, e_X11_ask_1, e_X11_ask_4, e_X11_ask_5, c_X11_ask_162_3_0, c_X11_ask_238_8_0, c_X11_ask_241_0_0, c_X11_ask_241_1_0, c_X11_ask_241_2_0, c_X11_ask_241_4_0, c_X11_ask_241_9_0, c_X11_ask_245_0_0, c_X11_ask_245_1_0, c_X11_ask_245_2_0, c_X11_ask_245_4_0, c_X11_ask_245_9_0, e_X11_ask_8, e_X11_ask_8n, e_X11_ask_9, e_X11_ask_9n, e_X11_ask_10n, e_X11_ask_10, e_X11_ask_13, e_X11_ask_14, e_X11_ask_17, e_X11_ask_20, e_X11_ask_22, e_X11_ask_23, e_X11_ask_23n, e_X11_ask_24, e_X11_ask_27, e_X11_ask_30, e_X11_ask_30n, e_X11_ask_31, e_X11_ask_34, e_X11_ask_37, e_X11_ask_38, e_X11_ask_39, e_X11_ask_42, e_X11_ask_45, e_X11_ask_45n, e_X11_ask_46, e_X11_ask_46n, e_X11_ask_47, e_X11_ask_50, e_X11_ask_52, e_X11_ask_55, e_X11_ask_58, e_X11_ask_58n, e_X11_ask_59, e_X11_ask_59n, e_X11_ask_60, e_X11_ask_63, e_X11_ask_65, e_X11_ask_68, g_11_171_3, g_11_25_10, g_11_39_10, hc, l0, q1, r_isEither1, ne10, t0, hh1, hc1, l01, l11, xl_i]
  rw [s1]
  rcases g3 with ⟨rfl, e⟩ | ⟨rfl, e⟩ | ⟨rfl, e⟩ | ⟨rfl, e⟩ | ⟨rfl, e⟩
  · obtain ⟨h2, e2, k2⟩ := b_X4_askMark_4 (du := d s) h1 0 tr T1 (by simp only [List.length_cons, List.length_nil]; omega) g4
    refine ⟨h2, ?_, ?_⟩
    · rw [e, amS_1]
      simp (disch := first | exact xnl_i _ | exact xnl_r _ | exact xnl_u _ | exact xnl_n | exact zI_2 | exact zI_24 | assumption | omega | (simp only [xset_len]; omega)) only [↓reduceIte, xbd_s, xpv_n, xpv_s, e_X11_ask_0, e_X11_ask_0n, e_X11_ask_1, e_X11_ask_4, e_X11_ask_5, c_X11_ask_162_3_0, c_X11_ask_238_8_0, c_X11_ask_241_0_0, c_X11_ask_241_1_0, c_X11_ask_241_2_0, c_X11_ask_241_4_0, c_X11_ask_241_9_0, c_X11_ask_245_0_0, c_X11_ask_245_1_0, c_X11_ask_245_2_0, c_X11_ask_245_4_0, c_X11_ask_245_9_0, e_X11_ask_8, e_X11_ask_8n, e_X11_ask_9, e_X11_ask_9n, e_X11_ask_10n, e_X11_ask_10, e_X11_ask_13, e_X11_ask_14, e_X11_ask_17, e_X11_ask_20, e_X11_ask_22, e_X11_ask_23, e_X11_ask_23n, e_X11_ask_24, e_X11_ask_27, e_X11_ask_30, e_X11_ask_30n, e_X11_ask_31, e_X11_ask_34, e_X11_ask_37, e_X11_ask_38, e_X11_ask_39, e_X11_ask_41, e_X11_ask_42, e_X11_ask_45, e_X11_ask_45n, e_X11_ask_46, e_X11_ask_46n, e_X11_ask_47, e_X11_ask_50, e_X11_ask_52, e_X11_ask_55, e_X11_ask_58, e_X11_ask_58n, e_X11_ask_59, e_X11_ask_59n, e_X11_ask_60, e_X11_ask_63, e_X11_ask_65, e_X11_ask_68, g_11_171_3, g_11_25_10, g_11_39_10, hc1, g4, e2, ne10]
    · rw [e, amB_1]
      exact ⟨k2.1, xFr_tr f1 k2.2⟩
  · obtain ⟨h2, e2, k2⟩ := b_X10_askMark_9 (du := d s) h1 0 tr T1 (by simp only [List.length_cons, List.length_nil]; omega) g4
    refine ⟨h2, ?_, ?_⟩
    · rw [e, amS_2]
      simp (disch := first | exact xnl_i _ | exact xnl_r _ | exact xnl_u _ | exact xnl_n | exact zI_2 | exact zI_24 | assumption | omega | (simp only [xset_len]; omega)) only [↓reduceIte, xbd_s, xpv_n, xpv_s, e_X11_ask_0, e_X11_ask_0n, e_X11_ask_1, e_X11_ask_4, e_X11_ask_5, c_X11_ask_162_3_0, c_X11_ask_238_8_0, c_X11_ask_241_0_0, c_X11_ask_241_1_0, c_X11_ask_241_2_0, c_X11_ask_241_4_0, c_X11_ask_241_9_0, c_X11_ask_245_0_0, c_X11_ask_245_1_0, c_X11_ask_245_2_0, c_X11_ask_245_4_0, c_X11_ask_245_9_0, e_X11_ask_8, e_X11_ask_8n, e_X11_ask_9, e_X11_ask_9n, e_X11_ask_10n, e_X11_ask_10, e_X11_ask_13, e_X11_ask_14, e_X11_ask_17, e_X11_ask_20, e_X11_ask_22, e_X11_ask_23, e_X11_ask_23n, e_X11_ask_24, e_X11_ask_27, e_X11_ask_30, e_X11_ask_30n, e_X11_ask_31, e_X11_ask_34, e_X11_ask_37, e_X11_ask_38, e_X11_ask_39, e_X11_ask_41, e_X11_ask_42, e_X11_ask_45, e_X11_ask_45n, e_X11_ask_46, e_X11_ask_46n, e_X11_ask_47, e_X11_ask_50, e_X11_ask_52, e_X11_ask_55, e_X11_ask_58, e_X11_ask_58n, e_X11_ask_59, e_X11_ask_59n, e_X11_ask_60, e_X11_ask_63, e_X11_ask_65, e_X11_ask_68, g_11_171_3, g_11_25_10, g_11_39_10, hc1, g4, e2, ne10]
    · rw [e, amB_2]
      exact ⟨k2.1, xFr_tr f1 k2.2⟩
  · obtain ⟨h2, e2, k2⟩ := b_X2_askMark_2 (du := d s) h1 0 tr T1 (by simp only [List.length_cons, List.length_nil]; omega) g4
    refine ⟨h2, ?_, ?_⟩
    · rw [e, amS_3]
      simp (disch := first | exact xnl_i _ | exact xnl_r _ | exact xnl_u _ | exact xnl_n | exact zI_2 | exact zI_24 | assumption | omega | (simp only [xset_len]; omega)) only [↓reduceIte, xbd_s, xpv_n, xpv_s, e_X11_ask_0, e_X11_ask_0n, e_X11_ask_1, e_X11_ask_4, e_X11_ask_5, c_X11_ask_162_3_0, c_X11_ask_238_8_0, c_X11_ask_241_0_0, c_X11_ask_241_1_0, c_X11_ask_241_2_0, c_X11_ask_241_4_0, c_X11_ask_241_9_0, c_X11_ask_245_0_0, c_X11_ask_245_1_0, c_X11_ask_245_2_0, c_X11_ask_245_4_0, c_X11_ask_245_9_0, e_X11_ask_8, e_X11_ask_8n, e_X11_ask_9, e_X11_ask_9n, e_X11_ask_10n, e_X11_ask_10, e_X11_ask_13, e_X11_ask_14, e_X11_ask_17, e_X11_ask_20, e_X11_ask_22, e_X11_ask_23, e_X11_ask_23n, e_X11_ask_24, e_X11_ask_27, e_X11_ask_30, e_X11_ask_30n, e_X11_ask_31, e_X11_ask_34, e_X11_ask_37, e_X11_ask_38, e_X11_ask_39, e_X11_ask_41, e_X11_ask_42, e_X11_ask_45, e_X11_ask_45n, e_X11_ask_46, e_X11_ask_46n, e_X11_ask_47, e_X11_ask_50, e_X11_ask_52, e_X11_ask_55, e_X11_ask_58, e_X11_ask_58n, e_X11_ask_59, e_X11_ask_59n, e_X11_ask_60, e_X11_ask_63, e_X11_ask_65, e_X11_ask_68, g_11_171_3, g_11_25_10, g_11_39_10, hc1, g4, e2, ne10]
    · rw [e, amB_3]
      exact ⟨k2.1, xFr_tr f1 k2.2⟩
  · obtain ⟨h2, e2, k2⟩ := b_X0_askMark_0 (du := d s) h1 0 tr T1 (by simp only [List.length_cons, List.length_nil]; omega) g4
    refine ⟨h2, ?_, ?_⟩
    · rw [e, amS_4]
      simp (disch := first | exact xnl_i _ | exact xnl_r _ | exact xnl_u _ | exact xnl_n | exact zI_2 | exact zI_24 | assumption | omega | (simp only [xset_len]; omega)) only [↓reduceIte, xbd_s, xpv_n, xpv_s, e_X11_ask_0, e_X11_ask_0n, e_X11_ask_1, e_X11_ask_4, e_X11_ask_5, c_X11_ask_162_3_0, c_X11_ask_238_8_0, c_X11_ask_241_0_0, c_X11_ask_241_1_0, c_X11_ask_241_2_0, c_X11_ask_241_4_0, c_X11_ask_241_9_0, c_X11_ask_245_0_0, c_X11_ask_245_1_0, c_X11_ask_245_2_0, c_X11_ask_245_4_0, c_X11_ask_245_9_0, e_X11_ask_8, e_X11_ask_8n, e_X11_ask_9, e_X11_ask_9n, e_X11_ask_10n, e_X11_ask_10, e_X11_ask_13, e_X11_ask_14, e_X11_ask_17, e_X11_ask_20, e_X11_ask_22, e_X11_ask_23, e_X11_ask_23n, e_X11_ask_24, e_X11_ask_27, e_X11_ask_30, e_X11_ask_30n, e_X11_ask_31, e_X11_ask_34, e_X11_ask_37, e_X11_ask_38, e_X11_ask_39, e_X11_ask_41, e_X11_ask_42, e_X11_ask_45, e_X11_ask_45n, e_X11_ask_46, e_X11_ask_46n, e_X11_ask_47, e_X11_ask_50, e_X11_ask_52, e_X11_ask_55, e_X11_ask_58, e_X11_ask_58n, e_X11_ask_59, e_X11_ask_59n, e_X11_ask_60, e_X11_ask_63, e_X11_ask_65, e_X11_ask_68, g_11_171_3, g_11_25_10, g_11_39_10, hc1, g4, e2, ne10]
    · rw [e, amB_4]
      exact ⟨k2.1, xFr_tr f1 k2.2⟩
  · obtain ⟨h2, e2, k2⟩ := b_X0_askMark_1 (du := d s) h1 0 tr T1 (by simp only [List.length_cons, List.length_nil]; omega) g4
    refine ⟨h2, ?_, ?_⟩
    · rw [e, amS_5]
      simp (disch := first | exact xnl_i _ | exact xnl_r _ | exact xnl_u _ | exact xnl_n | exact zI_2 | exact zI_24 | assumption | omega | (simp only [xset_len]; omega)) only [↓reduceIte, xbd_s, xpv_n, xpv_s, e_X11_ask_0, e_X11_ask_0n, e_X11_ask_1, e_X11_ask_4, e_X11_ask_5, c_X11_ask_162_3_0, c_X11_ask_238_8_0, c_X11_ask_241_0_0, c_X11_ask_241_1_0, c_X11_ask_241_2_0, c_X11_ask_241_4_0, c_X11_ask_241_9_0, c_X11_ask_245_0_0, c_X11_ask_245_1_0, c_X11_ask_245_2_0, c_X11_ask_245_4_0, c_X11_ask_245_9_0, e_X11_ask_8, e_X11_ask_8n, e_X11_ask_9, e_X11_ask_9n, e_X11_ask_10n, e_X11_ask_10, e_X11_ask_13, e_X11_ask_14, e_X11_ask_17, e_X11_ask_20, e_X11_ask_22, e_X11_ask_23, e_X11_ask_23n, e_X11_ask_24, e_X11_ask_27, e_X11_ask_30, e_X11_ask_30n, e_X11_ask_31, e_X11_ask_34, e_X11_ask_37, e_X11_ask_38, e_X11_ask_39, e_X11_ask_41, e_X11_ask_42, e_X11_ask_45, e_X11_ask_45n, e_X11_ask_46, e_X11_ask_46n, e_X11_ask_47, e_X11_ask_50, e_X11_ask_52, e_X11_ask_55, e_X11_ask_58, e_X11_ask_58n, e_X11_ask_59, e_X11_ask_59n, e_X11_ask_60, e_X11_ask_63, e_X11_ask_65, e_X11_ask_68, g_11_171_3, g_11_25_10, g_11_39_10, hc1, g4, e2, ne10]
    · rw [e, amB_5]
      exact ⟨k2.1, xFr_tr f1 k2.2⟩
end XLR
