/-! the reference: set, copy -/
section XMV
variable {X : xS} {h : xH} {S : Nat → Int32} {nm : Int64} {A : Nat → Nat → Int32}
theorem m_setX (hM : xMB X h S nm A) {x i v : Int32} (hx : x < 0 ∨ ¬ x < nI 8) : xR X m_X12_set 0 [.ref 169, .int x, .int i, .int v, xU] [] h = some (some (.int cBAD), h) := by
  have q := m_isRowF (X := X) (h := h) hx
  simp (disch := first | exact xnl_i _ | exact xnl_r _ | exact xnl_u _ | exact xnl_n | exact zI_2 | exact zI_24 | assumption | omega | (simp only [xset_len]; omega)) only [↓reduceIte, xbd_s, xpv_n, xpv_s, e_X12_set_0, e_X12_set_1, e_X12_set_4, e_X12_set_7, e_X12_set_9, e_X12_set_10, e_X12_set_11, e_X12_set_14, e_X12_set_15, e_X12_set_16, e_X12_set_18, e_X12_set_21, e_X12_set_22, e_X12_set_23, c_X12_set_56_11_0, c_X12_set_60_11_0, e_X12_set_26, e_X12_set_27, e_X12_set_28, e_X12_set_29, e_X12_set_30, e_X12_set_33, e_X12_set_34, e_X12_set_35, e_X12_set_36, e_X12_set_37, e_X12_set_40, e_X12_set_43, e_X12_set_44, e_X12_set_45, e_X12_set_48, e_X12_set_49, e_X12_set_50, e_X12_set_53, e_X12_set_54, e_X12_set_55, e_X12_set_58, e_X12_set_59, e_X12_set_60, e_X12_set_63, e_X12_set_64, e_X12_set_67, e_X12_set_68, e_X12_set_69, e_X12_set_70, e_X12_set_73, e_X12_set_74, e_X12_set_75, e_X12_set_78, e_X12_set_79, e_X12_set_81, e_X12_set_82, e_X12_set_85, e_X12_set_87, e_X12_set_88, e_X12_set_89, e_X12_set_90, e_X12_set_91, e_X12_set_93, e_X12_set_94, e_X12_set_95, e_X12_set_97, e_X12_set_100, g_12_23_11, g_12_26_11, g_12_29_11, q]
theorem m_setN (hM : xMB X h S nm A) {r : Nat} {i v : Int32} (hr : r < 8) (hl : A 4 r = -1000000) : xR X m_X12_set 0 [.ref 169, .int (nI r), .int i, .int v, xU] [] h = some (some (.int (cFIND - nI 1)), xset h 169 (xMc (upd S 1 (nI 1)) nm)) := by
  have q := m_isRowT (X := X) (h := h) hr
  have q2 := m_found hM (nI 1)
  obtain ⟨hc, a0, a1, a2, a3, a4, a5, a6, a7, a8, a9⟩ := hM
  simp (disch := first | exact xnl_i _ | exact xnl_r _ | exact xnl_u _ | exact xnl_n | exact zI_2 | exact zI_24 | assumption | omega | (simp only [xset_len]; omega)) only [↓reduceIte, xbd_s, xpv_n, xpv_s, e_X12_set_0, e_X12_set_1, e_X12_set_4, e_X12_set_7, e_X12_set_9, e_X12_set_10, e_X12_set_11, e_X12_set_14, e_X12_set_15, e_X12_set_16, e_X12_set_18, e_X12_set_21, e_X12_set_22, e_X12_set_23, c_X12_set_56_11_0, c_X12_set_60_11_0, e_X12_set_26, e_X12_set_27, e_X12_set_28, e_X12_set_29, e_X12_set_30, e_X12_set_33, e_X12_set_34, e_X12_set_35, e_X12_set_36, e_X12_set_37, e_X12_set_40, e_X12_set_43, e_X12_set_44, e_X12_set_45, e_X12_set_48, e_X12_set_49, e_X12_set_50, e_X12_set_53, e_X12_set_54, e_X12_set_55, e_X12_set_58, e_X12_set_59, e_X12_set_60, e_X12_set_63, e_X12_set_64, e_X12_set_67, e_X12_set_68, e_X12_set_69, e_X12_set_70, e_X12_set_73, e_X12_set_74, e_X12_set_75, e_X12_set_78, e_X12_set_79, e_X12_set_81, e_X12_set_82, e_X12_set_85, e_X12_set_87, e_X12_set_88, e_X12_set_89, e_X12_set_90, e_X12_set_91, e_X12_set_93, e_X12_set_94, e_X12_set_95, e_X12_set_97, e_X12_set_100, g_12_23_11, g_12_26_11, g_12_29_11, hc, a4, q, ne10, xl_i, if_pos hl, q2]
theorem m_setF (hM : xMB X h S nm A) {r : Nat} {i v : Int32} (hr : r < 8) (hl : ¬ A 4 r = -1000000) (hi : i < 0 ∨ A 5 r - nI 1 < i) : xR X m_X12_set 0 [.ref 169, .int (nI r), .int i, .int v, xU] [] h = some (some (.int (cFIND - nI 2)), xset h 169 (xMc (upd S 1 (nI 2)) nm)) := by
  have q := m_isRowT (X := X) (h := h) hr
  have q1 := fun hh : xH => m_inF (X := X) (h := hh) (x := i) (lo := 0) (hi := A 5 r - nI 1) hi
  have q2 := m_found hM (nI 2)
  obtain ⟨hc, a0, a1, a2, a3, a4, a5, a6, a7, a8, a9⟩ := hM
  simp (disch := first | exact xnl_i _ | exact xnl_r _ | exact xnl_u _ | exact xnl_n | exact zI_2 | exact zI_24 | assumption | omega | (simp only [xset_len]; omega)) only [↓reduceIte, xbd_s, xpv_n, xpv_s, e_X12_set_0, e_X12_set_1, e_X12_set_4, e_X12_set_7, e_X12_set_9, e_X12_set_10, e_X12_set_11, e_X12_set_14, e_X12_set_15, e_X12_set_16, e_X12_set_18, e_X12_set_21, e_X12_set_22, e_X12_set_23, c_X12_set_56_11_0, c_X12_set_60_11_0, e_X12_set_26, e_X12_set_27, e_X12_set_28, e_X12_set_29, e_X12_set_30, e_X12_set_33, e_X12_set_34, e_X12_set_35, e_X12_set_36, e_X12_set_37, e_X12_set_40, e_X12_set_43, e_X12_set_44, e_X12_set_45, e_X12_set_48, e_X12_set_49, e_X12_set_50, e_X12_set_53, e_X12_set_54, e_X12_set_55, e_X12_set_58, e_X12_set_59, e_X12_set_60, e_X12_set_63, e_X12_set_64, e_X12_set_67, e_X12_set_68, e_X12_set_69, e_X12_set_70, e_X12_set_73, e_X12_set_74, e_X12_set_75, e_X12_set_78, e_X12_set_79, e_X12_set_81, e_X12_set_82, e_X12_set_85, e_X12_set_87, e_X12_set_88, e_X12_set_89, e_X12_set_90, e_X12_set_91, e_X12_set_93, e_X12_set_94, e_X12_set_95, e_X12_set_97, e_X12_set_100, g_12_23_11, g_12_26_11, g_12_29_11, hc, a4, a5, q, q1, z0, ne10, xl_i, if_neg hl, q2]
theorem m_setG (hM : xMB X h S nm A) {r i : Nat} {v : Int32} (hr : r < 8) (hi40 : i < 40) (hl : ¬ A 4 r = -1000000) (hi : ¬ A 5 r - nI 1 < nI i) : ∃ h', xR X m_X12_set 0 [.ref 169, .int (nI r), .int (nI i), .int v, xU] [] h = some (some (.int (kpS (A 4 r) v)), h') ∧ xMB X h' (upd S 1 (nI 0)) nm (setA A 6 (upd (A 6) (40 * r + i) (kpS (A 4 r) v))) ∧ xFr X inM h h' := by
  have q := m_isRowT (X := X) (h := h) hr
  have q1 := fun hh : xH => m_inT (X := X) (h := hh) (x := nI i) (lo := 0) (hi := A 5 r - nI 1) (nI_pos (by omega)) hi
  have hM1 := xMB_6 (f := upd (A 6) (40 * r + i) (kpS (A 4 r) v)) hM
  have q2 := m_well hM1 (kpS (A 4 r) v)
  have f1 := xFr_tr (xFr_set (X := X) (h := h) (A := inM) (a := 176) (e := .inr ((0, 320), .inl (upd (A 6) (40 * r + i) (kpS (A 4 r) v)))) (by omega) ⟨by omega, by omega⟩) (xFr_set (a := 169) (e := xMc (upd S 1 (nI 0)) nm) (by omega) ⟨by omega, by omega⟩)
  refine ⟨_, ?_, xMB_S hM1, f1⟩
  have c1 := hM1.1
  obtain ⟨hc, a0, a1, a2, a3, a4, a5, a6, a7, a8, a9⟩ := hM
  by_cases k0 : A 4 r = 0
  · have e : kpS (A 4 r) v = v.toInt8.toInt32 := if_pos k0
    rw [e] at q2 c1 ⊢
    simp (disch := first | exact xnl_i _ | exact xnl_r _ | exact xnl_u _ | exact xnl_n | exact zI_2 | exact zI_24 | assumption | omega | (simp only [xset_len]; omega)) only [↓reduceIte, xbd_s, xpv_n, xpv_s, e_X12_set_0, e_X12_set_1, e_X12_set_4, e_X12_set_7, e_X12_set_9, e_X12_set_10, e_X12_set_11, e_X12_set_14, e_X12_set_15, e_X12_set_16, e_X12_set_18, e_X12_set_21, e_X12_set_22, e_X12_set_23, c_X12_set_56_11_0, c_X12_set_60_11_0, e_X12_set_26, e_X12_set_27, e_X12_set_28, e_X12_set_29, e_X12_set_30, e_X12_set_33, e_X12_set_34, e_X12_set_35, e_X12_set_36, e_X12_set_37, e_X12_set_40, e_X12_set_43, e_X12_set_44, e_X12_set_45, e_X12_set_48, e_X12_set_49, e_X12_set_50, e_X12_set_53, e_X12_set_54, e_X12_set_55, e_X12_set_58, e_X12_set_59, e_X12_set_60, e_X12_set_63, e_X12_set_64, e_X12_set_67, e_X12_set_68, e_X12_set_69, e_X12_set_70, e_X12_set_73, e_X12_set_74, e_X12_set_75, e_X12_set_78, e_X12_set_79, e_X12_set_81, e_X12_set_82, e_X12_set_85, e_X12_set_87, e_X12_set_88, e_X12_set_89, e_X12_set_90, e_X12_set_91, e_X12_set_93, e_X12_set_94, e_X12_set_95, e_X12_set_97, e_X12_set_100, g_12_23_11, g_12_26_11, g_12_29_11, hc, a4, a5, a6, q, q1, z0, ne10, xl_i, xs_i, if_neg hl, if_pos k0, nI_mul, nI_add, c1, q2]
  · by_cases k1 : A 4 r = nI 1
    · have e : kpS (A 4 r) v = v.toInt16.toInt32 := by unfold kpS; rw [if_neg k0, if_pos k1]
      rw [e] at q2 c1 ⊢
      simp (disch := first | exact xnl_i _ | exact xnl_r _ | exact xnl_u _ | exact xnl_n | exact zI_2 | exact zI_24 | assumption | omega | (simp only [xset_len]; omega)) only [↓reduceIte, xbd_s, xpv_n, xpv_s, e_X12_set_0, e_X12_set_1, e_X12_set_4, e_X12_set_7, e_X12_set_9, e_X12_set_10, e_X12_set_11, e_X12_set_14, e_X12_set_15, e_X12_set_16, e_X12_set_18, e_X12_set_21, e_X12_set_22, e_X12_set_23, c_X12_set_56_11_0, c_X12_set_60_11_0, e_X12_set_26, e_X12_set_27, e_X12_set_28, e_X12_set_29, e_X12_set_30, e_X12_set_33, e_X12_set_34, e_X12_set_35, e_X12_set_36, e_X12_set_37, e_X12_set_40, e_X12_set_43, e_X12_set_44, e_X12_set_45, e_X12_set_48, e_X12_set_49, e_X12_set_50, e_X12_set_53, e_X12_set_54, e_X12_set_55, e_X12_set_58, e_X12_set_59, e_X12_set_60, e_X12_set_63, e_X12_set_64, e_X12_set_67, e_X12_set_68, e_X12_set_69, e_X12_set_70, e_X12_set_73, e_X12_set_74, e_X12_set_75, e_X12_set_78, e_X12_set_79, e_X12_set_81, e_X12_set_82, e_X12_set_85, e_X12_set_87, e_X12_set_88, e_X12_set_89, e_X12_set_90, e_X12_set_91, e_X12_set_93, e_X12_set_94, e_X12_set_95, e_X12_set_97, e_X12_set_100, g_12_23_11, g_12_26_11, g_12_29_11, hc, a4, a5, a6, q, q1, z0, ne10, xl_i, xs_i, if_neg hl, if_neg k0, if_pos k1, nI_mul, nI_add, c1, q2]
    · have e : kpS (A 4 r) v = v := by unfold kpS; rw [if_neg k0, if_neg k1]
      rw [e] at q2 c1 ⊢
      simp (disch := first | exact xnl_i _ | exact xnl_r _ | exact xnl_u _ | exact xnl_n | exact zI_2 | exact zI_24 | assumption | omega | (simp only [xset_len]; omega)) only [↓reduceIte, xbd_s, xpv_n, xpv_s, e_X12_set_0, e_X12_set_1, e_X12_set_4, e_X12_set_7, e_X12_set_9, e_X12_set_10, e_X12_set_11, e_X12_set_14, e_X12_set_15, e_X12_set_16, e_X12_set_18, e_X12_set_21, e_X12_set_22, e_X12_set_23, c_X12_set_56_11_0, c_X12_set_60_11_0, e_X12_set_26, e_X12_set_27, e_X12_set_28, e_X12_set_29, e_X12_set_30, e_X12_set_33, e_X12_set_34, e_X12_set_35, e_X12_set_36, e_X12_set_37, e_X12_set_40, e_X12_set_43, e_X12_set_44, e_X12_set_45, e_X12_set_48, e_X12_set_49, e_X12_set_50, e_X12_set_53, e_X12_set_54, e_X12_set_55, e_X12_set_58, e_X12_set_59, e_X12_set_60, e_X12_set_63, e_X12_set_64, e_X12_set_67, e_X12_set_68, e_X12_set_69, e_X12_set_70, e_X12_set_73, e_X12_set_74, e_X12_set_75, e_X12_set_78, e_X12_set_79, e_X12_set_81, e_X12_set_82, e_X12_set_85, e_X12_set_87, e_X12_set_88, e_X12_set_89, e_X12_set_90, e_X12_set_91, e_X12_set_93, e_X12_set_94, e_X12_set_95, e_X12_set_97, e_X12_set_100, g_12_23_11, g_12_26_11, g_12_29_11, hc, a4, a5, a6, q, q1, z0, ne10, xl_i, xs_i, if_neg hl, if_neg k0, if_neg k1, nI_mul, nI_add, c1, q2]
theorem m_copyX (hM : xMB X h S nm A) {x i y j n : Int32} (hx : (x < 0 ∨ ¬ x < nI 8) ∨ (y < 0 ∨ ¬ y < nI 8)) : xR X m_X12_copy 0 [.ref 169, .int x, .int i, .int y, .int j, .int n, xU, xU] [] h = some (some (.int cBAD), h) := by
  by_cases c : x < 0 ∨ ¬ x < nI 8
  · have q := m_isRowF (X := X) (h := h) c
    simp (disch := first | exact xnl_i _ | exact xnl_r _ | exact xnl_u _ | exact xnl_n | exact zI_2 | exact zI_24 | assumption | omega | (simp only [xset_len]; omega)) only [↓reduceIte, xbd_s, xpv_n, xpv_s, e_X12_copy_0, e_X12_copy_1, e_X12_copy_4, e_X12_copy_7, e_X12_copy_8, e_X12_copy_11, e_X12_copy_14, e_X12_copy_16, e_X12_copy_17, e_X12_copy_18, e_X12_copy_21, e_X12_copy_22, e_X12_copy_23, e_X12_copy_25, e_X12_copy_28, e_X12_copy_29, e_X12_copy_32, e_X12_copy_33, e_X12_copy_34, e_X12_copy_36, e_X12_copy_39, e_X12_copy_40, e_X12_copy_41, c_X12_copy_56_11_0, c_X12_copy_63_11_0, c_X12_copy_60_11_0, e_X12_copy_44, e_X12_copy_45, e_X12_copy_46, e_X12_copy_49, e_X12_copy_50, e_X12_copy_51, e_X12_copy_52, e_X12_copy_55, e_X12_copy_56, e_X12_copy_57, e_X12_copy_60, e_X12_copy_61, e_X12_copy_62, e_X12_copy_65, e_X12_copy_66, e_X12_copy_67, e_X12_copy_68, e_X12_copy_69, e_X12_copy_71, e_X12_copy_74, e_X12_copy_77, e_X12_copy_78, e_X12_copy_79, e_X12_copy_81, e_X12_copy_83, e_X12_copy_86, e_X12_copy_89, e_X12_copy_90, e_X12_copy_91, e_X12_copy_94, e_X12_copy_95, e_X12_copy_96, e_X12_copy_98, e_X12_copy_100, e_X12_copy_102, e_X12_copy_105, e_X12_copy_106, e_X12_copy_108, e_X12_copy_111, e_X12_copy_113, e_X12_copy_116, e_X12_copy_118, e_X12_copy_119, e_X12_copy_120, e_X12_copy_122, e_X12_copy_123, e_X12_copy_125, e_X12_copy_126, e_X12_copy_129, e_X12_copy_131, e_X12_copy_132, e_X12_copy_133, e_X12_copy_135, e_X12_copy_136, e_X12_copy_138, e_X12_copy_139, e_X12_copy_140, e_X12_copy_143, e_X12_copy_145, e_X12_copy_146, e_X12_copy_147, e_X12_copy_148, e_X12_copy_149, e_X12_copy_151, e_X12_copy_152, e_X12_copy_153, e_X12_copy_154, e_X12_copy_157, e_X12_copy_160, e_X12_copy_161, e_X12_copy_163, e_X12_copy_166, g_12_23_11, g_12_29_11, q]
  · have q : xR X m_X12_isRow 0 [.int x] [] h = some (some (.int 1), h) := by
      rw [m_isRow, if_neg (fun e => c (Or.inl e)), if_pos (Classical.byContradiction fun e => c (Or.inr e))]; rfl
    have q1 := m_isRowF (X := X) (h := h) (hx.resolve_left c)
    simp (disch := first | exact xnl_i _ | exact xnl_r _ | exact xnl_u _ | exact xnl_n | exact zI_2 | exact zI_24 | assumption | omega | (simp only [xset_len]; omega)) only [↓reduceIte, xbd_s, xpv_n, xpv_s, e_X12_copy_0, e_X12_copy_1, e_X12_copy_4, e_X12_copy_7, e_X12_copy_8, e_X12_copy_11, e_X12_copy_14, e_X12_copy_16, e_X12_copy_17, e_X12_copy_18, e_X12_copy_21, e_X12_copy_22, e_X12_copy_23, e_X12_copy_25, e_X12_copy_28, e_X12_copy_29, e_X12_copy_32, e_X12_copy_33, e_X12_copy_34, e_X12_copy_36, e_X12_copy_39, e_X12_copy_40, e_X12_copy_41, c_X12_copy_56_11_0, c_X12_copy_63_11_0, c_X12_copy_60_11_0, e_X12_copy_44, e_X12_copy_45, e_X12_copy_46, e_X12_copy_49, e_X12_copy_50, e_X12_copy_51, e_X12_copy_52, e_X12_copy_55, e_X12_copy_56, e_X12_copy_57, e_X12_copy_60, e_X12_copy_61, e_X12_copy_62, e_X12_copy_65, e_X12_copy_66, e_X12_copy_67, e_X12_copy_68, e_X12_copy_69, e_X12_copy_71, e_X12_copy_74, e_X12_copy_77, e_X12_copy_78, e_X12_copy_79, e_X12_copy_81, e_X12_copy_83, e_X12_copy_86, e_X12_copy_89, e_X12_copy_90, e_X12_copy_91, e_X12_copy_94, e_X12_copy_95, e_X12_copy_96, e_X12_copy_98, e_X12_copy_100, e_X12_copy_102, e_X12_copy_105, e_X12_copy_106, e_X12_copy_108, e_X12_copy_111, e_X12_copy_113, e_X12_copy_116, e_X12_copy_118, e_X12_copy_119, e_X12_copy_120, e_X12_copy_122, e_X12_copy_123, e_X12_copy_125, e_X12_copy_126, e_X12_copy_129, e_X12_copy_131, e_X12_copy_132, e_X12_copy_133, e_X12_copy_135, e_X12_copy_136, e_X12_copy_138, e_X12_copy_139, e_X12_copy_140, e_X12_copy_143, e_X12_copy_145, e_X12_copy_146, e_X12_copy_147, e_X12_copy_148, e_X12_copy_149, e_X12_copy_151, e_X12_copy_152, e_X12_copy_153, e_X12_copy_154, e_X12_copy_157, e_X12_copy_160, e_X12_copy_161, e_X12_copy_163, e_X12_copy_166, g_12_23_11, g_12_29_11, q, q1, ne10]
theorem m_copyN (hM : xMB X h S nm A) {r s : Nat} {i j n : Int32} (hr : r < 8) (hs : s < 8) (hl : A 4 r = -1000000 ∨ A 4 s = -1000000) : xR X m_X12_copy 0 [.ref 169, .int (nI r), .int i, .int (nI s), .int j, .int n, xU, xU] [] h = some (some (.int (cFIND - nI 1)), xset h 169 (xMc (upd S 1 (nI 1)) nm)) := by
  have q := m_isRowT (X := X) (h := h) hr
  have q1 := m_isRowT (X := X) (h := h) hs
  have q2 := m_found hM (nI 1)
  obtain ⟨hc, a0, a1, a2, a3, a4, a5, a6, a7, a8, a9⟩ := hM
  by_cases c : A 4 r = -1000000
  · simp (disch := first | exact xnl_i _ | exact xnl_r _ | exact xnl_u _ | exact xnl_n | exact zI_2 | exact zI_24 | assumption | omega | (simp only [xset_len]; omega)) only [↓reduceIte, xbd_s, xpv_n, xpv_s, e_X12_copy_0, e_X12_copy_1, e_X12_copy_4, e_X12_copy_7, e_X12_copy_8, e_X12_copy_11, e_X12_copy_14, e_X12_copy_16, e_X12_copy_17, e_X12_copy_18, e_X12_copy_21, e_X12_copy_22, e_X12_copy_23, e_X12_copy_25, e_X12_copy_28, e_X12_copy_29, e_X12_copy_32, e_X12_copy_33, e_X12_copy_34, e_X12_copy_36, e_X12_copy_39, e_X12_copy_40, e_X12_copy_41, c_X12_copy_56_11_0, c_X12_copy_63_11_0, c_X12_copy_60_11_0, e_X12_copy_44, e_X12_copy_45, e_X12_copy_46, e_X12_copy_49, e_X12_copy_50, e_X12_copy_51, e_X12_copy_52, e_X12_copy_55, e_X12_copy_56, e_X12_copy_57, e_X12_copy_60, e_X12_copy_61, e_X12_copy_62, e_X12_copy_65, e_X12_copy_66, e_X12_copy_67, e_X12_copy_68, e_X12_copy_69, e_X12_copy_71, e_X12_copy_74, e_X12_copy_77, e_X12_copy_78, e_X12_copy_79, e_X12_copy_81, e_X12_copy_83, e_X12_copy_86, e_X12_copy_89, e_X12_copy_90, e_X12_copy_91, e_X12_copy_94, e_X12_copy_95, e_X12_copy_96, e_X12_copy_98, e_X12_copy_100, e_X12_copy_102, e_X12_copy_105, e_X12_copy_106, e_X12_copy_108, e_X12_copy_111, e_X12_copy_113, e_X12_copy_116, e_X12_copy_118, e_X12_copy_119, e_X12_copy_120, e_X12_copy_122, e_X12_copy_123, e_X12_copy_125, e_X12_copy_126, e_X12_copy_129, e_X12_copy_131, e_X12_copy_132, e_X12_copy_133, e_X12_copy_135, e_X12_copy_136, e_X12_copy_138, e_X12_copy_139, e_X12_copy_140, e_X12_copy_143, e_X12_copy_145, e_X12_copy_146, e_X12_copy_147, e_X12_copy_148, e_X12_copy_149, e_X12_copy_151, e_X12_copy_152, e_X12_copy_153, e_X12_copy_154, e_X12_copy_157, e_X12_copy_160, e_X12_copy_161, e_X12_copy_163, e_X12_copy_166, g_12_23_11, g_12_29_11, hc, a4, q, q1, ne10, xl_i, if_pos c, q2]
  · simp (disch := first | exact xnl_i _ | exact xnl_r _ | exact xnl_u _ | exact xnl_n | exact zI_2 | exact zI_24 | assumption | omega | (simp only [xset_len]; omega)) only [↓reduceIte, xbd_s, xpv_n, xpv_s, e_X12_copy_0, e_X12_copy_1, e_X12_copy_4, e_X12_copy_7, e_X12_copy_8, e_X12_copy_11, e_X12_copy_14, e_X12_copy_16, e_X12_copy_17, e_X12_copy_18, e_X12_copy_21, e_X12_copy_22, e_X12_copy_23, e_X12_copy_25, e_X12_copy_28, e_X12_copy_29, e_X12_copy_32, e_X12_copy_33, e_X12_copy_34, e_X12_copy_36, e_X12_copy_39, e_X12_copy_40, e_X12_copy_41, c_X12_copy_56_11_0, c_X12_copy_63_11_0, c_X12_copy_60_11_0, e_X12_copy_44, e_X12_copy_45, e_X12_copy_46, e_X12_copy_49, e_X12_copy_50, e_X12_copy_51, e_X12_copy_52, e_X12_copy_55, e_X12_copy_56, e_X12_copy_57, e_X12_copy_60, e_X12_copy_61, e_X12_copy_62, e_X12_copy_65, e_X12_copy_66, e_X12_copy_67, e_X12_copy_68, e_X12_copy_69, e_X12_copy_71, e_X12_copy_74, e_X12_copy_77, e_X12_copy_78, e_X12_copy_79, e_X12_copy_81, e_X12_copy_83, e_X12_copy_86, e_X12_copy_89, e_X12_copy_90, e_X12_copy_91, e_X12_copy_94, e_X12_copy_95, e_X12_copy_96, e_X12_copy_98, e_X12_copy_100, e_X12_copy_102, e_X12_copy_105, e_X12_copy_106, e_X12_copy_108, e_X12_copy_111, e_X12_copy_113, e_X12_copy_116, e_X12_copy_118, e_X12_copy_119, e_X12_copy_120, e_X12_copy_122, e_X12_copy_123, e_X12_copy_125, e_X12_copy_126, e_X12_copy_129, e_X12_copy_131, e_X12_copy_132, e_X12_copy_133, e_X12_copy_135, e_X12_copy_136, e_X12_copy_138, e_X12_copy_139, e_X12_copy_140, e_X12_copy_143, e_X12_copy_145, e_X12_copy_146, e_X12_copy_147, e_X12_copy_148, e_X12_copy_149, e_X12_copy_151, e_X12_copy_152, e_X12_copy_153, e_X12_copy_154, e_X12_copy_157, e_X12_copy_160, e_X12_copy_161, e_X12_copy_163, e_X12_copy_166, g_12_23_11, g_12_29_11, hc, a4, q, q1, ne10, xl_i, if_neg c, if_pos (hl.resolve_left c), q2]
theorem m_copyS (hM : xMB X h S nm A) {r s : Nat} {i j n : Int32} (hr : r < 8) (hs : s < 8) (hl : ¬ A 4 r = -1000000) (hl2 : ¬ A 4 s = -1000000) (hk : ¬ A 4 r = A 4 s) : xR X m_X12_copy 0 [.ref 169, .int (nI r), .int i, .int (nI s), .int j, .int n, xU, xU] [] h = some (some (.int (cFIND - nI 5)), xset h 169 (xMc (upd S 1 (nI 5)) nm)) := by
  have q := m_isRowT (X := X) (h := h) hr
  have q1 := m_isRowT (X := X) (h := h) hs
  have q2 := m_found hM (nI 5)
  obtain ⟨hc, a0, a1, a2, a3, a4, a5, a6, a7, a8, a9⟩ := hM
  simp (disch := first | exact xnl_i _ | exact xnl_r _ | exact xnl_u _ | exact xnl_n | exact zI_2 | exact zI_24 | assumption | omega | (simp only [xset_len]; omega)) only [↓reduceIte, xbd_s, xpv_n, xpv_s, e_X12_copy_0, e_X12_copy_1, e_X12_copy_4, e_X12_copy_7, e_X12_copy_8, e_X12_copy_11, e_X12_copy_14, e_X12_copy_16, e_X12_copy_17, e_X12_copy_18, e_X12_copy_21, e_X12_copy_22, e_X12_copy_23, e_X12_copy_25, e_X12_copy_28, e_X12_copy_29, e_X12_copy_32, e_X12_copy_33, e_X12_copy_34, e_X12_copy_36, e_X12_copy_39, e_X12_copy_40, e_X12_copy_41, c_X12_copy_56_11_0, c_X12_copy_63_11_0, c_X12_copy_60_11_0, e_X12_copy_44, e_X12_copy_45, e_X12_copy_46, e_X12_copy_49, e_X12_copy_50, e_X12_copy_51, e_X12_copy_52, e_X12_copy_55, e_X12_copy_56, e_X12_copy_57, e_X12_copy_60, e_X12_copy_61, e_X12_copy_62, e_X12_copy_65, e_X12_copy_66, e_X12_copy_67, e_X12_copy_68, e_X12_copy_69, e_X12_copy_71, e_X12_copy_74, e_X12_copy_77, e_X12_copy_78, e_X12_copy_79, e_X12_copy_81, e_X12_copy_83, e_X12_copy_86, e_X12_copy_89, e_X12_copy_90, e_X12_copy_91, e_X12_copy_94, e_X12_copy_95, e_X12_copy_96, e_X12_copy_98, e_X12_copy_100, e_X12_copy_102, e_X12_copy_105, e_X12_copy_106, e_X12_copy_108, e_X12_copy_111, e_X12_copy_113, e_X12_copy_116, e_X12_copy_118, e_X12_copy_119, e_X12_copy_120, e_X12_copy_122, e_X12_copy_123, e_X12_copy_125, e_X12_copy_126, e_X12_copy_129, e_X12_copy_131, e_X12_copy_132, e_X12_copy_133, e_X12_copy_135, e_X12_copy_136, e_X12_copy_138, e_X12_copy_139, e_X12_copy_140, e_X12_copy_143, e_X12_copy_145, e_X12_copy_146, e_X12_copy_147, e_X12_copy_148, e_X12_copy_149, e_X12_copy_151, e_X12_copy_152, e_X12_copy_153, e_X12_copy_154, e_X12_copy_157, e_X12_copy_160, e_X12_copy_161, e_X12_copy_163, e_X12_copy_166, g_12_23_11, g_12_29_11, hc, a4, q, q1, ne10, xl_i, if_neg hl, if_neg hl2, if_neg hk, q2]
theorem wiS_01 (z i n : Int32) : wiS z i n = 0 ∨ wiS z i n = 1 := by
  unfold wiS
  repeat' split
  all_goals first | exact Or.inl rfl | exact Or.inr rfl
theorem m_copyP (hM : xMB X h S nm A) {r s : Nat} {i j n : Int32} (hr : r < 8) (hs : s < 8) (hl : ¬ A 4 r = -1000000) (hl2 : ¬ A 4 s = -1000000) (hk : A 4 r = A 4 s) (hz : 0 ≤ (A 5 r).toInt) (hz2 : 0 ≤ (A 5 s).toInt) (hw : wiS (A 5 r) i n = 0 ∨ wiS (A 5 s) j n = 0) : xR X m_X12_copy 0 [.ref 169, .int (nI r), .int i, .int (nI s), .int j, .int n, xU, xU] [] h = some (some (.int (cFIND - nI 2)), xset h 169 (xMc (upd S 1 (nI 2)) nm)) := by
  have q := m_isRowT (X := X) (h := h) hr
  have q1 := m_isRowT (X := X) (h := h) hs
  have q2 := m_found hM (nI 2)
  have q3 := m_isSpan hM hr hz i n
  have q4 := m_isSpan hM hs hz2 j n
  obtain ⟨hc, a0, a1, a2, a3, a4, a5, a6, a7, a8, a9⟩ := hM
  by_cases c : wiS (A 5 r) i n = 0
  · rw [c] at q3
    simp (disch := first | exact xnl_i _ | exact xnl_r _ | exact xnl_u _ | exact xnl_n | exact zI_2 | exact zI_24 | assumption | omega | (simp only [xset_len]; omega)) only [↓reduceIte, xbd_s, xpv_n, xpv_s, e_X12_copy_0, e_X12_copy_1, e_X12_copy_4, e_X12_copy_7, e_X12_copy_8, e_X12_copy_11, e_X12_copy_14, e_X12_copy_16, e_X12_copy_17, e_X12_copy_18, e_X12_copy_21, e_X12_copy_22, e_X12_copy_23, e_X12_copy_25, e_X12_copy_28, e_X12_copy_29, e_X12_copy_32, e_X12_copy_33, e_X12_copy_34, e_X12_copy_36, e_X12_copy_39, e_X12_copy_40, e_X12_copy_41, c_X12_copy_56_11_0, c_X12_copy_63_11_0, c_X12_copy_60_11_0, e_X12_copy_44, e_X12_copy_45, e_X12_copy_46, e_X12_copy_49, e_X12_copy_50, e_X12_copy_51, e_X12_copy_52, e_X12_copy_55, e_X12_copy_56, e_X12_copy_57, e_X12_copy_60, e_X12_copy_61, e_X12_copy_62, e_X12_copy_65, e_X12_copy_66, e_X12_copy_67, e_X12_copy_68, e_X12_copy_69, e_X12_copy_71, e_X12_copy_74, e_X12_copy_77, e_X12_copy_78, e_X12_copy_79, e_X12_copy_81, e_X12_copy_83, e_X12_copy_86, e_X12_copy_89, e_X12_copy_90, e_X12_copy_91, e_X12_copy_94, e_X12_copy_95, e_X12_copy_96, e_X12_copy_98, e_X12_copy_100, e_X12_copy_102, e_X12_copy_105, e_X12_copy_106, e_X12_copy_108, e_X12_copy_111, e_X12_copy_113, e_X12_copy_116, e_X12_copy_118, e_X12_copy_119, e_X12_copy_120, e_X12_copy_122, e_X12_copy_123, e_X12_copy_125, e_X12_copy_126, e_X12_copy_129, e_X12_copy_131, e_X12_copy_132, e_X12_copy_133, e_X12_copy_135, e_X12_copy_136, e_X12_copy_138, e_X12_copy_139, e_X12_copy_140, e_X12_copy_143, e_X12_copy_145, e_X12_copy_146, e_X12_copy_147, e_X12_copy_148, e_X12_copy_149, e_X12_copy_151, e_X12_copy_152, e_X12_copy_153, e_X12_copy_154, e_X12_copy_157, e_X12_copy_160, e_X12_copy_161, e_X12_copy_163, e_X12_copy_166, g_12_23_11, g_12_29_11, hc, a4, q, q1, ne10, xl_i, if_neg hl, if_neg hl2, if_pos hk, q3, q2]
  · rw [(wiS_01 _ _ _).resolve_left c] at q3
    rw [hw.resolve_left c] at q4
    simp (disch := first | exact xnl_i _ | exact xnl_r _ | exact xnl_u _ | exact xnl_n | exact zI_2 | exact zI_24 | assumption | omega | (simp only [xset_len]; omega)) only [↓reduceIte, xbd_s, xpv_n, xpv_s, e_X12_copy_0, e_X12_copy_1, e_X12_copy_4, e_X12_copy_7, e_X12_copy_8, e_X12_copy_11, e_X12_copy_14, e_X12_copy_16, e_X12_copy_17, e_X12_copy_18, e_X12_copy_21, e_X12_copy_22, e_X12_copy_23, e_X12_copy_25, e_X12_copy_28, e_X12_copy_29, e_X12_copy_32, e_X12_copy_33, e_X12_copy_34, e_X12_copy_36, e_X12_copy_39, e_X12_copy_40, e_X12_copy_41, c_X12_copy_56_11_0, c_X12_copy_63_11_0, c_X12_copy_60_11_0, e_X12_copy_44, e_X12_copy_45, e_X12_copy_46, e_X12_copy_49, e_X12_copy_50, e_X12_copy_51, e_X12_copy_52, e_X12_copy_55, e_X12_copy_56, e_X12_copy_57, e_X12_copy_60, e_X12_copy_61, e_X12_copy_62, e_X12_copy_65, e_X12_copy_66, e_X12_copy_67, e_X12_copy_68, e_X12_copy_69, e_X12_copy_71, e_X12_copy_74, e_X12_copy_77, e_X12_copy_78, e_X12_copy_79, e_X12_copy_81, e_X12_copy_83, e_X12_copy_86, e_X12_copy_89, e_X12_copy_90, e_X12_copy_91, e_X12_copy_94, e_X12_copy_95, e_X12_copy_96, e_X12_copy_98, e_X12_copy_100, e_X12_copy_102, e_X12_copy_105, e_X12_copy_106, e_X12_copy_108, e_X12_copy_111, e_X12_copy_113, e_X12_copy_116, e_X12_copy_118, e_X12_copy_119, e_X12_copy_120, e_X12_copy_122, e_X12_copy_123, e_X12_copy_125, e_X12_copy_126, e_X12_copy_129, e_X12_copy_131, e_X12_copy_132, e_X12_copy_133, e_X12_copy_135, e_X12_copy_136, e_X12_copy_138, e_X12_copy_139, e_X12_copy_140, e_X12_copy_143, e_X12_copy_145, e_X12_copy_146, e_X12_copy_147, e_X12_copy_148, e_X12_copy_149, e_X12_copy_151, e_X12_copy_152, e_X12_copy_153, e_X12_copy_154, e_X12_copy_157, e_X12_copy_160, e_X12_copy_161, e_X12_copy_163, e_X12_copy_166, g_12_23_11, g_12_29_11, hc, a4, q, q1, ne10, xl_i, if_neg hl, if_neg hl2, if_pos hk, q3, q4, q2]
def mcF (r s i j n k : Nat) (y : Nat → Int32) : Nat → Int32 := if j < i then upd y (40 * s + j + k) (y (40 * r + i + k)) else upd y (40 * s + j + (n - 1 - k)) (y (40 * r + i + (n - 1 - k)))
theorem mc_fold (r s i j n : Nat) (hr : r < 8) (hs : s < 8) (hi : i + n ≤ 40) (hj : j + n ≤ 40) (y0 : Nat → Int32) : xfold (mcF r s i j n) n y0 = fun q => if 40 * s + j ≤ q ∧ q < 40 * s + j + n then y0 (40 * r + i + (q - (40 * s + j))) else y0 q := by
  by_cases c : j < i
  · have key : ∀ k, k ≤ n → xfold (mcF r s i j n) k y0 = fun q => if 40 * s + j ≤ q ∧ q < 40 * s + j + k then y0 (40 * r + i + (q - (40 * s + j))) else y0 q := by
      intro k
      induction k with
      | zero =>
        intro _
        funext q
        rw [if_neg (by omega)]
        all_goals rfl
      | succ k ih =>
        intro hk
        show mcF r s i j n k (xfold (mcF r s i j n) k y0) = _
        rw [ih (by omega)]
        unfold mcF
        rw [if_pos c]
        funext q
        unfold upd
        dsimp only
        by_cases e : q = 40 * s + j + k
        · rw [if_pos e, if_neg (by omega), if_pos (by omega)]
          subst e
          congr 1
          omega
        · rw [if_neg e]
          by_cases e2 : 40 * s + j ≤ q ∧ q < 40 * s + j + k
          · rw [if_pos e2, if_pos (by omega)]
          · rw [if_neg e2, if_neg (by omega)]
    exact key n (Nat.le_refl n)
  · have key : ∀ k, k ≤ n → xfold (mcF r s i j n) k y0 = fun q => if 40 * s + j + n ≤ q + k ∧ q < 40 * s + j + n then y0 (40 * r + i + (q - (40 * s + j))) else y0 q := by
      intro k
      induction k with
      | zero =>
        intro _
        funext q
        rw [if_neg (by omega)]
        all_goals rfl
      | succ k ih =>
        intro hk
        show mcF r s i j n k (xfold (mcF r s i j n) k y0) = _
        rw [ih (by omega)]
        unfold mcF
        rw [if_neg c]
        funext q
        unfold upd
        dsimp only
        by_cases e : q = 40 * s + j + (n - 1 - k)
        · rw [if_pos e, if_neg (by omega), if_pos (by omega)]
          subst e
          congr 1
          omega
        · rw [if_neg e]
          by_cases e2 : 40 * s + j + n ≤ q + k ∧ q < 40 * s + j + n
          · rw [if_pos e2, if_pos (by omega)]
          · rw [if_neg e2, if_neg (by omega)]
    rw [key n (Nat.le_refl n)]
    funext q
    by_cases e2 : 40 * s + j ≤ q ∧ q < 40 * s + j + n
    · rw [if_pos e2, if_pos (by omega)]
    · rw [if_neg e2, if_neg (by omega)]
theorem nI_sub' {x y : Nat} (hx : x ≤ y) : nI y - nI x = nI (y - x) := by
  obtain ⟨e, rfl⟩ := Nat.exists_eq_add_of_le hx
  rw [Nat.add_comm, ← nI_add, Nat.add_sub_cancel, Int32.add_sub_cancel]
theorem m_copyG (hM : xMB X h S nm A) {r s i j n : Nat} (hr : r < 8) (hs : s < 8) (hi : i + n ≤ 40) (hj : j + n ≤ 40) (hl : ¬ A 4 r = -1000000) (hl2 : ¬ A 4 s = -1000000) (hk : A 4 r = A 4 s) (hz : 0 ≤ (A 5 r).toInt) (hz2 : 0 ≤ (A 5 s).toInt) (hw : ¬ wiS (A 5 r) (nI i) (nI n) = 0) (hw2 : ¬ wiS (A 5 s) (nI j) (nI n) = 0) : ∃ h', xR X m_X12_copy 0 [.ref 169, .int (nI r), .int (nI i), .int (nI s), .int (nI j), .int (nI n), xU, xU] [] h = some (some (.int (nI n)), h') ∧ xMB X h' (upd S 1 (nI 0)) nm (setA A 6 (fun q => if 40 * s + j ≤ q ∧ q < 40 * s + j + n then A 6 (40 * r + i + (q - (40 * s + j))) else A 6 q)) ∧ xFr X inM h h' := by
  have q := m_isRowT (X := X) (h := h) hr
  have q1 := m_isRowT (X := X) (h := h) hs
  have q3 := m_isSpan hM hr hz (nI i) (nI n)
  have q4 := m_isSpan hM hs hz2 (nI j) (nI n)
  rw [(wiS_01 _ _ _).resolve_left hw] at q3
  rw [(wiS_01 _ _ _).resolve_left hw2] at q4
  have L := x_loopH (X := X) (A := inM) (fun k (y : Value × (Nat → Int32)) h => xR X m_X12_copy 98 [.ref 169, .int (nI r), .int (nI i), .int (nI s), .int (nI j), .int (nI n), .int (nI k), y.1] [] h) (fun y h => xnl y.1 = true ∧ xMB X h S nm (setA A 6 y.2)) (fun k y => (.int (nI (if j < i then k else n - 1 - k)), mcF r s i j n k y.2)) n (by
    intro k hk y h hM
    obtain ⟨w, y⟩ := y
    obtain ⟨hw, hM⟩ := hM
    dsimp only at hw hM ⊢
    have hc := hM.1
    have a6 := hM.2.2.2.2.2.2.2.1
    rw [setA_eq] at a6
    have e1 : nI k < nI n := nI_lt hk (by omega)
    have hM1 := xMB_6 (f := mcF r s i j n k y) hM
    rw [setA_setA] at hM1
    refine ⟨_, ?_, ⟨rfl, hM1⟩, xFr_set (by omega) ⟨by omega, by omega⟩⟩
    rw [e_X12_copy_98]
    by_cases c : j < i
    · have e2 : nI j < nI i := nI_lt c (by omega)
      rw [if_pos c]
      simp (disch := first | exact xnl_i _ | exact xnl_r _ | exact xnl_u _ | exact xnl_n | exact zI_2 | exact zI_24 | assumption | omega | (simp only [xset_len]; omega)) only [↓reduceIte, xbd_s, xpv_n, xpv_s, e_X12_copy_0, e_X12_copy_1, e_X12_copy_4, e_X12_copy_7, e_X12_copy_8, e_X12_copy_11, e_X12_copy_14, e_X12_copy_16, e_X12_copy_17, e_X12_copy_18, e_X12_copy_21, e_X12_copy_22, e_X12_copy_23, e_X12_copy_25, e_X12_copy_28, e_X12_copy_29, e_X12_copy_32, e_X12_copy_33, e_X12_copy_34, e_X12_copy_36, e_X12_copy_39, e_X12_copy_40, e_X12_copy_41, c_X12_copy_56_11_0, c_X12_copy_63_11_0, c_X12_copy_60_11_0, e_X12_copy_44, e_X12_copy_45, e_X12_copy_46, e_X12_copy_49, e_X12_copy_50, e_X12_copy_51, e_X12_copy_52, e_X12_copy_55, e_X12_copy_56, e_X12_copy_57, e_X12_copy_60, e_X12_copy_61, e_X12_copy_62, e_X12_copy_65, e_X12_copy_66, e_X12_copy_67, e_X12_copy_68, e_X12_copy_69, e_X12_copy_71, e_X12_copy_74, e_X12_copy_77, e_X12_copy_78, e_X12_copy_79, e_X12_copy_81, e_X12_copy_83, e_X12_copy_86, e_X12_copy_89, e_X12_copy_90, e_X12_copy_91, e_X12_copy_94, e_X12_copy_95, e_X12_copy_96, e_X12_copy_100, e_X12_copy_102, e_X12_copy_105, e_X12_copy_106, e_X12_copy_108, e_X12_copy_111, e_X12_copy_113, e_X12_copy_116, e_X12_copy_118, e_X12_copy_119, e_X12_copy_120, e_X12_copy_122, e_X12_copy_123, e_X12_copy_125, e_X12_copy_126, e_X12_copy_129, e_X12_copy_131, e_X12_copy_132, e_X12_copy_133, e_X12_copy_135, e_X12_copy_136, e_X12_copy_138, e_X12_copy_139, e_X12_copy_140, e_X12_copy_143, e_X12_copy_145, e_X12_copy_146, e_X12_copy_147, e_X12_copy_148, e_X12_copy_149, e_X12_copy_151, e_X12_copy_152, e_X12_copy_153, e_X12_copy_154, e_X12_copy_157, e_X12_copy_160, e_X12_copy_161, e_X12_copy_163, e_X12_copy_166, g_12_23_11, g_12_29_11, hc, a6, if_pos e1, if_pos e2, nI_add, nI_mul, xl_i, xs_i]
      unfold mcF
      rw [if_pos c]
      all_goals rfl
    · have e2 : ¬ nI j < nI i := nI_nlt (by omega) (by omega)
      rw [if_neg c]
      have e5 : nI n - nI 1 - nI k = nI (n - 1 - k) := by rw [nI_sub' (by omega), nI_sub' (by omega)]
      simp (disch := first | exact xnl_i _ | exact xnl_r _ | exact xnl_u _ | exact xnl_n | exact zI_2 | exact zI_24 | assumption | omega | (simp only [xset_len]; omega)) only [↓reduceIte, xbd_s, xpv_n, xpv_s, e_X12_copy_0, e_X12_copy_1, e_X12_copy_4, e_X12_copy_7, e_X12_copy_8, e_X12_copy_11, e_X12_copy_14, e_X12_copy_16, e_X12_copy_17, e_X12_copy_18, e_X12_copy_21, e_X12_copy_22, e_X12_copy_23, e_X12_copy_25, e_X12_copy_28, e_X12_copy_29, e_X12_copy_32, e_X12_copy_33, e_X12_copy_34, e_X12_copy_36, e_X12_copy_39, e_X12_copy_40, e_X12_copy_41, c_X12_copy_56_11_0, c_X12_copy_63_11_0, c_X12_copy_60_11_0, e_X12_copy_44, e_X12_copy_45, e_X12_copy_46, e_X12_copy_49, e_X12_copy_50, e_X12_copy_51, e_X12_copy_52, e_X12_copy_55, e_X12_copy_56, e_X12_copy_57, e_X12_copy_60, e_X12_copy_61, e_X12_copy_62, e_X12_copy_65, e_X12_copy_66, e_X12_copy_67, e_X12_copy_68, e_X12_copy_69, e_X12_copy_71, e_X12_copy_74, e_X12_copy_77, e_X12_copy_78, e_X12_copy_79, e_X12_copy_81, e_X12_copy_83, e_X12_copy_86, e_X12_copy_89, e_X12_copy_90, e_X12_copy_91, e_X12_copy_94, e_X12_copy_95, e_X12_copy_96, e_X12_copy_100, e_X12_copy_102, e_X12_copy_105, e_X12_copy_106, e_X12_copy_108, e_X12_copy_111, e_X12_copy_113, e_X12_copy_116, e_X12_copy_118, e_X12_copy_119, e_X12_copy_120, e_X12_copy_122, e_X12_copy_123, e_X12_copy_125, e_X12_copy_126, e_X12_copy_129, e_X12_copy_131, e_X12_copy_132, e_X12_copy_133, e_X12_copy_135, e_X12_copy_136, e_X12_copy_138, e_X12_copy_139, e_X12_copy_140, e_X12_copy_143, e_X12_copy_145, e_X12_copy_146, e_X12_copy_147, e_X12_copy_148, e_X12_copy_149, e_X12_copy_151, e_X12_copy_152, e_X12_copy_153, e_X12_copy_154, e_X12_copy_157, e_X12_copy_160, e_X12_copy_161, e_X12_copy_163, e_X12_copy_166, g_12_23_11, g_12_29_11, hc, a6, if_pos e1, if_neg e2, e5, nI_add, nI_mul, xl_i, xs_i]
      unfold mcF
      rw [if_neg c]
      all_goals rfl) (xU, A 6) h ⟨rfl, by rw [setA_id]; exact hM⟩
  obtain ⟨h1, e1, ⟨e9, e2⟩, e3⟩ := L
  have e7 : ∀ c (w : Value) (y : Nat → Int32), (xfold (fun k (y : Value × (Nat → Int32)) => ((.int (nI (if j < i then k else n - 1 - k)) : Value), mcF r s i j n k y.2)) c (w, y)).2 = xfold (mcF r s i j n) c y := by
    intro c
    induction c with
    | zero => intro w y; rfl
    | succ c ih => intro w y; show mcF r s i j n c _ = mcF r s i j n c _; rw [ih]
  rw [e7, mc_fold r s i j n hr hs hi hj] at e2
  have q2 := m_well e2 (nI n)
  refine ⟨_, ?_, xMB_S e2, xFr_tr e3 (xFr_set (a := 169) (e := xMc (upd S 1 (nI 0)) nm) (by omega) ⟨by omega, by omega⟩)⟩
  obtain ⟨hc, a0, a1, a2, a3, a4, a5, a6, a7, a8, a9⟩ := hM
  have e4 : ¬ nI n < nI n := nI_nlt (Nat.le_refl n) (by omega)
  simp (disch := first | exact xnl_i _ | exact xnl_r _ | exact xnl_u _ | exact xnl_n | exact zI_2 | exact zI_24 | assumption | omega | (simp only [xset_len]; omega)) only [↓reduceIte, xbd_s, xpv_n, xpv_s, e_X12_copy_0, e_X12_copy_1, e_X12_copy_4, e_X12_copy_7, e_X12_copy_8, e_X12_copy_11, e_X12_copy_14, e_X12_copy_16, e_X12_copy_17, e_X12_copy_18, e_X12_copy_21, e_X12_copy_22, e_X12_copy_23, e_X12_copy_25, e_X12_copy_28, e_X12_copy_29, e_X12_copy_32, e_X12_copy_33, e_X12_copy_34, e_X12_copy_36, e_X12_copy_39, e_X12_copy_40, e_X12_copy_41, c_X12_copy_56_11_0, c_X12_copy_63_11_0, c_X12_copy_60_11_0, e_X12_copy_44, e_X12_copy_45, e_X12_copy_46, e_X12_copy_49, e_X12_copy_50, e_X12_copy_51, e_X12_copy_52, e_X12_copy_55, e_X12_copy_56, e_X12_copy_57, e_X12_copy_60, e_X12_copy_61, e_X12_copy_62, e_X12_copy_65, e_X12_copy_66, e_X12_copy_67, e_X12_copy_68, e_X12_copy_69, e_X12_copy_71, e_X12_copy_74, e_X12_copy_77, e_X12_copy_78, e_X12_copy_79, e_X12_copy_81, e_X12_copy_83, e_X12_copy_86, e_X12_copy_89, e_X12_copy_90, e_X12_copy_91, e_X12_copy_94, e_X12_copy_95, e_X12_copy_96, e_X12_copy_100, e_X12_copy_102, e_X12_copy_105, e_X12_copy_106, e_X12_copy_108, e_X12_copy_111, e_X12_copy_113, e_X12_copy_116, e_X12_copy_118, e_X12_copy_119, e_X12_copy_120, e_X12_copy_122, e_X12_copy_123, e_X12_copy_125, e_X12_copy_126, e_X12_copy_129, e_X12_copy_131, e_X12_copy_132, e_X12_copy_133, e_X12_copy_135, e_X12_copy_136, e_X12_copy_138, e_X12_copy_139, e_X12_copy_140, e_X12_copy_143, e_X12_copy_145, e_X12_copy_146, e_X12_copy_147, e_X12_copy_148, e_X12_copy_149, e_X12_copy_151, e_X12_copy_152, e_X12_copy_153, e_X12_copy_154, e_X12_copy_157, e_X12_copy_160, e_X12_copy_161, e_X12_copy_163, e_X12_copy_166, g_12_23_11, g_12_29_11, hc, a4, q, q1, z0, ne10, xl_i, if_neg hl, if_neg hl2, if_pos hk, q3, q4]
  refine e1.trans ?_
  have c6 := e2.1
  simp (disch := first | exact xnl_i _ | exact xnl_r _ | exact xnl_u _ | exact xnl_n | exact zI_2 | exact zI_24 | assumption | omega | (simp only [xset_len]; omega)) only [↓reduceIte, xbd_s, xpv_n, xpv_s, e_X12_copy_0, e_X12_copy_1, e_X12_copy_4, e_X12_copy_7, e_X12_copy_8, e_X12_copy_11, e_X12_copy_14, e_X12_copy_16, e_X12_copy_17, e_X12_copy_18, e_X12_copy_21, e_X12_copy_22, e_X12_copy_23, e_X12_copy_25, e_X12_copy_28, e_X12_copy_29, e_X12_copy_32, e_X12_copy_33, e_X12_copy_34, e_X12_copy_36, e_X12_copy_39, e_X12_copy_40, e_X12_copy_41, c_X12_copy_56_11_0, c_X12_copy_63_11_0, c_X12_copy_60_11_0, e_X12_copy_44, e_X12_copy_45, e_X12_copy_46, e_X12_copy_49, e_X12_copy_50, e_X12_copy_51, e_X12_copy_52, e_X12_copy_55, e_X12_copy_56, e_X12_copy_57, e_X12_copy_60, e_X12_copy_61, e_X12_copy_62, e_X12_copy_65, e_X12_copy_66, e_X12_copy_67, e_X12_copy_68, e_X12_copy_69, e_X12_copy_71, e_X12_copy_74, e_X12_copy_77, e_X12_copy_78, e_X12_copy_79, e_X12_copy_81, e_X12_copy_83, e_X12_copy_86, e_X12_copy_89, e_X12_copy_90, e_X12_copy_91, e_X12_copy_94, e_X12_copy_95, e_X12_copy_96, e_X12_copy_98, e_X12_copy_100, e_X12_copy_102, e_X12_copy_105, e_X12_copy_106, e_X12_copy_108, e_X12_copy_111, e_X12_copy_113, e_X12_copy_116, e_X12_copy_118, e_X12_copy_119, e_X12_copy_120, e_X12_copy_122, e_X12_copy_123, e_X12_copy_125, e_X12_copy_126, e_X12_copy_129, e_X12_copy_131, e_X12_copy_132, e_X12_copy_133, e_X12_copy_135, e_X12_copy_136, e_X12_copy_138, e_X12_copy_139, e_X12_copy_140, e_X12_copy_143, e_X12_copy_145, e_X12_copy_146, e_X12_copy_147, e_X12_copy_148, e_X12_copy_149, e_X12_copy_151, e_X12_copy_152, e_X12_copy_153, e_X12_copy_154, e_X12_copy_157, e_X12_copy_160, e_X12_copy_161, e_X12_copy_163, e_X12_copy_166, g_12_23_11, g_12_29_11, c6, if_neg e4, q2]
  all_goals rfl
end XMV
