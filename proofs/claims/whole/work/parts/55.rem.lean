/-! the reference: remembers -/
theorem setA_setA {A : Nat → Nat → Int32} {i : Nat} {f e : Nat → Int32} : setA (setA A i f) i e = setA A i e := by
  funext j
  unfold setA
  split <;> rfl
theorem setA_id {A : Nat → Nat → Int32} {i : Nat} : setA A i (A i) = A := by
  funext j
  unfold setA
  split
  · rename_i c
    rw [c]
  · rfl
def shF (k : Nat) (y : Nat → Int32) : Nat → Int32 := upd y k (y (k + 29))
def rmF (st : Nat → Int32) (c k : Nat) (y : Nat → Int32) : Nat → Int32 := upd y (29 * c + k) (st (25 + k))
section XMT
variable {X : xS} {h : xH} {S : Nat → Int32} {nm : Int64} {A : Nat → Nat → Int32}
theorem m_shift (hM : xMB X h S nm A) : ∃ h', xR X m_X12_remembers 11 [.ref 169, .int (nI 0)] [] h = xR X m_X12_remembers 11 [.ref 169, .int (nI 667)] [] h' ∧ xMB X h' S nm (setA A 3 (xfold shF 667 (A 3))) ∧ xFr X inM h h' := x_loopH (X := X) (A := inM) (fun k (y : Nat → Int32) h => xR X m_X12_remembers 11 [.ref 169, .int (nI k)] [] h) (fun y h => xMB X h S nm (setA A 3 y)) shF 667 (by
    intro k hk y h hM
    have hc := hM.1
    have a3 := hM.2.2.2.2.1
    rw [setA_eq] at a3
    have e1 : nI k < nI 667 := nI_lt hk (by omega)
    have hM1 := xMB_3 (f := shF k y) hM
    rw [setA_setA] at hM1
    refine ⟨_, ?_, hM1, xFr_set (by omega) ⟨by omega, by omega⟩⟩
    rw [e_X12_remembers_11]
    simp (disch := first | exact xnl_i _ | exact xnl_r _ | exact xnl_u _ | exact xnl_n | exact zI_2 | exact zI_24 | assumption | omega | (simp only [xset_len]; omega)) only [↓reduceIte, xbd_s, xpv_n, xpv_s, e_X12_remembers_0, e_X12_remembers_1, e_X12_remembers_4, e_X12_remembers_6, e_X12_remembers_9, e_X12_remembers_10, e_X12_remembers_12, e_X12_remembers_15, e_X12_remembers_18, e_X12_remembers_19, e_X12_remembers_22, e_X12_remembers_23, e_X12_remembers_24, e_X12_remembers_27, e_X12_remembers_28, e_X12_remembers_30, e_X12_remembers_31, e_X12_remembers_32, e_X12_remembers_33, e_X12_remembers_36, e_X12_remembers_39, e_X12_remembers_40, e_X12_remembers_41, e_X12_remembers_44, e_X12_remembers_45, e_X12_remembers_46, e_X12_remembers_49, e_X12_remembers_50, e_X12_remembers_51, e_X12_remembers_52, e_X12_remembers_54, e_X12_remembers_57, e_X12_remembers_58, e_X12_remembers_61, e_X12_remembers_63, e_X12_remembers_64, e_X12_remembers_67, e_X12_remembers_68, e_X12_remembers_69, e_X12_remembers_70, e_X12_remembers_71, e_X12_remembers_74, e_X12_remembers_76, e_X12_remembers_77, e_X12_remembers_78, e_X12_remembers_79, e_X12_remembers_80, e_X12_remembers_83, e_X12_remembers_86, e_X12_remembers_87, e_X12_remembers_88, e_X12_remembers_91, e_X12_remembers_92, e_X12_remembers_93, e_X12_remembers_96, g_12_143_11, g_12_20_11, g_12_7_11, p_12_143_11, hc, a3, e1, nI_add, xl_i, xs_i]
    rfl) (A 3) h (by rw [setA_id]; exact hM)
theorem m_keep (hM : xMB X h S nm A) {c : Nat} (hc24 : c < 24) (hS : S 0 = nI c) : ∃ h', xR X m_X12_remembers 51 [.ref 169, .int (nI 0)] [] h = xR X m_X12_remembers 51 [.ref 169, .int (nI 29)] [] h' ∧ xMB X h' S nm (setA A 3 (xfold (rmF (A 0) c) 29 (A 3))) ∧ xFr X inM h h' := x_loopH (X := X) (A := inM) (fun k (y : Nat → Int32) h => xR X m_X12_remembers 51 [.ref 169, .int (nI k)] [] h) (fun y h => xMB X h S nm (setA A 3 y)) (rmF (A 0) c) 29 (by
    intro k hk y h hM
    have hc := hM.1
    rw [hS] at hc
    have a0 := hM.2.1
    rw [setA_ne (by decide)] at a0
    have a3 := hM.2.2.2.2.1
    rw [setA_eq] at a3
    have e1 : nI k < nI 29 := nI_lt hk (by omega)
    have em : nI 29 * nI c = nI (29 * c) := by unfold nI; rw [Int32.ofNat_mul]
    have hM1 := xMB_3 (f := rmF (A 0) c k y) hM
    rw [setA_setA] at hM1
    refine ⟨_, ?_, hM1, xFr_set (by omega) ⟨by omega, by omega⟩⟩
    rw [e_X12_remembers_51]
    simp (disch := first | exact xnl_i _ | exact xnl_r _ | exact xnl_u _ | exact xnl_n | exact zI_2 | exact zI_24 | assumption | omega | (simp only [xset_len]; omega)) only [↓reduceIte, xbd_s, xpv_n, xpv_s, e_X12_remembers_0, e_X12_remembers_1, e_X12_remembers_4, e_X12_remembers_6, e_X12_remembers_9, e_X12_remembers_10, e_X12_remembers_11, e_X12_remembers_12, e_X12_remembers_15, e_X12_remembers_18, e_X12_remembers_19, e_X12_remembers_22, e_X12_remembers_23, e_X12_remembers_24, e_X12_remembers_27, e_X12_remembers_28, e_X12_remembers_30, e_X12_remembers_31, e_X12_remembers_32, e_X12_remembers_33, e_X12_remembers_36, e_X12_remembers_39, e_X12_remembers_40, e_X12_remembers_41, e_X12_remembers_44, e_X12_remembers_45, e_X12_remembers_46, e_X12_remembers_49, e_X12_remembers_50, e_X12_remembers_52, e_X12_remembers_54, e_X12_remembers_57, e_X12_remembers_58, e_X12_remembers_61, e_X12_remembers_63, e_X12_remembers_64, e_X12_remembers_67, e_X12_remembers_68, e_X12_remembers_69, e_X12_remembers_70, e_X12_remembers_71, e_X12_remembers_74, e_X12_remembers_76, e_X12_remembers_77, e_X12_remembers_78, e_X12_remembers_79, e_X12_remembers_80, e_X12_remembers_83, e_X12_remembers_86, e_X12_remembers_87, e_X12_remembers_88, e_X12_remembers_91, e_X12_remembers_92, e_X12_remembers_93, e_X12_remembers_96, g_12_143_11, g_12_20_11, g_12_7_11, p_12_143_11, hc, a0, a3, e1, em, nI_add, xl_i, xs_i]
    rfl) (A 3) h (by rw [setA_id]; exact hM)
theorem m_rem2 (hM : xMB X h S nm A) {c : Nat} (hc24 : c < 24) (hS : S 0 = nI c) {w : Value} : ∃ h', xR X m_X12_remembers 49 [.ref 169, w] [] h = some (none, h') ∧ xMB X h' (upd S 0 (nI (c + 1))) nm (setA A 3 (xfold (rmF (A 0) c) 29 (A 3))) ∧ xFr X inM h h' := by
  obtain ⟨h1, e1, e2, e3⟩ := m_keep hM hc24 hS
  have hc1 := e2.1
  rw [hS] at hc1
  have f2 : xFr X inM h1 (xset h1 169 (xMc (upd S 0 (nI (c + 1))) nm)) := xFr_set (by omega) ⟨by omega, by omega⟩
  refine ⟨_, ?_, xMB_S e2, xFr_tr e3 f2⟩
  have e4 : ¬ nI 29 < nI 29 := by decide
  simp (disch := first | exact xnl_i _ | exact xnl_r _ | exact xnl_u _ | exact xnl_n | exact zI_2 | exact zI_24 | assumption | omega | (simp only [xset_len]; omega)) only [↓reduceIte, xbd_s, xpv_n, xpv_s, e_X12_remembers_0, e_X12_remembers_1, e_X12_remembers_4, e_X12_remembers_6, e_X12_remembers_9, e_X12_remembers_10, e_X12_remembers_11, e_X12_remembers_12, e_X12_remembers_15, e_X12_remembers_18, e_X12_remembers_19, e_X12_remembers_22, e_X12_remembers_23, e_X12_remembers_24, e_X12_remembers_27, e_X12_remembers_28, e_X12_remembers_30, e_X12_remembers_31, e_X12_remembers_32, e_X12_remembers_33, e_X12_remembers_36, e_X12_remembers_39, e_X12_remembers_40, e_X12_remembers_41, e_X12_remembers_44, e_X12_remembers_45, e_X12_remembers_46, e_X12_remembers_49, e_X12_remembers_50, e_X12_remembers_52, e_X12_remembers_54, e_X12_remembers_57, e_X12_remembers_58, e_X12_remembers_61, e_X12_remembers_63, e_X12_remembers_64, e_X12_remembers_67, e_X12_remembers_68, e_X12_remembers_69, e_X12_remembers_70, e_X12_remembers_71, e_X12_remembers_74, e_X12_remembers_76, e_X12_remembers_77, e_X12_remembers_78, e_X12_remembers_79, e_X12_remembers_80, e_X12_remembers_83, e_X12_remembers_86, e_X12_remembers_87, e_X12_remembers_88, e_X12_remembers_91, e_X12_remembers_92, e_X12_remembers_93, e_X12_remembers_96, g_12_143_11, g_12_20_11, g_12_7_11, p_12_143_11]
  refine e1.trans ?_
  simp (disch := first | exact xnl_i _ | exact xnl_r _ | exact xnl_u _ | exact xnl_n | exact zI_2 | exact zI_24 | assumption | omega | (simp only [xset_len]; omega)) only [↓reduceIte, xbd_s, xpv_n, xpv_s, e_X12_remembers_0, e_X12_remembers_1, e_X12_remembers_4, e_X12_remembers_6, e_X12_remembers_9, e_X12_remembers_10, e_X12_remembers_11, e_X12_remembers_12, e_X12_remembers_15, e_X12_remembers_18, e_X12_remembers_19, e_X12_remembers_22, e_X12_remembers_23, e_X12_remembers_24, e_X12_remembers_27, e_X12_remembers_28, e_X12_remembers_30, e_X12_remembers_31, e_X12_remembers_32, e_X12_remembers_33, e_X12_remembers_36, e_X12_remembers_39, e_X12_remembers_40, e_X12_remembers_41, e_X12_remembers_44, e_X12_remembers_45, e_X12_remembers_46, e_X12_remembers_49, e_X12_remembers_50, e_X12_remembers_51, e_X12_remembers_52, e_X12_remembers_54, e_X12_remembers_57, e_X12_remembers_58, e_X12_remembers_61, e_X12_remembers_63, e_X12_remembers_64, e_X12_remembers_67, e_X12_remembers_68, e_X12_remembers_69, e_X12_remembers_70, e_X12_remembers_71, e_X12_remembers_74, e_X12_remembers_76, e_X12_remembers_77, e_X12_remembers_78, e_X12_remembers_79, e_X12_remembers_80, e_X12_remembers_83, e_X12_remembers_86, e_X12_remembers_87, e_X12_remembers_88, e_X12_remembers_91, e_X12_remembers_92, e_X12_remembers_93, e_X12_remembers_96, g_12_143_11, g_12_20_11, g_12_7_11, p_12_143_11, hc1, e4, nI_inc]
  rfl
theorem m_remembers (hM : xMB X h S nm A) {c : Nat} (hc24 : c ≤ 24) (hS : S 0 = nI c) : ∃ h', xR X m_X12_remembers 0 [.ref 169, xU] [] h = some (none, h') ∧ xMB X h' (upd S 0 (nI (if c < 24 then c + 1 else 24))) nm (setA A 3 (if c < 24 then xfold (rmF (A 0) c) 29 (A 3) else xfold (rmF (A 0) 23) 29 (xfold shF 667 (A 3)))) ∧ xFr X inM h h' := by
  have hc := hM.1
  rw [hS] at hc
  by_cases c1 : c < 24
  · obtain ⟨h', e1, e2, e3⟩ := m_rem2 hM c1 hS (w := xU)
    rw [if_pos c1, if_pos c1]
    have e4 : ¬ nI c = nI 24 := by
      rw [xeq_i, nI_toInt (by omega), nI_toInt (by omega)]
      omega
    refine ⟨h', ?_, e2, e3⟩
    rw [← e1]
    simp (disch := first | exact xnl_i _ | exact xnl_r _ | exact xnl_u _ | exact xnl_n | exact zI_2 | exact zI_24 | assumption | omega | (simp only [xset_len]; omega)) only [↓reduceIte, xbd_s, xpv_n, xpv_s, e_X12_remembers_0, e_X12_remembers_1, e_X12_remembers_4, e_X12_remembers_6, e_X12_remembers_9, e_X12_remembers_10, e_X12_remembers_11, e_X12_remembers_12, e_X12_remembers_15, e_X12_remembers_18, e_X12_remembers_19, e_X12_remembers_22, e_X12_remembers_23, e_X12_remembers_24, e_X12_remembers_27, e_X12_remembers_28, e_X12_remembers_30, e_X12_remembers_31, e_X12_remembers_32, e_X12_remembers_33, e_X12_remembers_36, e_X12_remembers_39, e_X12_remembers_40, e_X12_remembers_41, e_X12_remembers_44, e_X12_remembers_45, e_X12_remembers_46, e_X12_remembers_50, e_X12_remembers_51, e_X12_remembers_52, e_X12_remembers_54, e_X12_remembers_57, e_X12_remembers_58, e_X12_remembers_61, e_X12_remembers_63, e_X12_remembers_64, e_X12_remembers_67, e_X12_remembers_68, e_X12_remembers_69, e_X12_remembers_70, e_X12_remembers_71, e_X12_remembers_74, e_X12_remembers_76, e_X12_remembers_77, e_X12_remembers_78, e_X12_remembers_79, e_X12_remembers_80, e_X12_remembers_83, e_X12_remembers_86, e_X12_remembers_87, e_X12_remembers_88, e_X12_remembers_91, e_X12_remembers_92, e_X12_remembers_93, e_X12_remembers_96, g_12_143_11, g_12_20_11, g_12_7_11, p_12_143_11, hc, e4]
  · rw [if_neg c1, if_neg c1]
    have c2 : c = 24 := by omega
    subst c2
    obtain ⟨h1, e1, e2, e3⟩ := m_shift hM
    have hc1 := e2.1
    rw [hS] at hc1
    have f2 : xFr X inM h1 (xset h1 169 (xMc (upd S 0 (nI 23)) nm)) := xFr_set (by omega) ⟨by omega, by omega⟩
    have M2 := xMB_S (S' := upd S 0 (nI 23)) (nm' := nm) e2
    obtain ⟨h', q1, q2, q3⟩ := m_rem2 M2 (c := 23) (by omega) upd_eq (w := .int (nI 667))
    rw [setA_ne (by decide), setA_eq, setA_setA] at q2
    have u1 : upd (upd S 0 (nI 23)) 0 (nI (23 + 1)) = upd S 0 (nI 24) := by
      funext j
      unfold upd
      split <;> rfl
    rw [u1] at q2
    refine ⟨h', ?_, q2, xFr_tr e3 (xFr_tr f2 q3)⟩
    have e5 : ¬ nI 667 < nI 667 := by decide
    have e6 : nI 24 - nI 1 = nI 23 := by decide
    rw [← q1]
    simp (disch := first | exact xnl_i _ | exact xnl_r _ | exact xnl_u _ | exact xnl_n | exact zI_2 | exact zI_24 | assumption | omega | (simp only [xset_len]; omega)) only [↓reduceIte, xbd_s, xpv_n, xpv_s, e_X12_remembers_0, e_X12_remembers_1, e_X12_remembers_4, e_X12_remembers_6, e_X12_remembers_9, e_X12_remembers_10, e_X12_remembers_12, e_X12_remembers_15, e_X12_remembers_18, e_X12_remembers_19, e_X12_remembers_22, e_X12_remembers_23, e_X12_remembers_24, e_X12_remembers_27, e_X12_remembers_28, e_X12_remembers_30, e_X12_remembers_31, e_X12_remembers_32, e_X12_remembers_33, e_X12_remembers_36, e_X12_remembers_39, e_X12_remembers_40, e_X12_remembers_41, e_X12_remembers_44, e_X12_remembers_45, e_X12_remembers_46, e_X12_remembers_50, e_X12_remembers_51, e_X12_remembers_52, e_X12_remembers_54, e_X12_remembers_57, e_X12_remembers_58, e_X12_remembers_61, e_X12_remembers_63, e_X12_remembers_64, e_X12_remembers_67, e_X12_remembers_68, e_X12_remembers_69, e_X12_remembers_70, e_X12_remembers_71, e_X12_remembers_74, e_X12_remembers_76, e_X12_remembers_77, e_X12_remembers_78, e_X12_remembers_79, e_X12_remembers_80, e_X12_remembers_83, e_X12_remembers_86, e_X12_remembers_87, e_X12_remembers_88, e_X12_remembers_91, e_X12_remembers_92, e_X12_remembers_93, e_X12_remembers_96, g_12_143_11, g_12_20_11, g_12_7_11, p_12_143_11, hc]
    refine e1.trans ?_
    simp (disch := first | exact xnl_i _ | exact xnl_r _ | exact xnl_u _ | exact xnl_n | exact zI_2 | exact zI_24 | assumption | omega | (simp only [xset_len]; omega)) only [↓reduceIte, xbd_s, xpv_n, xpv_s, e_X12_remembers_0, e_X12_remembers_1, e_X12_remembers_4, e_X12_remembers_6, e_X12_remembers_9, e_X12_remembers_10, e_X12_remembers_11, e_X12_remembers_12, e_X12_remembers_15, e_X12_remembers_18, e_X12_remembers_19, e_X12_remembers_22, e_X12_remembers_23, e_X12_remembers_24, e_X12_remembers_27, e_X12_remembers_28, e_X12_remembers_30, e_X12_remembers_31, e_X12_remembers_32, e_X12_remembers_33, e_X12_remembers_36, e_X12_remembers_39, e_X12_remembers_40, e_X12_remembers_41, e_X12_remembers_44, e_X12_remembers_45, e_X12_remembers_46, e_X12_remembers_50, e_X12_remembers_51, e_X12_remembers_52, e_X12_remembers_54, e_X12_remembers_57, e_X12_remembers_58, e_X12_remembers_61, e_X12_remembers_63, e_X12_remembers_64, e_X12_remembers_67, e_X12_remembers_68, e_X12_remembers_69, e_X12_remembers_70, e_X12_remembers_71, e_X12_remembers_74, e_X12_remembers_76, e_X12_remembers_77, e_X12_remembers_78, e_X12_remembers_79, e_X12_remembers_80, e_X12_remembers_83, e_X12_remembers_86, e_X12_remembers_87, e_X12_remembers_88, e_X12_remembers_91, e_X12_remembers_92, e_X12_remembers_93, e_X12_remembers_96, g_12_143_11, g_12_20_11, g_12_7_11, p_12_143_11, hc1, e5, e6]
    rfl
end XMT
