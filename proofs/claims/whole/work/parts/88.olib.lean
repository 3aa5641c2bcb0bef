/-! library(): the reference, and the relation -/
section XMV2
variable {X : xS} {h : xH} {S : Nat → Int32} {nm : Int64} {A : Nat → Nat → Int32} {t : Nat} {c : Nat → Nat}
def f0A (A : Nat → Nat → Int32) : Nat → Int32 := xfold (fun k y => upd y k (nI 0)) 54 (A 8)
theorem f0A_0 (A : Nat → Nat → Int32) : ∀ q, q < 54 → f0A A q = 0 := fun q hq => fill_all (A 8) q hq
theorem msP_tx (c : Nat → Nat) (t : Nat) (f : Nat → Int32) : spL c t 7 (msP c t (advF c t 0, 0, f)) = tx2 c t f := by
  unfold tx2 tx1 msP
  dsimp only
  have h0 : pFl (advF c t 0) = 0 := by
    unfold advF pFl
    repeat' split
    all_goals rfl
  by_cases k : wB c wSpot (advF c t 0) = true
  · rw [if_pos k, if_pos k, if_neg (by omega)]
    conv => rhs; unfold spL
    rw [if_pos ⟨h0, k⟩]
    dsimp only
    rw [if_neg (show ¬ (0 : Nat) = 7 by omega)]
  · rw [if_neg k, if_neg k, spL_n (failP_nf (by omega)), spL_n (failP_nf (by omega))]
theorem cp_fold (f g : Nat → Int32) : ∀ k, xfold (fun k y => upd y k (g k)) k f = fun q => if q < k then g q else f q := by
  intro k
  induction k with
  | zero => funext q; rw [if_neg (by omega)]; rfl
  | succ k ih =>
    show upd (xfold (fun k y => upd y k (g k)) k f) k (g k) = _
    rw [ih]
    unfold upd
    funext q
    by_cases e : q = k
    · rw [if_pos e, if_pos (by omega), e]
    · rw [if_neg e]
      dsimp only
      by_cases e2 : q < k
      · rw [if_pos e2, if_pos (by omega)]
      · rw [if_neg e2, if_neg (by omega)]
theorem spL_1 : ∀ k (s : pT) (n : Nat) (f : Nat → Int32), f 1 = nI n → n ≤ 7 → (spL c t k (s, n, f)).2.2 1 = nI (spL c t k (s, n, f)).2.1 ∧ (spL c t k (s, n, f)).2.1 ≤ 7 := by
  intro k
  induction k with
  | zero => intro s n f h1 h2; exact ⟨h1, h2⟩
  | succ k ih =>
    intro s n f h1 h2
    unfold spL
    dsimp only
    split
    · split
      · exact ⟨h1, h2⟩
      · rename_i g
        have i1 := spP_1 (c := c) (t := t) (s := advP c t s) h1 (show n < 7 by omega)
        exact ih _ _ _ i1.1 i1.2
    · exact ⟨h1, h2⟩
theorem rdL_1 : ∀ k (s : pT) (n : Nat) (f : Nat → Int32) (q : Nat), q = 1 → n ≤ 4 → (rdL c t k (s, n, f)).2.2 q = f q := by
  intro k
  induction k with
  | zero => intro s n f q h1 h2; rfl
  | succ k ih =>
    intro s n f q h1 h2
    unfold rdL
    dsimp only
    split
    · split
      · rfl
      · rename_i g
        have e : (rdP1 c t (advP c t s, n, f)).2.1 ≤ 4 := by
          unfold rdP1
          split
          · dsimp only; omega
          · exact h2
        rw [ih _ _ _ q h1 e]
        unfold rdP1
        split
        · show dRd f n _ _ q = f q
          unfold dRd
          rw [upd_ne (by omega), upd_ne (by omega), upd_ne (by omega)]
        · rfl
    · rfl
theorem spL_2 : ∀ k (s : pT) (n : Nat) (f : Nat → Int32), n ≤ 7 → (spL c t k (s, n, f)).2.2 2 = f 2 := by
  intro k
  induction k with
  | zero => intro s n f h2; rfl
  | succ k ih =>
    intro s n f h2
    unfold spL
    dsimp only
    split
    · split
      · rfl
      · rename_i g
        have e : (spP c t (advP c t s, n, f)).2.1 ≤ 7 := by
          unfold spP
          split
          · dsimp only; omega
          · exact h2
        rw [ih _ _ _ e]
        unfold spP
        split
        · show dSpot c t _ n f 2 = f 2
          unfold dSpot dSp
          rw [upd_ne (by omega), upd_ne (by omega), upd_ne (by omega), upd_ne (by omega), upd_ne (by omega), upd_ne (by omega)]
        · rfl
    · rfl
theorem m_lib (hM : xMB X h S nm A) (hT : mOk c (A 7) t) (hS : S 2 = nI t) : ∃ h' S' nm' A', xMB X h' S' nm' A' ∧ xFr X inM h h' ∧ S' 1 = S 1 ∧ S' 13 = S 13 ∧ S' 2 = nI 0 ∧ (∀ i, i ≠ 0 → i ≠ 8 → A' i = A i) ∧ (if pFl (tx4 c t (f0A A)) = 0 then xR X m_X12_library 0 [.ref 169, xU, xU] [] h = some (some (.int (nI (tx2 c t (f0A A)).2.1)), h') ∧ S' 0 = nI 0 ∧ S' 8 = S 8 ∧ A' 0 0 = nI 1 ∧ ∀ q, q < 54 → q ≠ 0 → A' 0 q = (tx3 c t (f0A A)).2.2 q else xR X m_X12_library 0 [.ref 169, xU, xU] [] h = some (some (.int (cFAUL - nI (tx4 c t (f0A A)).2.1)), h') ∧ S' 0 = S 0 ∧ S' 8 = nI (pFl (tx4 c t (f0A A))) ∧ A' 0 = A 0) := by
  have ht4 := hT.1
  have L0 := x_loopH (X := X) (A := inM) (fun k (y : Nat → Int32) h => xR X m_X12_library 2 [.ref 169, .int (nI k), xU] [] h) (fun y h => xMB X h S nm (setA A 8 y)) (fun k y => upd y k (nI 0)) 54 (by
    intro k hk y h hM
    have hc := hM.1
    have a8 := hM.2.2.2.2.2.2.2.2.2.1
    rw [setA_eq] at a8
    have e1 : nI k < nI 54 := nI_lt hk (by omega)
    have hM1 := xMB_8 (f := upd y k (nI 0)) hM
    rw [setA_setA] at hM1
    refine ⟨_, ?_, hM1, xFr_set (by omega) ⟨by omega, by omega⟩⟩
    rw [e_X12_library_2]
    simp (disch := first | exact xnl_i _ | exact xnl_r _ | exact xnl_u _ | exact xnl_n | exact zI_2 | exact zI_24 | assumption | omega | (simp only [xset_len]; omega)) only [↓reduceIte, xbd_s, xpv_n, xpv_s, e_X12_library_0, e_X12_library_1, e_X12_library_3, e_X12_library_5, e_X12_library_8, e_X12_library_9, e_X12_library_12, e_X12_library_13, e_X12_library_14, e_X12_library_15, e_X12_library_18, e_X12_library_21, e_X12_library_22, e_X12_library_23, e_X12_library_26, e_X12_library_27, e_X12_library_28, e_X12_library_31, e_X12_library_32, c_X12_library_94_11_0, c_X12_library_131_11_0, c_X12_library_106_11_0, c_X12_library_136_11_0, c_X12_library_97_11_0, e_X12_library_35, e_X12_library_36, e_X12_library_39, e_X12_library_40, e_X12_library_43, e_X12_library_46, e_X12_library_47, e_X12_library_50, e_X12_library_53, e_X12_library_56, e_X12_library_57, e_X12_library_60, e_X12_library_63, e_X12_library_64, e_X12_library_67, e_X12_library_70, e_X12_library_71, e_X12_library_74, e_X12_library_77, e_X12_library_80, e_X12_library_81, e_X12_library_84, e_X12_library_87, e_X12_library_88, e_X12_library_89, e_X12_library_92, e_X12_library_95, e_X12_library_96, e_X12_library_99, e_X12_library_100, e_X12_library_101, e_X12_library_104, e_X12_library_105, e_X12_library_108, e_X12_library_109, e_X12_library_110, e_X12_library_111, e_X12_library_114, e_X12_library_115, e_X12_library_118, e_X12_library_121, e_X12_library_122, e_X12_library_123, e_X12_library_126, e_X12_library_129, e_X12_library_131, e_X12_library_132, e_X12_library_133, e_X12_library_134, e_X12_library_135, e_X12_library_136, e_X12_library_137, e_X12_library_139, e_X12_library_142, e_X12_library_143, e_X12_library_146, e_X12_library_147, e_X12_library_148, e_X12_library_151, e_X12_library_152, e_X12_library_153, e_X12_library_154, e_X12_library_157, e_X12_library_160, e_X12_library_161, e_X12_library_164, e_X12_library_165, e_X12_library_166, e_X12_library_167, e_X12_library_168, e_X12_library_169, e_X12_library_172, e_X12_library_173, e_X12_library_176, e_X12_library_177, e_X12_library_178, g_12_35_11, g_12_78_11, g_12_7_11, g_12_81_11, g_12_91_11, p_12_139_11, p_12_143_11, p_12_66_11, p_12_72_11, p_12_91_11, hc, a8, if_pos e1, xs_i, nI_inc]) (A 8) h (by rw [setA_id]; exact hM)
  obtain ⟨h1, a1, a2, a3⟩ := L0
  have a2' : xMB X h1 S nm (setA A 8 (f0A A)) := a2
  have M2 := xMB_S (S' := upd S 3 (nI 0)) (nm' := nm) a2'
  have M3 := xMB_S (S' := upd (upd S 3 (nI 0)) 7 (nI 0)) (nm' := nm) M2
  have c1 := a2'.1
  have c2 := M2.1
  have hT3 : mOk c (setA A 8 (f0A A) 7) t := by rw [setA_ne (by decide)]; exact hT
  obtain ⟨h4, S4, nm4, b1, b2, b3, b4, b5⟩ := md_next M3 hT3 (b := 0) (by rw [upd_ne (by decide), upd_ne (by decide)]; exact hS) (by rw [upd_ne (by decide), upd_eq]) upd_eq (Nat.zero_le _)
  have c3 := M3.1
  have P4 : xR X m_X12_library 0 [.ref 169, xU, xU] [] h = xR X m_X12_library 35 [.ref 169, .int (nI 54), xU] [] h4 := by
    have e9 : ¬ nI 54 < nI 54 := by decide
    refine Eq.trans (b := xR X m_X12_library 2 [.ref 169, .int (nI 0), xU] [] h) (by simp (disch := first | exact xnl_i _ | exact xnl_r _ | exact xnl_u _ | exact xnl_n | exact zI_2 | exact zI_24 | assumption | omega | (simp only [xset_len]; omega)) only [↓reduceIte, xbd_s, xpv_n, xpv_s, e_X12_library_0, e_X12_library_1, e_X12_library_3, e_X12_library_5, e_X12_library_8, e_X12_library_9, e_X12_library_12, e_X12_library_13, e_X12_library_14, e_X12_library_15, e_X12_library_18, e_X12_library_21, e_X12_library_22, e_X12_library_23, e_X12_library_26, e_X12_library_27, e_X12_library_28, e_X12_library_31, e_X12_library_32, c_X12_library_94_11_0, c_X12_library_131_11_0, c_X12_library_106_11_0, c_X12_library_136_11_0, c_X12_library_97_11_0, e_X12_library_36, e_X12_library_39, e_X12_library_40, e_X12_library_43, e_X12_library_46, e_X12_library_47, e_X12_library_50, e_X12_library_53, e_X12_library_56, e_X12_library_57, e_X12_library_60, e_X12_library_63, e_X12_library_64, e_X12_library_67, e_X12_library_70, e_X12_library_71, e_X12_library_74, e_X12_library_77, e_X12_library_80, e_X12_library_81, e_X12_library_84, e_X12_library_87, e_X12_library_88, e_X12_library_89, e_X12_library_92, e_X12_library_95, e_X12_library_96, e_X12_library_99, e_X12_library_100, e_X12_library_101, e_X12_library_104, e_X12_library_105, e_X12_library_108, e_X12_library_109, e_X12_library_110, e_X12_library_111, e_X12_library_114, e_X12_library_115, e_X12_library_118, e_X12_library_121, e_X12_library_122, e_X12_library_123, e_X12_library_126, e_X12_library_129, e_X12_library_131, e_X12_library_132, e_X12_library_133, e_X12_library_134, e_X12_library_135, e_X12_library_136, e_X12_library_137, e_X12_library_139, e_X12_library_142, e_X12_library_143, e_X12_library_146, e_X12_library_147, e_X12_library_148, e_X12_library_151, e_X12_library_152, e_X12_library_153, e_X12_library_154, e_X12_library_157, e_X12_library_160, e_X12_library_161, e_X12_library_164, e_X12_library_165, e_X12_library_166, e_X12_library_167, e_X12_library_168, e_X12_library_169, e_X12_library_172, e_X12_library_173, e_X12_library_176, e_X12_library_177, e_X12_library_178, g_12_35_11, g_12_78_11, g_12_7_11, g_12_81_11, g_12_91_11, p_12_139_11, p_12_143_11, p_12_66_11, p_12_72_11, p_12_91_11]) ?_
    refine a1.trans ?_
    refine Eq.trans (b := xR X m_X12_library 26 [.ref 169, .int (nI 54), xU] [] (xset h1 169 (xMc (upd S 3 (nI 0)) nm))) ?_ ?_
    · rw [e_X12_library_2]
      simp (disch := first | exact xnl_i _ | exact xnl_r _ | exact xnl_u _ | exact xnl_n | exact zI_2 | exact zI_24 | assumption | omega | (simp only [xset_len]; omega)) only [↓reduceIte, xbd_s, xpv_n, xpv_s, e_X12_library_0, e_X12_library_1, e_X12_library_3, e_X12_library_5, e_X12_library_8, e_X12_library_9, e_X12_library_12, e_X12_library_13, e_X12_library_14, e_X12_library_15, e_X12_library_18, e_X12_library_21, e_X12_library_22, e_X12_library_23, e_X12_library_27, e_X12_library_28, e_X12_library_31, e_X12_library_32, c_X12_library_94_11_0, c_X12_library_131_11_0, c_X12_library_106_11_0, c_X12_library_136_11_0, c_X12_library_97_11_0, e_X12_library_36, e_X12_library_39, e_X12_library_40, e_X12_library_43, e_X12_library_46, e_X12_library_47, e_X12_library_50, e_X12_library_53, e_X12_library_56, e_X12_library_57, e_X12_library_60, e_X12_library_63, e_X12_library_64, e_X12_library_67, e_X12_library_70, e_X12_library_71, e_X12_library_74, e_X12_library_77, e_X12_library_80, e_X12_library_81, e_X12_library_84, e_X12_library_87, e_X12_library_88, e_X12_library_89, e_X12_library_92, e_X12_library_95, e_X12_library_96, e_X12_library_99, e_X12_library_100, e_X12_library_101, e_X12_library_104, e_X12_library_105, e_X12_library_108, e_X12_library_109, e_X12_library_110, e_X12_library_111, e_X12_library_114, e_X12_library_115, e_X12_library_118, e_X12_library_121, e_X12_library_122, e_X12_library_123, e_X12_library_126, e_X12_library_129, e_X12_library_131, e_X12_library_132, e_X12_library_133, e_X12_library_134, e_X12_library_135, e_X12_library_136, e_X12_library_137, e_X12_library_139, e_X12_library_142, e_X12_library_143, e_X12_library_146, e_X12_library_147, e_X12_library_148, e_X12_library_151, e_X12_library_152, e_X12_library_153, e_X12_library_154, e_X12_library_157, e_X12_library_160, e_X12_library_161, e_X12_library_164, e_X12_library_165, e_X12_library_166, e_X12_library_167, e_X12_library_168, e_X12_library_169, e_X12_library_172, e_X12_library_173, e_X12_library_176, e_X12_library_177, e_X12_library_178, g_12_35_11, g_12_78_11, g_12_7_11, g_12_81_11, g_12_91_11, p_12_139_11, p_12_143_11, p_12_66_11, p_12_72_11, p_12_91_11, e9, c1]
      rfl
    refine Eq.trans (b := xR X m_X12_library 31 [.ref 169, .int (nI 54), xU] [] (xset (xset h1 169 (xMc (upd S 3 (nI 0)) nm)) 169 (xMc (upd (upd S 3 (nI 0)) 7 (nI 0)) nm))) ?_ ?_
    · simp (disch := first | exact xnl_i _ | exact xnl_r _ | exact xnl_u _ | exact xnl_n | exact zI_2 | exact zI_24 | assumption | omega | (simp only [xset_len]; omega)) only [↓reduceIte, xbd_s, xpv_n, xpv_s, e_X12_library_0, e_X12_library_1, e_X12_library_3, e_X12_library_5, e_X12_library_8, e_X12_library_9, e_X12_library_12, e_X12_library_13, e_X12_library_14, e_X12_library_15, e_X12_library_18, e_X12_library_21, e_X12_library_22, e_X12_library_23, e_X12_library_26, e_X12_library_27, e_X12_library_28, e_X12_library_32, c_X12_library_94_11_0, c_X12_library_131_11_0, c_X12_library_106_11_0, c_X12_library_136_11_0, c_X12_library_97_11_0, e_X12_library_36, e_X12_library_39, e_X12_library_40, e_X12_library_43, e_X12_library_46, e_X12_library_47, e_X12_library_50, e_X12_library_53, e_X12_library_56, e_X12_library_57, e_X12_library_60, e_X12_library_63, e_X12_library_64, e_X12_library_67, e_X12_library_70, e_X12_library_71, e_X12_library_74, e_X12_library_77, e_X12_library_80, e_X12_library_81, e_X12_library_84, e_X12_library_87, e_X12_library_88, e_X12_library_89, e_X12_library_92, e_X12_library_95, e_X12_library_96, e_X12_library_99, e_X12_library_100, e_X12_library_101, e_X12_library_104, e_X12_library_105, e_X12_library_108, e_X12_library_109, e_X12_library_110, e_X12_library_111, e_X12_library_114, e_X12_library_115, e_X12_library_118, e_X12_library_121, e_X12_library_122, e_X12_library_123, e_X12_library_126, e_X12_library_129, e_X12_library_131, e_X12_library_132, e_X12_library_133, e_X12_library_134, e_X12_library_135, e_X12_library_136, e_X12_library_137, e_X12_library_139, e_X12_library_142, e_X12_library_143, e_X12_library_146, e_X12_library_147, e_X12_library_148, e_X12_library_151, e_X12_library_152, e_X12_library_153, e_X12_library_154, e_X12_library_157, e_X12_library_160, e_X12_library_161, e_X12_library_164, e_X12_library_165, e_X12_library_166, e_X12_library_167, e_X12_library_168, e_X12_library_169, e_X12_library_172, e_X12_library_173, e_X12_library_176, e_X12_library_177, e_X12_library_178, g_12_35_11, g_12_78_11, g_12_7_11, g_12_81_11, g_12_91_11, p_12_139_11, p_12_143_11, p_12_66_11, p_12_72_11, p_12_91_11, c2]
      rfl
    · simp (disch := first | exact xnl_i _ | exact xnl_r _ | exact xnl_u _ | exact xnl_n | exact zI_2 | exact zI_24 | assumption | omega | (simp only [xset_len]; omega)) only [↓reduceIte, xbd_s, xpv_n, xpv_s, e_X12_library_0, e_X12_library_1, e_X12_library_3, e_X12_library_5, e_X12_library_8, e_X12_library_9, e_X12_library_12, e_X12_library_13, e_X12_library_14, e_X12_library_15, e_X12_library_18, e_X12_library_21, e_X12_library_22, e_X12_library_23, e_X12_library_26, e_X12_library_27, e_X12_library_28, e_X12_library_31, e_X12_library_32, c_X12_library_94_11_0, c_X12_library_131_11_0, c_X12_library_106_11_0, c_X12_library_136_11_0, c_X12_library_97_11_0, e_X12_library_36, e_X12_library_39, e_X12_library_40, e_X12_library_43, e_X12_library_46, e_X12_library_47, e_X12_library_50, e_X12_library_53, e_X12_library_56, e_X12_library_57, e_X12_library_60, e_X12_library_63, e_X12_library_64, e_X12_library_67, e_X12_library_70, e_X12_library_71, e_X12_library_74, e_X12_library_77, e_X12_library_80, e_X12_library_81, e_X12_library_84, e_X12_library_87, e_X12_library_88, e_X12_library_89, e_X12_library_92, e_X12_library_95, e_X12_library_96, e_X12_library_99, e_X12_library_100, e_X12_library_101, e_X12_library_104, e_X12_library_105, e_X12_library_108, e_X12_library_109, e_X12_library_110, e_X12_library_111, e_X12_library_114, e_X12_library_115, e_X12_library_118, e_X12_library_121, e_X12_library_122, e_X12_library_123, e_X12_library_126, e_X12_library_129, e_X12_library_131, e_X12_library_132, e_X12_library_133, e_X12_library_134, e_X12_library_135, e_X12_library_136, e_X12_library_137, e_X12_library_139, e_X12_library_142, e_X12_library_143, e_X12_library_146, e_X12_library_147, e_X12_library_148, e_X12_library_151, e_X12_library_152, e_X12_library_153, e_X12_library_154, e_X12_library_157, e_X12_library_160, e_X12_library_161, e_X12_library_164, e_X12_library_165, e_X12_library_166, e_X12_library_167, e_X12_library_168, e_X12_library_169, e_X12_library_172, e_X12_library_173, e_X12_library_176, e_X12_library_177, e_X12_library_178, g_12_35_11, g_12_78_11, g_12_7_11, g_12_81_11, g_12_91_11, p_12_139_11, p_12_143_11, p_12_66_11, p_12_72_11, p_12_91_11, c3, b1]
  have F4 : xFr X inM h h4 := xFr_tr a3 (xFr_tr (xFr_tr (xFr_set (by omega) ⟨by omega, by omega⟩) (xFr_set (by omega) ⟨by omega, by omega⟩)) b5)
  have h0 : pFl (advF c t 0) = 0 := by
    unfold advF pFl
    repeat' split
    all_goals rfl
  have ok0 := advF_ok c t 0 (Nat.zero_le _)
  have f81 : setA A 8 (f0A A) 8 1 = nI 0 := by rw [setA_eq]; exact f0A_0 A 1 (by omega)
  obtain ⟨h5, S5, nm5, d1, d2, d3, d4, d5⟩ := md_spot b2 hT3 b3 ok0 h0 f81 (by omega)
  rw [setA_eq] at d2 d3
  rw [setA_setA] at d2
  have c4 := b2.1
  have hT5 : mOk c (setA A 8 (msP c t (advF c t 0, 0, f0A A)).2.2 7) t := by rw [setA_ne (by decide)]; exact hT
  have inv : (msP c t (advF c t 0, 0, f0A A)).2.2 1 = nI (msP c t (advF c t 0, 0, f0A A)).2.1 ∧ (msP c t (advF c t 0, 0, f0A A)).2.1 ≤ 7 ∧ pOk c t (msP c t (advF c t 0, 0, f0A A)).1 ∧ (pFl (msP c t (advF c t 0, 0, f0A A)).1 = 0 → 8 ≤ (msP c t (advF c t 0, 0, f0A A)).2.1 + 7) := by
    unfold msP
    dsimp only
    by_cases k1 : wB c wSpot (advF c t 0) = true
    · rw [if_pos k1, if_neg (by omega)]
      have i1 := spP_1 (c := c) (t := t) (s := advP c t (advF c t 0)) (n := 0) (f := f0A A) (f0A_0 A 1 (by omega)) (by omega)
      refine ⟨i1.1, i1.2, spP_ok (advP_ok ok0), fun e => ?_⟩
      have i2 := spP_n e
      dsimp only at i2
      omega
    · rw [if_neg k1]
      have h1z : f0A A 1 = nI 0 := f0A_0 A 1 (by omega)
      revert h1z
      generalize f0A A = fz
      intro h1z
      exact ⟨h1z, Nat.zero_le _, failP_ok ok0 (by omega), fun e => absurd e (failP_nf (by omega))⟩
  obtain ⟨i1, i2, i3, i4⟩ := inv
  obtain ⟨h6, S6, nm6, e1, e2, e3, e4, e5⟩ := md_spots (w1 := .int (nI 54)) (w2 := xU) 7 _ _ S5 nm5 _ h5 i4 d2 hT5 d3 i3 (by rw [setA_eq]; exact i1) i2
  rw [setA_eq] at e2 e3
  rw [setA_setA] at e2
  have etx : spL c t 7 ((msP c t (advF c t 0, 0, f0A A)).1, (msP c t (advF c t 0, 0, f0A A)).2.1, (msP c t (advF c t 0, 0, f0A A)).2.2) = tx2 c t (f0A A) := msP_tx c t (f0A A)
  rw [etx] at e2 e3
  have ok2 : pOk c t (tx2 c t (f0A A)).1 := spL_ok 8 _ (tx1_ok c t)
  have hT6 : mOk c (setA A 8 (tx2 c t (f0A A)).2.2 7) t := by rw [setA_ne (by decide)]; exact hT
  have z22 : (tx2 c t (f0A A)).2.2 2 = nI 0 := (spL_2 8 _ 0 (f0A A) (by omega)).trans (f0A_0 A 2 (by omega))
  obtain ⟨h7, S7, nm7, g1, g2, g3, g4, g5⟩ := md_readers (w1 := .int (nI 54)) (w2 := xU) 5 (tx2 c t (f0A A)).1 0 S6 nm6 _ h6 (fun _ => by omega) e2 hT6 e3 ok2 (by rw [setA_eq]; exact z22) (by omega)
  rw [setA_eq] at g2 g3
  rw [setA_setA] at g2
  have g2' : xMB X h7 S7 nm7 (setA A 8 (tx3 c t (f0A A)).2.2) := g2
  have g3' : mPS S7 nm7 c t (tx3 c t (f0A A)).1 := g3
  have ok3 := tx3_ok c t (f0A A)
  have c7 := g2'.1
  rw [g3'.2.2.2.1] at c7
  have P7 : xR X m_X12_library 0 [.ref 169, xU, xU] [] h = xR X m_X12_library 87 [.ref 169, .int (nI 54), xU] [] h7 := by
    refine (P4.trans ?_).trans (e1.trans g1)
    simp (disch := first | exact xnl_i _ | exact xnl_r _ | exact xnl_u _ | exact xnl_n | exact zI_2 | exact zI_24 | assumption | omega | (simp only [xset_len]; omega)) only [↓reduceIte, xbd_s, xpv_n, xpv_s, e_X12_library_0, e_X12_library_1, e_X12_library_2, e_X12_library_3, e_X12_library_5, e_X12_library_8, e_X12_library_9, e_X12_library_12, e_X12_library_13, e_X12_library_14, e_X12_library_15, e_X12_library_18, e_X12_library_21, e_X12_library_22, e_X12_library_23, e_X12_library_26, e_X12_library_27, e_X12_library_28, e_X12_library_31, e_X12_library_32, c_X12_library_94_11_0, c_X12_library_131_11_0, c_X12_library_106_11_0, c_X12_library_136_11_0, c_X12_library_97_11_0, e_X12_library_35, e_X12_library_36, e_X12_library_40, e_X12_library_43, e_X12_library_46, e_X12_library_47, e_X12_library_50, e_X12_library_53, e_X12_library_56, e_X12_library_57, e_X12_library_60, e_X12_library_63, e_X12_library_64, e_X12_library_67, e_X12_library_70, e_X12_library_71, e_X12_library_74, e_X12_library_77, e_X12_library_80, e_X12_library_81, e_X12_library_84, e_X12_library_87, e_X12_library_88, e_X12_library_89, e_X12_library_92, e_X12_library_95, e_X12_library_96, e_X12_library_99, e_X12_library_100, e_X12_library_101, e_X12_library_104, e_X12_library_105, e_X12_library_108, e_X12_library_109, e_X12_library_110, e_X12_library_111, e_X12_library_114, e_X12_library_115, e_X12_library_118, e_X12_library_121, e_X12_library_122, e_X12_library_123, e_X12_library_126, e_X12_library_129, e_X12_library_131, e_X12_library_132, e_X12_library_133, e_X12_library_134, e_X12_library_135, e_X12_library_136, e_X12_library_137, e_X12_library_139, e_X12_library_142, e_X12_library_143, e_X12_library_146, e_X12_library_147, e_X12_library_148, e_X12_library_151, e_X12_library_152, e_X12_library_153, e_X12_library_154, e_X12_library_157, e_X12_library_160, e_X12_library_161, e_X12_library_164, e_X12_library_165, e_X12_library_166, e_X12_library_167, e_X12_library_168, e_X12_library_169, e_X12_library_172, e_X12_library_173, e_X12_library_176, e_X12_library_177, e_X12_library_178, g_12_35_11, g_12_78_11, g_12_7_11, g_12_81_11, g_12_91_11, p_12_139_11, p_12_143_11, p_12_66_11, p_12_72_11, p_12_91_11, c4, d1]
  have must : ∃ h8 S8 nm8, xR X m_X12_library 87 [.ref 169, .int (nI 54), xU] [] h7 = xR X m_X12_library 104 [.ref 169, .int (nI 54), xU] [] h8 ∧ xMB X h8 S8 nm8 (setA A 8 (tx3 c t (f0A A)).2.2) ∧ mPS S8 nm8 c t (tx4 c t (f0A A)) ∧ kq S7 S8 ∧ xFr X inM h7 h8 := by
    have h4' := ok3.2.2.2.2.1
    unfold tx4
    by_cases k : (tx3 c t (f0A A)).1.1 = 0
    · have e0 : nI (tx3 c t (f0A A)).1.1 = 0 := by rw [k]; rfl
      rw [if_pos k]
      obtain ⟨h8, S8, nm8, j1, j2, j3, j4, j5⟩ := md_must1 g2' g3' ok3 (nI 1)
      exact ⟨h8, S8, nm8, by simp (disch := first | exact xnl_i _ | exact xnl_r _ | exact xnl_u _ | exact xnl_n | exact zI_2 | exact zI_24 | assumption | omega | (simp only [xset_len]; omega)) only [↓reduceIte, xbd_s, xpv_n, xpv_s, e_X12_library_0, e_X12_library_1, e_X12_library_2, e_X12_library_3, e_X12_library_5, e_X12_library_8, e_X12_library_9, e_X12_library_12, e_X12_library_13, e_X12_library_14, e_X12_library_15, e_X12_library_18, e_X12_library_21, e_X12_library_22, e_X12_library_23, e_X12_library_26, e_X12_library_27, e_X12_library_28, e_X12_library_31, e_X12_library_32, c_X12_library_94_11_0, c_X12_library_131_11_0, c_X12_library_106_11_0, c_X12_library_136_11_0, c_X12_library_97_11_0, e_X12_library_35, e_X12_library_36, e_X12_library_40, e_X12_library_43, e_X12_library_46, e_X12_library_47, e_X12_library_50, e_X12_library_53, e_X12_library_56, e_X12_library_57, e_X12_library_60, e_X12_library_64, e_X12_library_67, e_X12_library_70, e_X12_library_71, e_X12_library_74, e_X12_library_77, e_X12_library_80, e_X12_library_81, e_X12_library_84, e_X12_library_87, e_X12_library_88, e_X12_library_89, e_X12_library_92, e_X12_library_95, e_X12_library_96, e_X12_library_99, e_X12_library_100, e_X12_library_101, e_X12_library_105, e_X12_library_108, e_X12_library_109, e_X12_library_110, e_X12_library_111, e_X12_library_114, e_X12_library_115, e_X12_library_118, e_X12_library_121, e_X12_library_122, e_X12_library_123, e_X12_library_126, e_X12_library_129, e_X12_library_131, e_X12_library_132, e_X12_library_133, e_X12_library_134, e_X12_library_135, e_X12_library_136, e_X12_library_137, e_X12_library_139, e_X12_library_142, e_X12_library_143, e_X12_library_146, e_X12_library_147, e_X12_library_148, e_X12_library_151, e_X12_library_152, e_X12_library_153, e_X12_library_154, e_X12_library_157, e_X12_library_160, e_X12_library_161, e_X12_library_164, e_X12_library_165, e_X12_library_166, e_X12_library_167, e_X12_library_168, e_X12_library_169, e_X12_library_172, e_X12_library_173, e_X12_library_176, e_X12_library_177, e_X12_library_178, g_12_35_11, g_12_78_11, g_12_7_11, g_12_81_11, g_12_91_11, p_12_139_11, p_12_143_11, p_12_66_11, p_12_72_11, p_12_91_11, c7, if_pos e0, j1], j2, j3, j4, j5⟩
    · have e0 : ¬ nI (tx3 c t (f0A A)).1.1 = 0 := by
        rw [xeq_i, nI_toInt (by omega), xti0]
        omega
      rw [if_neg k]
      obtain ⟨h8, S8, nm8, j1, j2, j3, j4, j5⟩ := md_must0 g2' g3' ok3 1
      exact ⟨h8, S8, nm8, by simp (disch := first | exact xnl_i _ | exact xnl_r _ | exact xnl_u _ | exact xnl_n | exact zI_2 | exact zI_24 | assumption | omega | (simp only [xset_len]; omega)) only [↓reduceIte, xbd_s, xpv_n, xpv_s, e_X12_library_0, e_X12_library_1, e_X12_library_2, e_X12_library_3, e_X12_library_5, e_X12_library_8, e_X12_library_9, e_X12_library_12, e_X12_library_13, e_X12_library_14, e_X12_library_15, e_X12_library_18, e_X12_library_21, e_X12_library_22, e_X12_library_23, e_X12_library_26, e_X12_library_27, e_X12_library_28, e_X12_library_31, e_X12_library_32, c_X12_library_94_11_0, c_X12_library_131_11_0, c_X12_library_106_11_0, c_X12_library_136_11_0, c_X12_library_97_11_0, e_X12_library_35, e_X12_library_36, e_X12_library_40, e_X12_library_43, e_X12_library_46, e_X12_library_47, e_X12_library_50, e_X12_library_53, e_X12_library_56, e_X12_library_57, e_X12_library_60, e_X12_library_64, e_X12_library_67, e_X12_library_70, e_X12_library_71, e_X12_library_74, e_X12_library_77, e_X12_library_80, e_X12_library_81, e_X12_library_84, e_X12_library_87, e_X12_library_88, e_X12_library_89, e_X12_library_92, e_X12_library_95, e_X12_library_96, e_X12_library_99, e_X12_library_100, e_X12_library_101, e_X12_library_105, e_X12_library_108, e_X12_library_109, e_X12_library_110, e_X12_library_111, e_X12_library_114, e_X12_library_115, e_X12_library_118, e_X12_library_121, e_X12_library_122, e_X12_library_123, e_X12_library_126, e_X12_library_129, e_X12_library_131, e_X12_library_132, e_X12_library_133, e_X12_library_134, e_X12_library_135, e_X12_library_136, e_X12_library_137, e_X12_library_139, e_X12_library_142, e_X12_library_143, e_X12_library_146, e_X12_library_147, e_X12_library_148, e_X12_library_151, e_X12_library_152, e_X12_library_153, e_X12_library_154, e_X12_library_157, e_X12_library_160, e_X12_library_161, e_X12_library_164, e_X12_library_165, e_X12_library_166, e_X12_library_167, e_X12_library_168, e_X12_library_169, e_X12_library_172, e_X12_library_173, e_X12_library_176, e_X12_library_177, e_X12_library_178, g_12_35_11, g_12_78_11, g_12_7_11, g_12_81_11, g_12_91_11, p_12_139_11, p_12_143_11, p_12_66_11, p_12_72_11, p_12_91_11, c7, if_neg e0, j1], j2, j3, j4, j5⟩
  obtain ⟨h8, S8, nm8, j1, j2, j3, j4, j5⟩ := must
  have ok4 := tx4_ok c t (f0A A)
  obtain ⟨v2, v3, v4, v5, v7, v6, vn⟩ := j3
  have M9 := xMB_S (S' := upd S8 2 (nI 0)) (nm' := nm8) j2
  have c8 := j2.1
  rw [v4] at c8
  have c9 := M9.1
  rw [upd_ne (show 7 ≠ 2 by decide), v7] at c9
  have KQ : kq S S8 := by
    refine kq_tr (kq_tr (kq_tr (kq_tr (kq_tr (kq_tr (kq_1 (j := 3) (x := nI 0) (by omega)) (kq_1 (j := 7) (x := nI 0) (by omega))) b4) d4) e4) g4) j4
  have F9 : xFr X inM h (xset h8 169 (xMc (upd S8 2 (nI 0)) nm8)) := xFr_tr (xFr_tr (xFr_tr (xFr_tr (xFr_tr F4 d5) e5) g5) j5) (xFr_set (by omega) ⟨by omega, by omega⟩)
  have P9 : xR X m_X12_library 0 [.ref 169, xU, xU] [] h = xR X m_X12_library 114 [.ref 169, .int (nI (tx4 c t (f0A A)).2.1), xU] [] (xset h8 169 (xMc (upd S8 2 (nI 0)) nm8)) := by
    refine (P7.trans j1).trans ?_
    simp (disch := first | exact xnl_i _ | exact xnl_r _ | exact xnl_u _ | exact xnl_n | exact zI_2 | exact zI_24 | assumption | omega | (simp only [xset_len]; omega)) only [↓reduceIte, xbd_s, xpv_n, xpv_s, e_X12_library_0, e_X12_library_1, e_X12_library_2, e_X12_library_3, e_X12_library_5, e_X12_library_8, e_X12_library_9, e_X12_library_12, e_X12_library_13, e_X12_library_14, e_X12_library_15, e_X12_library_18, e_X12_library_21, e_X12_library_22, e_X12_library_23, e_X12_library_26, e_X12_library_27, e_X12_library_28, e_X12_library_31, e_X12_library_32, c_X12_library_94_11_0, c_X12_library_131_11_0, c_X12_library_106_11_0, c_X12_library_136_11_0, c_X12_library_97_11_0, e_X12_library_35, e_X12_library_36, e_X12_library_40, e_X12_library_43, e_X12_library_46, e_X12_library_47, e_X12_library_50, e_X12_library_53, e_X12_library_56, e_X12_library_57, e_X12_library_60, e_X12_library_64, e_X12_library_67, e_X12_library_70, e_X12_library_71, e_X12_library_74, e_X12_library_77, e_X12_library_80, e_X12_library_81, e_X12_library_84, e_X12_library_87, e_X12_library_88, e_X12_library_89, e_X12_library_92, e_X12_library_95, e_X12_library_96, e_X12_library_99, e_X12_library_100, e_X12_library_101, e_X12_library_104, e_X12_library_105, e_X12_library_108, e_X12_library_109, e_X12_library_110, e_X12_library_111, e_X12_library_115, e_X12_library_118, e_X12_library_121, e_X12_library_122, e_X12_library_123, e_X12_library_126, e_X12_library_129, e_X12_library_131, e_X12_library_132, e_X12_library_133, e_X12_library_134, e_X12_library_135, e_X12_library_136, e_X12_library_137, e_X12_library_139, e_X12_library_142, e_X12_library_143, e_X12_library_146, e_X12_library_147, e_X12_library_148, e_X12_library_151, e_X12_library_152, e_X12_library_153, e_X12_library_154, e_X12_library_157, e_X12_library_160, e_X12_library_161, e_X12_library_164, e_X12_library_165, e_X12_library_166, e_X12_library_167, e_X12_library_168, e_X12_library_169, e_X12_library_172, e_X12_library_173, e_X12_library_176, e_X12_library_177, e_X12_library_178, g_12_35_11, g_12_78_11, g_12_7_11, g_12_81_11, g_12_91_11, p_12_139_11, p_12_143_11, p_12_66_11, p_12_72_11, p_12_91_11, c8]
    unfold xMc
    rw [upd_eq, upd_ne (show 4 ≠ 2 by decide), v4]
    rfl
  have hf3 : (tx4 c t (f0A A)).2.2.2 ≤ 3 := ok4.2.2.2.2.2
  by_cases k0 : pFl (tx4 c t (f0A A)) = 0
  · have e0 : ¬ 0 < nI (tx4 c t (f0A A)).2.2.2 := by
      rw [show (tx4 c t (f0A A)).2.2.2 = 0 from k0]
      decide
    have L2 := x_loopH (X := X) (A := inM) (fun k (y : Nat → Int32) h => xR X m_X12_library 136 [.ref 169, .int (nI (tx4 c t (f0A A)).2.1), .int (nI k)] [] h) (fun y h => xMB X h (upd S8 2 (nI 0)) nm8 (setA (setA A 8 (tx3 c t (f0A A)).2.2) 0 y)) (fun k y => upd y k ((tx3 c t (f0A A)).2.2 k)) 54 (by
      intro k hk y h hM
      have hc := hM.1
      have a0 := hM.2.1
      rw [setA_eq] at a0
      have a8 := hM.2.2.2.2.2.2.2.2.2.1
      rw [setA_ne (by decide), setA_eq] at a8
      have e1 : nI k < nI 54 := nI_lt hk (by omega)
      have hM1 := xMB_0 (f := upd y k ((tx3 c t (f0A A)).2.2 k)) hM
      rw [setA_setA] at hM1
      refine ⟨_, ?_, hM1, xFr_set (by omega) ⟨by omega, by omega⟩⟩
      rw [e_X12_library_136]
      simp (disch := first | exact xnl_i _ | exact xnl_r _ | exact xnl_u _ | exact xnl_n | exact zI_2 | exact zI_24 | assumption | omega | (simp only [xset_len]; omega)) only [↓reduceIte, xbd_s, xpv_n, xpv_s, e_X12_library_0, e_X12_library_1, e_X12_library_3, e_X12_library_5, e_X12_library_8, e_X12_library_9, e_X12_library_12, e_X12_library_13, e_X12_library_14, e_X12_library_15, e_X12_library_18, e_X12_library_21, e_X12_library_22, e_X12_library_23, e_X12_library_26, e_X12_library_27, e_X12_library_28, e_X12_library_31, e_X12_library_32, c_X12_library_94_11_0, c_X12_library_131_11_0, c_X12_library_106_11_0, c_X12_library_136_11_0, c_X12_library_97_11_0, e_X12_library_35, e_X12_library_36, e_X12_library_40, e_X12_library_43, e_X12_library_46, e_X12_library_47, e_X12_library_50, e_X12_library_53, e_X12_library_56, e_X12_library_57, e_X12_library_60, e_X12_library_64, e_X12_library_67, e_X12_library_70, e_X12_library_71, e_X12_library_74, e_X12_library_77, e_X12_library_80, e_X12_library_81, e_X12_library_84, e_X12_library_87, e_X12_library_88, e_X12_library_89, e_X12_library_92, e_X12_library_95, e_X12_library_96, e_X12_library_99, e_X12_library_100, e_X12_library_101, e_X12_library_104, e_X12_library_105, e_X12_library_108, e_X12_library_109, e_X12_library_110, e_X12_library_111, e_X12_library_114, e_X12_library_115, e_X12_library_118, e_X12_library_121, e_X12_library_122, e_X12_library_123, e_X12_library_126, e_X12_library_129, e_X12_library_131, e_X12_library_132, e_X12_library_133, e_X12_library_134, e_X12_library_135, e_X12_library_137, e_X12_library_139, e_X12_library_142, e_X12_library_143, e_X12_library_146, e_X12_library_147, e_X12_library_148, e_X12_library_151, e_X12_library_152, e_X12_library_153, e_X12_library_154, e_X12_library_157, e_X12_library_160, e_X12_library_161, e_X12_library_164, e_X12_library_165, e_X12_library_166, e_X12_library_167, e_X12_library_168, e_X12_library_169, e_X12_library_172, e_X12_library_173, e_X12_library_176, e_X12_library_177, e_X12_library_178, g_12_35_11, g_12_78_11, g_12_7_11, g_12_81_11, g_12_91_11, p_12_139_11, p_12_143_11, p_12_66_11, p_12_72_11, p_12_91_11, hc, a0, a8, if_pos e1, xl_i, xs_i, nI_inc]) (A 0) _ (by
        have e : A 0 = (setA A 8 (tx3 c t (f0A A)).2.2) 0 := (setA_ne (by decide)).symm
        have := M9
        rw [← setA_id (A := setA A 8 (tx3 c t (f0A A)).2.2) (i := 0), ← e] at this
        exact this)
    obtain ⟨h10, l1, l2, l3⟩ := L2
    rw [cp_fold] at l2
    have N1 := xMB_0 (f := upd (fun q => if q < 54 then (tx3 c t (f0A A)).2.2 q else A 0 q) 0 (nI 1)) l2
    rw [setA_setA] at N1
    have N2 := xMB_S (S' := upd (upd S8 2 (nI 0)) 0 (nI 0)) (nm' := nm8) N1
    have m0 := l2.1
    have m0' := l2.2.1
    rw [setA_eq] at m0'
    have m1 := N1.1
    have m2 := N2.1
    have m2' := N2.2.1
    rw [setA_eq] at m2'
    refine ⟨_, _, nm8, _, N2, xFr_tr F9 (xFr_tr l3 (xFr_tr (xFr_set (by omega) ⟨by omega, by omega⟩) (xFr_set (by omega) ⟨by omega, by omega⟩))), ?_, ?_, ?_, ?_, ?_⟩
    · rw [upd_ne (by decide), upd_ne (by decide)]; exact KQ 1 (by omega)
    · rw [upd_ne (by decide), upd_ne (by decide)]; exact KQ 13 (by omega)
    · rw [upd_ne (by decide), upd_eq]
    · intro i h1 h2
      rw [setA_ne h1, setA_ne h2]
    · rw [if_pos k0]
      refine ⟨?_, upd_eq, ?_, ?_, ?_⟩
      · have e9 : ¬ nI 54 < nI 54 := by decide
        have ef : upd (fun q => if q < 54 then (tx3 c t (f0A A)).2.2 q else A 0 q) 0 (nI 1) 1 = nI (tx2 c t (f0A A)).2.1 := by
          rw [upd_ne (by decide)]
          try dsimp only
          rw [if_pos (by omega)]
          show (rdL c t 5 ((tx2 c t (f0A A)).1, 0, (tx2 c t (f0A A)).2.2)).2.2 1 = _
          rw [rdL_1 5 _ 0 _ 1 rfl (by omega)]
          exact (spL_1 8 _ 0 (f0A A) (f0A_0 A 1 (by omega)) (by omega)).1
        refine P9.trans ?_
        refine Eq.trans (b := xR X m_X12_library 136 [.ref 169, .int (nI (tx4 c t (f0A A)).2.1), .int (nI 0)] [] (xset h8 169 (xMc (upd S8 2 (nI 0)) nm8))) (by simp (disch := first | exact xnl_i _ | exact xnl_r _ | exact xnl_u _ | exact xnl_n | exact zI_2 | exact zI_24 | assumption | omega | (simp only [xset_len]; omega)) only [↓reduceIte, xbd_s, xpv_n, xpv_s, e_X12_library_0, e_X12_library_1, e_X12_library_3, e_X12_library_5, e_X12_library_8, e_X12_library_9, e_X12_library_12, e_X12_library_13, e_X12_library_14, e_X12_library_15, e_X12_library_18, e_X12_library_21, e_X12_library_22, e_X12_library_23, e_X12_library_26, e_X12_library_27, e_X12_library_28, e_X12_library_31, e_X12_library_32, c_X12_library_94_11_0, c_X12_library_131_11_0, c_X12_library_106_11_0, c_X12_library_136_11_0, c_X12_library_97_11_0, e_X12_library_35, e_X12_library_36, e_X12_library_40, e_X12_library_43, e_X12_library_46, e_X12_library_47, e_X12_library_50, e_X12_library_53, e_X12_library_56, e_X12_library_57, e_X12_library_60, e_X12_library_64, e_X12_library_67, e_X12_library_70, e_X12_library_71, e_X12_library_74, e_X12_library_77, e_X12_library_80, e_X12_library_81, e_X12_library_84, e_X12_library_87, e_X12_library_88, e_X12_library_89, e_X12_library_92, e_X12_library_95, e_X12_library_96, e_X12_library_99, e_X12_library_100, e_X12_library_101, e_X12_library_104, e_X12_library_105, e_X12_library_108, e_X12_library_109, e_X12_library_110, e_X12_library_111, e_X12_library_114, e_X12_library_115, e_X12_library_118, e_X12_library_121, e_X12_library_122, e_X12_library_123, e_X12_library_126, e_X12_library_129, e_X12_library_131, e_X12_library_132, e_X12_library_133, e_X12_library_134, e_X12_library_135, e_X12_library_137, e_X12_library_139, e_X12_library_142, e_X12_library_143, e_X12_library_146, e_X12_library_147, e_X12_library_148, e_X12_library_151, e_X12_library_152, e_X12_library_153, e_X12_library_154, e_X12_library_157, e_X12_library_160, e_X12_library_161, e_X12_library_164, e_X12_library_165, e_X12_library_166, e_X12_library_167, e_X12_library_168, e_X12_library_169, e_X12_library_172, e_X12_library_173, e_X12_library_176, e_X12_library_177, e_X12_library_178, g_12_35_11, g_12_78_11, g_12_7_11, g_12_81_11, g_12_91_11, p_12_139_11, p_12_143_11, p_12_66_11, p_12_72_11, p_12_91_11, c9, if_neg e0]) ?_
        refine l1.trans ?_
        refine Eq.trans (b := xR X m_X12_library 172 [.ref 169, .int (nI (tx4 c t (f0A A)).2.1), .int (nI 54)] [] (xset (xset h10 170 (.inr ((0, 54), .inl (upd (fun q => if q < 54 then (tx3 c t (f0A A)).2.2 q else A 0 q) 0 (nI 1))))) 169 (xMc (upd (upd S8 2 (nI 0)) 0 (nI 0)) nm8))) ?_ ?_
        · rw [e_X12_library_136]
          simp (disch := first | exact xnl_i _ | exact xnl_r _ | exact xnl_u _ | exact xnl_n | exact zI_2 | exact zI_24 | assumption | omega | (simp only [xset_len]; omega)) only [↓reduceIte, xbd_s, xpv_n, xpv_s, e_X12_library_0, e_X12_library_1, e_X12_library_3, e_X12_library_5, e_X12_library_8, e_X12_library_9, e_X12_library_12, e_X12_library_13, e_X12_library_14, e_X12_library_15, e_X12_library_18, e_X12_library_21, e_X12_library_22, e_X12_library_23, e_X12_library_26, e_X12_library_27, e_X12_library_28, e_X12_library_31, e_X12_library_32, c_X12_library_94_11_0, c_X12_library_131_11_0, c_X12_library_106_11_0, c_X12_library_136_11_0, c_X12_library_97_11_0, e_X12_library_35, e_X12_library_36, e_X12_library_40, e_X12_library_43, e_X12_library_46, e_X12_library_47, e_X12_library_50, e_X12_library_53, e_X12_library_56, e_X12_library_57, e_X12_library_60, e_X12_library_64, e_X12_library_67, e_X12_library_70, e_X12_library_71, e_X12_library_74, e_X12_library_77, e_X12_library_80, e_X12_library_81, e_X12_library_84, e_X12_library_87, e_X12_library_88, e_X12_library_89, e_X12_library_92, e_X12_library_95, e_X12_library_96, e_X12_library_99, e_X12_library_100, e_X12_library_101, e_X12_library_104, e_X12_library_105, e_X12_library_108, e_X12_library_109, e_X12_library_110, e_X12_library_111, e_X12_library_114, e_X12_library_115, e_X12_library_118, e_X12_library_121, e_X12_library_122, e_X12_library_123, e_X12_library_126, e_X12_library_129, e_X12_library_131, e_X12_library_132, e_X12_library_133, e_X12_library_134, e_X12_library_135, e_X12_library_137, e_X12_library_139, e_X12_library_142, e_X12_library_143, e_X12_library_146, e_X12_library_147, e_X12_library_148, e_X12_library_151, e_X12_library_152, e_X12_library_153, e_X12_library_154, e_X12_library_157, e_X12_library_160, e_X12_library_161, e_X12_library_164, e_X12_library_165, e_X12_library_166, e_X12_library_167, e_X12_library_168, e_X12_library_169, e_X12_library_173, e_X12_library_176, e_X12_library_177, e_X12_library_178, g_12_35_11, g_12_78_11, g_12_7_11, g_12_81_11, g_12_91_11, p_12_139_11, p_12_143_11, p_12_66_11, p_12_72_11, p_12_91_11, m0, m0', if_neg e9, xs_i, m1]
          rfl
        · simp (disch := first | exact xnl_i _ | exact xnl_r _ | exact xnl_u _ | exact xnl_n | exact zI_2 | exact zI_24 | assumption | omega | (simp only [xset_len]; omega)) only [↓reduceIte, xbd_s, xpv_n, xpv_s, e_X12_library_0, e_X12_library_1, e_X12_library_3, e_X12_library_5, e_X12_library_8, e_X12_library_9, e_X12_library_12, e_X12_library_13, e_X12_library_14, e_X12_library_15, e_X12_library_18, e_X12_library_21, e_X12_library_22, e_X12_library_23, e_X12_library_26, e_X12_library_27, e_X12_library_28, e_X12_library_31, e_X12_library_32, c_X12_library_94_11_0, c_X12_library_131_11_0, c_X12_library_106_11_0, c_X12_library_136_11_0, c_X12_library_97_11_0, e_X12_library_35, e_X12_library_36, e_X12_library_40, e_X12_library_43, e_X12_library_46, e_X12_library_47, e_X12_library_50, e_X12_library_53, e_X12_library_56, e_X12_library_57, e_X12_library_60, e_X12_library_64, e_X12_library_67, e_X12_library_70, e_X12_library_71, e_X12_library_74, e_X12_library_77, e_X12_library_80, e_X12_library_81, e_X12_library_84, e_X12_library_87, e_X12_library_88, e_X12_library_89, e_X12_library_92, e_X12_library_95, e_X12_library_96, e_X12_library_99, e_X12_library_100, e_X12_library_101, e_X12_library_104, e_X12_library_105, e_X12_library_108, e_X12_library_109, e_X12_library_110, e_X12_library_111, e_X12_library_114, e_X12_library_115, e_X12_library_118, e_X12_library_121, e_X12_library_122, e_X12_library_123, e_X12_library_126, e_X12_library_129, e_X12_library_131, e_X12_library_132, e_X12_library_133, e_X12_library_134, e_X12_library_135, e_X12_library_137, e_X12_library_139, e_X12_library_142, e_X12_library_143, e_X12_library_146, e_X12_library_147, e_X12_library_148, e_X12_library_151, e_X12_library_152, e_X12_library_153, e_X12_library_154, e_X12_library_157, e_X12_library_160, e_X12_library_161, e_X12_library_164, e_X12_library_165, e_X12_library_166, e_X12_library_167, e_X12_library_168, e_X12_library_169, e_X12_library_172, e_X12_library_173, e_X12_library_176, e_X12_library_177, e_X12_library_178, g_12_35_11, g_12_78_11, g_12_7_11, g_12_81_11, g_12_91_11, p_12_139_11, p_12_143_11, p_12_66_11, p_12_72_11, p_12_91_11, m2, m2', xl_i, ef]
      · rw [upd_ne (by decide), upd_ne (by decide)]; exact KQ 8 (by omega)
      · rw [setA_eq, upd_eq]
      · intro q h1 h2
        rw [setA_eq, upd_ne h2]
        try dsimp only
        rw [if_pos h1]
  · have e0 : 0 < nI (tx4 c t (f0A A)).2.2.2 := by
      have : ¬ (tx4 c t (f0A A)).2.2.2 = 0 := k0
      rw [xlt_i, nI_toInt (by omega), xti0]
      omega
    have N1 := xMB_S (S' := upd (upd S8 2 (nI 0)) 8 (nI (tx4 c t (f0A A)).2.2.2)) (nm' := nm8) M9
    refine ⟨_, _, nm8, _, N1, xFr_tr F9 (xFr_set (by omega) ⟨by omega, by omega⟩), ?_, ?_, ?_, ?_, ?_⟩
    · rw [upd_ne (by decide), upd_ne (by decide)]; exact KQ 1 (by omega)
    · rw [upd_ne (by decide), upd_ne (by decide)]; exact KQ 13 (by omega)
    · rw [upd_ne (by decide), upd_eq]
    · intro i h1 h2
      rw [setA_ne h2]
    · rw [if_neg k0]
      refine ⟨?_, ?_, upd_eq, setA_ne (by decide)⟩
      · refine P9.trans ?_
        simp (disch := first | exact xnl_i _ | exact xnl_r _ | exact xnl_u _ | exact xnl_n | exact zI_2 | exact zI_24 | assumption | omega | (simp only [xset_len]; omega)) only [↓reduceIte, xbd_s, xpv_n, xpv_s, e_X12_library_0, e_X12_library_1, e_X12_library_3, e_X12_library_5, e_X12_library_8, e_X12_library_9, e_X12_library_12, e_X12_library_13, e_X12_library_14, e_X12_library_15, e_X12_library_18, e_X12_library_21, e_X12_library_22, e_X12_library_23, e_X12_library_26, e_X12_library_27, e_X12_library_28, e_X12_library_31, e_X12_library_32, c_X12_library_94_11_0, c_X12_library_131_11_0, c_X12_library_106_11_0, c_X12_library_136_11_0, c_X12_library_97_11_0, e_X12_library_35, e_X12_library_36, e_X12_library_40, e_X12_library_43, e_X12_library_46, e_X12_library_47, e_X12_library_50, e_X12_library_53, e_X12_library_56, e_X12_library_57, e_X12_library_60, e_X12_library_64, e_X12_library_67, e_X12_library_70, e_X12_library_71, e_X12_library_74, e_X12_library_77, e_X12_library_80, e_X12_library_81, e_X12_library_84, e_X12_library_87, e_X12_library_88, e_X12_library_89, e_X12_library_92, e_X12_library_95, e_X12_library_96, e_X12_library_99, e_X12_library_100, e_X12_library_101, e_X12_library_104, e_X12_library_105, e_X12_library_108, e_X12_library_109, e_X12_library_110, e_X12_library_111, e_X12_library_114, e_X12_library_115, e_X12_library_118, e_X12_library_121, e_X12_library_122, e_X12_library_123, e_X12_library_126, e_X12_library_129, e_X12_library_131, e_X12_library_132, e_X12_library_133, e_X12_library_134, e_X12_library_135, e_X12_library_137, e_X12_library_139, e_X12_library_142, e_X12_library_143, e_X12_library_146, e_X12_library_147, e_X12_library_148, e_X12_library_151, e_X12_library_152, e_X12_library_153, e_X12_library_154, e_X12_library_157, e_X12_library_160, e_X12_library_161, e_X12_library_164, e_X12_library_165, e_X12_library_166, e_X12_library_167, e_X12_library_168, e_X12_library_169, e_X12_library_172, e_X12_library_173, e_X12_library_176, e_X12_library_177, e_X12_library_178, g_12_35_11, g_12_78_11, g_12_7_11, g_12_81_11, g_12_91_11, p_12_139_11, p_12_143_11, p_12_66_11, p_12_72_11, p_12_91_11, c9, if_pos e0]
        unfold xMc
        rw [upd_ne (show 7 ≠ 8 by decide), upd_ne (show 7 ≠ 2 by decide), v7]
        rfl
      · rw [upd_ne (by decide), upd_ne (by decide)]; exact KQ 0 (by omega)
end XMV2
