/-! READING, the reference: a spot, a reader -/
theorem failP_nf {n : Nat} {s : pT} (hn : n ≠ 0) : ¬ pFl (failP n s) = 0 := by
  intro e
  by_cases k : pFl s = 0
  · unfold failP at e
    rw [if_pos k] at e
    exact hn e
  · rw [failP_n k] at e
    exact k e
section XMY
variable {X : xS} {h : xH} {S : Nat → Int32} {nm : Int64} {A : Nat → Nat → Int32} {t : Nat} {c : Nat → Nat} {s : pT}
/-- a spot, behind its word -/
theorem md_tail (hM : xMB X h S nm A) (hT : mOk c (A 7) t) (hP : mPS S nm c t s) (hok : pOk c t s) {n : Nat} (hn : A 8 1 = nI n) (hn7 : n ≤ 7) : ∃ h' S' nm' f', xR X m_X12_readSpot 33 [.ref 169, xU, xU, xU, xU, xU] [] h = some (none, h') ∧ f' = (if pFl (sp5 c t (advP c t s)) = 0 then dSpot c t (advP c t s) n (A 8) else A 8) ∧ xMB X h' S' nm' (setA A 8 f') ∧ mPS S' nm' c t (sp5 c t (advP c t s)) ∧ kq S S' ∧ xFr X inM h h' := by
  have o0 : pOk c t (advP c t s) := advP_ok hok
  have o1 : pOk c t (sp1 c t (advP c t s)) := kindP_ok o0
  have o2 : pOk c t (sp2 c t (advP c t s)) := numP_ok o1
  have o3 : pOk c t (sp3 c t (advP c t s)) := numP_ok o2
  have o4 : pOk c t (sp4 c t (advP c t s)) := numP_ok o3
  have o5 : pOk c t (sp5 c t (advP c t s)) := endP_ok o4
  have kl := kindN_le c (advP c t s)
  have g0 := hM.1
  obtain ⟨h1, S1, nm1, a1, a2, a3, a4, a5⟩ := md_goesOn hM hT hP hok
  have g1 := a2.1
  have qs := md_sort a2 a3 o0
  have step : ∃ h3 S3 nm3, xR X m_X12_readSpot 33 [.ref 169, xU, xU, xU, xU, xU] [] h = xR X m_X12_readSpot 62 [.ref 169, .int (if kindN c (advP c t s) = 0 then -1000000 else nI (kindN c (advP c t s))), xU, xU, xU, xU] [] h3 ∧ xMB X h3 S3 nm3 A ∧ mPS S3 nm3 c t (sp1 c t (advP c t s)) ∧ kq S1 S3 ∧ xFr X inM h1 h3 := by
    unfold sp1 kindP
    by_cases k : kindN c (advP c t s) = 0
    · rw [if_pos k] at qs ⊢
      rw [if_pos k]
      obtain ⟨h2, S2, nm2, b1, b2, b3, b4, b5⟩ := md_must0 a2 a3 o0 1
      have g2 := b2.1
      obtain ⟨h3, S3, nm3, d1, d2, d3, d4, d5⟩ := md_goesOn b2 hT b3 (failP_ok o0 (by omega))
      rw [advP_n (failP_nf (by omega))] at d3
      have eN : (-1000000 : Int32) = -1000000 := rfl
      exact ⟨h3, S3, nm3, by simp (disch := first | exact xnl_i _ | exact xnl_r _ | exact xnl_u _ | exact xnl_n | exact zI_2 | exact zI_24 | assumption | omega | (simp only [xset_len]; omega)) only [↓reduceIte, xbd_s, xpv_n, xpv_s, e_X12_readSpot_0, e_X12_readSpot_1, e_X12_readSpot_2, e_X12_readSpot_5, c_X12_readSpot_106_11_1, c_X12_readSpot_97_11_0, c_X12_readSpot_101_11_0, c_X12_readSpot_120_11_0, c_X12_readSpot_124_11_0, c_X12_readSpot_128_11_0, e_X12_readSpot_8, e_X12_readSpot_9, e_X12_readSpot_12, e_X12_readSpot_13, e_X12_readSpot_14, e_X12_readSpot_17, e_X12_readSpot_18, e_X12_readSpot_19, e_X12_readSpot_21, e_X12_readSpot_24, e_X12_readSpot_25, e_X12_readSpot_28, e_X12_readSpot_29, e_X12_readSpot_30, e_X12_readSpot_33, e_X12_readSpot_34, e_X12_readSpot_37, e_X12_readSpot_38, e_X12_readSpot_41, e_X12_readSpot_42, e_X12_readSpot_43, e_X12_readSpot_44, e_X12_readSpot_46, e_X12_readSpot_49, e_X12_readSpot_50, e_X12_readSpot_53, e_X12_readSpot_54, e_X12_readSpot_55, e_X12_readSpot_58, e_X12_readSpot_59, e_X12_readSpot_63, e_X12_readSpot_64, e_X12_readSpot_65, e_X12_readSpot_67, e_X12_readSpot_70, e_X12_readSpot_71, e_X12_readSpot_72, e_X12_readSpot_73, e_X12_readSpot_75, e_X12_readSpot_77, e_X12_readSpot_80, e_X12_readSpot_81, e_X12_readSpot_82, e_X12_readSpot_83, e_X12_readSpot_85, e_X12_readSpot_87, e_X12_readSpot_90, e_X12_readSpot_92, e_X12_readSpot_93, e_X12_readSpot_96, e_X12_readSpot_97, e_X12_readSpot_100, e_X12_readSpot_103, e_X12_readSpot_104, e_X12_readSpot_107, e_X12_readSpot_108, e_X12_readSpot_109, e_X12_readSpot_111, e_X12_readSpot_112, e_X12_readSpot_115, e_X12_readSpot_116, e_X12_readSpot_118, e_X12_readSpot_119, e_X12_readSpot_120, e_X12_readSpot_121, e_X12_readSpot_122, e_X12_readSpot_125, e_X12_readSpot_127, e_X12_readSpot_129, e_X12_readSpot_130, e_X12_readSpot_131, e_X12_readSpot_132, e_X12_readSpot_133, e_X12_readSpot_136, e_X12_readSpot_138, e_X12_readSpot_140, e_X12_readSpot_141, e_X12_readSpot_142, e_X12_readSpot_143, e_X12_readSpot_144, e_X12_readSpot_147, e_X12_readSpot_149, e_X12_readSpot_151, e_X12_readSpot_152, e_X12_readSpot_154, e_X12_readSpot_155, e_X12_readSpot_156, e_X12_readSpot_159, e_X12_readSpot_161, e_X12_readSpot_163, e_X12_readSpot_164, e_X12_readSpot_166, e_X12_readSpot_167, e_X12_readSpot_168, e_X12_readSpot_171, e_X12_readSpot_172, e_X12_readSpot_173, e_X12_readSpot_174, e_X12_readSpot_175, e_X12_readSpot_176, e_X12_readSpot_177, g_12_35_11, g_12_91_11, g0, a1, g1, qs, if_pos eN, b1, g2, d1], d2, d3, kq_tr b4 d4, xFr_tr b5 d5⟩
    · rw [if_neg k] at qs ⊢
      rw [if_neg k]
      obtain ⟨h2, S2, nm2, b1, b2, b3, b4, b5⟩ := md_must1 a2 a3 o0 (nI 1)
      have g2 := b2.1
      obtain ⟨h3, S3, nm3, d1, d2, d3, d4, d5⟩ := md_goesOn b2 hT b3 o0
      have eN : ¬ nI (kindN c (advP c t s)) = -1000000 := nI_neNO (by omega)
      exact ⟨h3, S3, nm3, by simp (disch := first | exact xnl_i _ | exact xnl_r _ | exact xnl_u _ | exact xnl_n | exact zI_2 | exact zI_24 | assumption | omega | (simp only [xset_len]; omega)) only [↓reduceIte, xbd_s, xpv_n, xpv_s, e_X12_readSpot_0, e_X12_readSpot_1, e_X12_readSpot_2, e_X12_readSpot_5, c_X12_readSpot_106_11_1, c_X12_readSpot_97_11_0, c_X12_readSpot_101_11_0, c_X12_readSpot_120_11_0, c_X12_readSpot_124_11_0, c_X12_readSpot_128_11_0, e_X12_readSpot_8, e_X12_readSpot_9, e_X12_readSpot_12, e_X12_readSpot_13, e_X12_readSpot_14, e_X12_readSpot_17, e_X12_readSpot_18, e_X12_readSpot_19, e_X12_readSpot_21, e_X12_readSpot_24, e_X12_readSpot_25, e_X12_readSpot_28, e_X12_readSpot_29, e_X12_readSpot_30, e_X12_readSpot_33, e_X12_readSpot_34, e_X12_readSpot_37, e_X12_readSpot_38, e_X12_readSpot_41, e_X12_readSpot_42, e_X12_readSpot_43, e_X12_readSpot_44, e_X12_readSpot_46, e_X12_readSpot_49, e_X12_readSpot_50, e_X12_readSpot_53, e_X12_readSpot_54, e_X12_readSpot_55, e_X12_readSpot_58, e_X12_readSpot_59, e_X12_readSpot_63, e_X12_readSpot_64, e_X12_readSpot_65, e_X12_readSpot_67, e_X12_readSpot_70, e_X12_readSpot_71, e_X12_readSpot_72, e_X12_readSpot_73, e_X12_readSpot_75, e_X12_readSpot_77, e_X12_readSpot_80, e_X12_readSpot_81, e_X12_readSpot_82, e_X12_readSpot_83, e_X12_readSpot_85, e_X12_readSpot_87, e_X12_readSpot_90, e_X12_readSpot_92, e_X12_readSpot_93, e_X12_readSpot_96, e_X12_readSpot_97, e_X12_readSpot_100, e_X12_readSpot_103, e_X12_readSpot_104, e_X12_readSpot_107, e_X12_readSpot_108, e_X12_readSpot_109, e_X12_readSpot_111, e_X12_readSpot_112, e_X12_readSpot_115, e_X12_readSpot_116, e_X12_readSpot_118, e_X12_readSpot_119, e_X12_readSpot_120, e_X12_readSpot_121, e_X12_readSpot_122, e_X12_readSpot_125, e_X12_readSpot_127, e_X12_readSpot_129, e_X12_readSpot_130, e_X12_readSpot_131, e_X12_readSpot_132, e_X12_readSpot_133, e_X12_readSpot_136, e_X12_readSpot_138, e_X12_readSpot_140, e_X12_readSpot_141, e_X12_readSpot_142, e_X12_readSpot_143, e_X12_readSpot_144, e_X12_readSpot_147, e_X12_readSpot_149, e_X12_readSpot_151, e_X12_readSpot_152, e_X12_readSpot_154, e_X12_readSpot_155, e_X12_readSpot_156, e_X12_readSpot_159, e_X12_readSpot_161, e_X12_readSpot_163, e_X12_readSpot_164, e_X12_readSpot_166, e_X12_readSpot_167, e_X12_readSpot_168, e_X12_readSpot_171, e_X12_readSpot_172, e_X12_readSpot_173, e_X12_readSpot_174, e_X12_readSpot_175, e_X12_readSpot_176, e_X12_readSpot_177, g_12_35_11, g_12_91_11, g0, a1, g1, qs, if_neg eN, b1, g2, d1], d2, d3, kq_tr b4 d4, xFr_tr b5 d5⟩
  obtain ⟨h3, S3, nm3, b1, b2, b3, b4, b5⟩ := step
  have g3 := b2.1
  obtain ⟨v1, ⟨h4, S4, nm4, c1, c2, c3, c4, c5⟩, w1⟩ := md_number b2 hT b3 o1 (lo := 1) (hi := 5) (by omega) (by omega)
  have g4 := c2.1
  obtain ⟨v2, ⟨h5, S5, nm5, d1, d2, d3, d4, d5⟩, w2⟩ := md_number (s := sp2 c t (advP c t s)) c2 hT c3 o2 (lo := 0) (hi := 99) (by omega) (by omega)
  have g5 := d2.1
  obtain ⟨v3, ⟨h6, S6, nm6, e1, e2, e3, e4, e5⟩, w3⟩ := md_number (s := sp3 c t (advP c t s)) d2 hT d3 o3 (lo := 0) (hi := 99) (by omega) (by omega)
  have g6 := e2.1
  obtain ⟨h7, S7, nm7, f1, f2, f3, f4, f5⟩ := md_stop (s := sp4 c t (advP c t s)) e2 hT e3 o4
  have g7 := f2.1
  have s7 : S7 7 = nI (sp5 c t (advP c t s)).2.2.2 := f3.2.2.2.2.1
  rw [s7] at g7
  have KQ : kq S S7 := kq_tr (kq_tr (kq_tr (kq_tr (kq_tr a4 b4) c4) d4) e4) f4
  have FR : xFr X inM h h7 := xFr_tr (xFr_tr (xFr_tr (xFr_tr (xFr_tr a5 b5) c5) d5) e5) f5
  obtain ⟨z1, z2⟩ := nI_fl o5.2.2.2.2.2
  have P7 : xR X m_X12_readSpot 33 [.ref 169, xU, xU, xU, xU, xU] [] h = xR X m_X12_readSpot 96 [.ref 169, .int (if kindN c (advP c t s) = 0 then -1000000 else nI (kindN c (advP c t s))), .int v1, .int v2, .int v3, xU] [] h7 := by
    refine b1.trans ?_
    have n1 : nI 0 = nI 0 := rfl
    simp (disch := first | exact xnl_i _ | exact xnl_r _ | exact xnl_u _ | exact xnl_n | exact zI_2 | exact zI_24 | assumption | omega | (simp only [xset_len]; omega)) only [↓reduceIte, xbd_s, xpv_n, xpv_s, e_X12_readSpot_0, e_X12_readSpot_1, e_X12_readSpot_2, e_X12_readSpot_5, c_X12_readSpot_106_11_1, c_X12_readSpot_97_11_0, c_X12_readSpot_101_11_0, c_X12_readSpot_120_11_0, c_X12_readSpot_124_11_0, c_X12_readSpot_128_11_0, e_X12_readSpot_8, e_X12_readSpot_9, e_X12_readSpot_12, e_X12_readSpot_13, e_X12_readSpot_14, e_X12_readSpot_17, e_X12_readSpot_18, e_X12_readSpot_19, e_X12_readSpot_21, e_X12_readSpot_24, e_X12_readSpot_25, e_X12_readSpot_28, e_X12_readSpot_29, e_X12_readSpot_30, e_X12_readSpot_33, e_X12_readSpot_34, e_X12_readSpot_37, e_X12_readSpot_38, e_X12_readSpot_41, e_X12_readSpot_42, e_X12_readSpot_43, e_X12_readSpot_44, e_X12_readSpot_46, e_X12_readSpot_49, e_X12_readSpot_50, e_X12_readSpot_53, e_X12_readSpot_54, e_X12_readSpot_55, e_X12_readSpot_58, e_X12_readSpot_59, e_X12_readSpot_62, e_X12_readSpot_63, e_X12_readSpot_64, e_X12_readSpot_65, e_X12_readSpot_67, e_X12_readSpot_70, e_X12_readSpot_71, e_X12_readSpot_72, e_X12_readSpot_73, e_X12_readSpot_75, e_X12_readSpot_77, e_X12_readSpot_80, e_X12_readSpot_81, e_X12_readSpot_82, e_X12_readSpot_83, e_X12_readSpot_85, e_X12_readSpot_87, e_X12_readSpot_90, e_X12_readSpot_92, e_X12_readSpot_93, e_X12_readSpot_97, e_X12_readSpot_100, e_X12_readSpot_103, e_X12_readSpot_104, e_X12_readSpot_107, e_X12_readSpot_108, e_X12_readSpot_109, e_X12_readSpot_111, e_X12_readSpot_112, e_X12_readSpot_115, e_X12_readSpot_116, e_X12_readSpot_118, e_X12_readSpot_119, e_X12_readSpot_120, e_X12_readSpot_121, e_X12_readSpot_122, e_X12_readSpot_125, e_X12_readSpot_127, e_X12_readSpot_129, e_X12_readSpot_130, e_X12_readSpot_131, e_X12_readSpot_132, e_X12_readSpot_133, e_X12_readSpot_136, e_X12_readSpot_138, e_X12_readSpot_140, e_X12_readSpot_141, e_X12_readSpot_142, e_X12_readSpot_143, e_X12_readSpot_144, e_X12_readSpot_147, e_X12_readSpot_149, e_X12_readSpot_151, e_X12_readSpot_152, e_X12_readSpot_154, e_X12_readSpot_155, e_X12_readSpot_156, e_X12_readSpot_159, e_X12_readSpot_161, e_X12_readSpot_163, e_X12_readSpot_164, e_X12_readSpot_166, e_X12_readSpot_167, e_X12_readSpot_168, e_X12_readSpot_171, e_X12_readSpot_172, e_X12_readSpot_173, e_X12_readSpot_174, e_X12_readSpot_175, e_X12_readSpot_176, e_X12_readSpot_177, g_12_35_11, g_12_91_11, g3, c1, g4, d1, g5, e1, g6, f1]
  by_cases k0 : pFl (sp5 c t (advP c t s)) = 0
  · have z3 := z1 k0
    obtain ⟨q1, q2, q3, q4⟩ := sp_ok k0
    have n4 := numP_0 (endP_0 k0)
    have n3 := numP_0 n4.1
    have n2 := numP_0 n3.1
    have ev1 : v1 = nI (numV c (sp1 c t (advP c t s))) := w1 n3.1
    have ev2 : v2 = nI (numV c (sp2 c t (advP c t s))) := w2 n4.1
    have ev3 : v3 = nI (numV c (sp3 c t (advP c t s))) := w3 (endP_0 k0)
    rw [if_pos k0]
    rw [if_neg (by omega), ev1, ev2, ev3] at P7
    have f80 := f2.2.2.2.2.2.2.2.2.2.1
    have N1 := xMB_8 (f := upd (A 8) (3 + n) (nI (kindN c (advP c t s)))) f2
    have N2 := xMB_8 (f := upd (upd (A 8) (3 + n) (nI (kindN c (advP c t s)))) (10 + n) (nI (numV c (sp1 c t (advP c t s))))) N1
    have N3 := xMB_8 (f := upd (upd (upd (A 8) (3 + n) (nI (kindN c (advP c t s)))) (10 + n) (nI (numV c (sp1 c t (advP c t s))))) (26 + n) (nI (numV c (sp2 c t (advP c t s))))) N2
    have N4 := xMB_8 (f := upd (upd (upd (upd (A 8) (3 + n) (nI (kindN c (advP c t s)))) (10 + n) (nI (numV c (sp1 c t (advP c t s))))) (26 + n) (nI (numV c (sp2 c t (advP c t s))))) (33 + n) (nI n)) N3
    have N5 := xMB_8 (f := upd (upd (upd (upd (upd (A 8) (3 + n) (nI (kindN c (advP c t s)))) (10 + n) (nI (numV c (sp1 c t (advP c t s))))) (26 + n) (nI (numV c (sp2 c t (advP c t s))))) (33 + n) (nI n)) (40 + n) (nI (numV c (sp3 c t (advP c t s))))) N4
    have N6 := xMB_8 (f := dSpot c t (advP c t s) n (A 8)) N5
    rw [setA_setA] at N2
    rw [setA_setA, setA_setA] at N3
    rw [setA_setA, setA_setA, setA_setA] at N4
    rw [setA_setA, setA_setA, setA_setA, setA_setA] at N5
    rw [setA_setA, setA_setA, setA_setA, setA_setA, setA_setA] at N6
    have m1 := N1.1
    have m2 := N2.1
    have m3 := N3.1
    have m4 := N4.1
    have m5 := N5.1
    rw [s7] at m1 m2 m3 m4 m5
    have r1 := N1.2.2.2.2.2.2.2.2.2.1
    have r2 := N2.2.2.2.2.2.2.2.2.2.1
    have r3 := N3.2.2.2.2.2.2.2.2.2.1
    have r4 := N4.2.2.2.2.2.2.2.2.2.1
    have r5 := N5.2.2.2.2.2.2.2.2.2.1
    rw [setA_eq] at r1 r2 r3 r4 r5
    have u5 : upd (upd (upd (upd (upd (A 8) (3 + n) (nI (kindN c (advP c t s)))) (10 + n) (nI (numV c (sp1 c t (advP c t s))))) (26 + n) (nI (numV c (sp2 c t (advP c t s))))) (33 + n) (nI n)) (40 + n) (nI (numV c (sp3 c t (advP c t s)))) 1 = nI n := by
      rw [upd_ne (by omega), upd_ne (by omega), upd_ne (by omega), upd_ne (by omega), upd_ne (by omega)]
      exact hn
    refine ⟨_, S7, nm7, _, ?_, rfl, N6, f3, KQ, xFr_tr (xFr_tr (xFr_tr (xFr_tr (xFr_tr (xFr_tr FR (xFr_set (by omega) ⟨by omega, by omega⟩)) (xFr_set (by omega) ⟨by omega, by omega⟩)) (xFr_set (by omega) ⟨by omega, by omega⟩)) (xFr_set (by omega) ⟨by omega, by omega⟩)) (xFr_set (by omega) ⟨by omega, by omega⟩)) (xFr_set (by omega) ⟨by omega, by omega⟩)⟩
    refine P7.trans ?_
    have hf8 : ∀ K : Value → Option (Option Value × xH), xlK .iaload (some (.inr ((0, 54), .inl (A 8)))) (nI 1) K = K (.int (nI n)) := fun K => by
      rw [xl_i (by omega) (by omega), hn]
    have hf85 : ∀ K : Value → Option (Option Value × xH), xlK .iaload (some (.inr ((0, 54), .inl (upd (upd (upd (upd (upd (A 8) (3 + n) (nI (kindN c (advP c t s)))) (10 + n) (nI (numV c (sp1 c t (advP c t s))))) (26 + n) (nI (numV c (sp2 c t (advP c t s))))) (33 + n) (nI n)) (40 + n) (nI (numV c (sp3 c t (advP c t s)))))))) (nI 1) K = K (.int (nI n)) := fun K => by
      rw [xl_i (by omega) (by omega), u5]
    simp (disch := first | exact xnl_i _ | exact xnl_r _ | exact xnl_u _ | exact xnl_n | exact zI_2 | exact zI_24 | assumption | omega | (simp only [xset_len]; omega)) only [↓reduceIte, xbd_s, xpv_n, xpv_s, e_X12_readSpot_0, e_X12_readSpot_1, e_X12_readSpot_2, e_X12_readSpot_5, c_X12_readSpot_106_11_1, c_X12_readSpot_97_11_0, c_X12_readSpot_101_11_0, c_X12_readSpot_120_11_0, c_X12_readSpot_124_11_0, c_X12_readSpot_128_11_0, e_X12_readSpot_8, e_X12_readSpot_9, e_X12_readSpot_12, e_X12_readSpot_13, e_X12_readSpot_14, e_X12_readSpot_17, e_X12_readSpot_18, e_X12_readSpot_19, e_X12_readSpot_21, e_X12_readSpot_24, e_X12_readSpot_25, e_X12_readSpot_28, e_X12_readSpot_29, e_X12_readSpot_30, e_X12_readSpot_33, e_X12_readSpot_34, e_X12_readSpot_37, e_X12_readSpot_38, e_X12_readSpot_41, e_X12_readSpot_42, e_X12_readSpot_43, e_X12_readSpot_44, e_X12_readSpot_46, e_X12_readSpot_49, e_X12_readSpot_50, e_X12_readSpot_53, e_X12_readSpot_54, e_X12_readSpot_55, e_X12_readSpot_58, e_X12_readSpot_59, e_X12_readSpot_62, e_X12_readSpot_63, e_X12_readSpot_64, e_X12_readSpot_65, e_X12_readSpot_67, e_X12_readSpot_70, e_X12_readSpot_71, e_X12_readSpot_72, e_X12_readSpot_73, e_X12_readSpot_75, e_X12_readSpot_77, e_X12_readSpot_80, e_X12_readSpot_81, e_X12_readSpot_82, e_X12_readSpot_83, e_X12_readSpot_85, e_X12_readSpot_87, e_X12_readSpot_90, e_X12_readSpot_92, e_X12_readSpot_93, e_X12_readSpot_96, e_X12_readSpot_97, e_X12_readSpot_100, e_X12_readSpot_103, e_X12_readSpot_104, e_X12_readSpot_107, e_X12_readSpot_108, e_X12_readSpot_109, e_X12_readSpot_111, e_X12_readSpot_112, e_X12_readSpot_115, e_X12_readSpot_116, e_X12_readSpot_118, e_X12_readSpot_119, e_X12_readSpot_120, e_X12_readSpot_121, e_X12_readSpot_122, e_X12_readSpot_125, e_X12_readSpot_127, e_X12_readSpot_129, e_X12_readSpot_130, e_X12_readSpot_131, e_X12_readSpot_132, e_X12_readSpot_133, e_X12_readSpot_136, e_X12_readSpot_138, e_X12_readSpot_140, e_X12_readSpot_141, e_X12_readSpot_142, e_X12_readSpot_143, e_X12_readSpot_144, e_X12_readSpot_147, e_X12_readSpot_149, e_X12_readSpot_151, e_X12_readSpot_152, e_X12_readSpot_154, e_X12_readSpot_155, e_X12_readSpot_156, e_X12_readSpot_159, e_X12_readSpot_161, e_X12_readSpot_163, e_X12_readSpot_164, e_X12_readSpot_166, e_X12_readSpot_167, e_X12_readSpot_168, e_X12_readSpot_171, e_X12_readSpot_172, e_X12_readSpot_173, e_X12_readSpot_174, e_X12_readSpot_175, e_X12_readSpot_176, e_X12_readSpot_177, g_12_35_11, g_12_91_11, g7, if_pos z3, f80, hf8, nI_add, xs_i, m1, r1, m2, r2, m3, r3, m4, r4, m5, r5, hf85, nI_inc]
    rfl
  · have z3 := z2 k0
    rw [if_neg k0]
    refine ⟨h7, S7, nm7, A 8, ?_, rfl, by rw [setA_id]; exact f2, f3, KQ, FR⟩
    refine P7.trans ?_
    simp (disch := first | exact xnl_i _ | exact xnl_r _ | exact xnl_u _ | exact xnl_n | exact zI_2 | exact zI_24 | assumption | omega | (simp only [xset_len]; omega)) only [↓reduceIte, xbd_s, xpv_n, xpv_s, e_X12_readSpot_0, e_X12_readSpot_1, e_X12_readSpot_2, e_X12_readSpot_5, c_X12_readSpot_106_11_1, c_X12_readSpot_97_11_0, c_X12_readSpot_101_11_0, c_X12_readSpot_120_11_0, c_X12_readSpot_124_11_0, c_X12_readSpot_128_11_0, e_X12_readSpot_8, e_X12_readSpot_9, e_X12_readSpot_12, e_X12_readSpot_13, e_X12_readSpot_14, e_X12_readSpot_17, e_X12_readSpot_18, e_X12_readSpot_19, e_X12_readSpot_21, e_X12_readSpot_24, e_X12_readSpot_25, e_X12_readSpot_28, e_X12_readSpot_29, e_X12_readSpot_30, e_X12_readSpot_33, e_X12_readSpot_34, e_X12_readSpot_37, e_X12_readSpot_38, e_X12_readSpot_41, e_X12_readSpot_42, e_X12_readSpot_43, e_X12_readSpot_44, e_X12_readSpot_46, e_X12_readSpot_49, e_X12_readSpot_50, e_X12_readSpot_53, e_X12_readSpot_54, e_X12_readSpot_55, e_X12_readSpot_58, e_X12_readSpot_59, e_X12_readSpot_62, e_X12_readSpot_63, e_X12_readSpot_64, e_X12_readSpot_65, e_X12_readSpot_67, e_X12_readSpot_70, e_X12_readSpot_71, e_X12_readSpot_72, e_X12_readSpot_73, e_X12_readSpot_75, e_X12_readSpot_77, e_X12_readSpot_80, e_X12_readSpot_81, e_X12_readSpot_82, e_X12_readSpot_83, e_X12_readSpot_85, e_X12_readSpot_87, e_X12_readSpot_90, e_X12_readSpot_92, e_X12_readSpot_93, e_X12_readSpot_96, e_X12_readSpot_97, e_X12_readSpot_100, e_X12_readSpot_103, e_X12_readSpot_104, e_X12_readSpot_107, e_X12_readSpot_108, e_X12_readSpot_109, e_X12_readSpot_111, e_X12_readSpot_112, e_X12_readSpot_115, e_X12_readSpot_116, e_X12_readSpot_118, e_X12_readSpot_119, e_X12_readSpot_120, e_X12_readSpot_121, e_X12_readSpot_122, e_X12_readSpot_125, e_X12_readSpot_127, e_X12_readSpot_129, e_X12_readSpot_130, e_X12_readSpot_131, e_X12_readSpot_132, e_X12_readSpot_133, e_X12_readSpot_136, e_X12_readSpot_138, e_X12_readSpot_140, e_X12_readSpot_141, e_X12_readSpot_142, e_X12_readSpot_143, e_X12_readSpot_144, e_X12_readSpot_147, e_X12_readSpot_149, e_X12_readSpot_151, e_X12_readSpot_152, e_X12_readSpot_154, e_X12_readSpot_155, e_X12_readSpot_156, e_X12_readSpot_159, e_X12_readSpot_161, e_X12_readSpot_163, e_X12_readSpot_164, e_X12_readSpot_166, e_X12_readSpot_167, e_X12_readSpot_168, e_X12_readSpot_171, e_X12_readSpot_172, e_X12_readSpot_173, e_X12_readSpot_174, e_X12_readSpot_175, e_X12_readSpot_176, e_X12_readSpot_177, g_12_35_11, g_12_91_11, g7, if_neg z3]
/-- a spot, its word before it -/
noncomputable def msP (c : Nat → Nat) (t : Nat) (y : pD) : pD := if wB c wSpot y.1 = true then (if y.2.1 = 7 then (failP 3 y.1, y.2) else spP c t (advP c t y.1, y.2)) else (failP 1 y.1, y.2)
theorem md_spot (hM : xMB X h S nm A) (hT : mOk c (A 7) t) (hP : mPS S nm c t s) (hok : pOk c t s) (hf : pFl s = 0) {n : Nat} (hn : A 8 1 = nI n) (hn7 : n ≤ 7) : ∃ h' S' nm', xR X m_X12_readSpot 0 [.ref 169, xU, xU, xU, xU, xU] [] h = some (none, h') ∧ xMB X h' S' nm' (setA A 8 (msP c t (s, n, A 8)).2.2) ∧ mPS S' nm' c t (msP c t (s, n, A 8)).1 ∧ kq S S' ∧ xFr X inM h h' := by
  have g0 := hM.1
  have r0 := hM.2.2.2.2.2.2.2.2.2.1
  have q := md_isName hM hP hok (w := wSpot) (by decide)
  rw [wl_spot] at q
  unfold msP
  dsimp only
  have hf8 : ∀ K : Value → Option (Option Value × xH), xlK .iaload (some (.inr ((0, 54), .inl (A 8)))) (nI 1) K = K (.int (nI n)) := fun K => by
    rw [xl_i (by omega) (by omega), hn]
  by_cases k1 : wB c wSpot s = true
  · rw [if_pos k1] at q ⊢
    obtain ⟨h1, S1, nm1, a1, a2, a3, a4, a5⟩ := md_must1 hM hP hok (nI 1)
    have g1 := a2.1
    have r1 := a2.2.2.2.2.2.2.2.2.2.1
    by_cases k2 : n = 7
    · have e2 : ¬ nI n < nI 7 := nI_nlt (by omega) (by omega)
      rw [if_pos k2]
      obtain ⟨h2, S2, nm2, b1, b2, b3, b4, b5⟩ := md_must0 a2 a3 hok 3
      have ok2 : pOk c t (failP 3 s) := failP_ok hok (by omega)
      have nf : ¬ pFl (failP 3 s) = 0 := failP_nf (by omega)
      obtain ⟨h3, S3, nm3, f', d1, d2, d3, d4, d5, d6⟩ := md_tail b2 hT b3 ok2 hn hn7
      rw [advP_n nf, sp5_n nf, if_neg nf] at d2
      rw [advP_n nf, sp5_n nf] at d4
      rw [d2] at d3
      refine ⟨h3, S3, nm3, ?_, d3, d4, kq_tr (kq_tr a4 b4) d5, xFr_tr (xFr_tr a5 b5) d6⟩
      rw [← d1]
      simp (disch := first | exact xnl_i _ | exact xnl_r _ | exact xnl_u _ | exact xnl_n | exact zI_2 | exact zI_24 | assumption | omega | (simp only [xset_len]; omega)) only [↓reduceIte, xbd_s, xpv_n, xpv_s, e_X12_readSpot_0, e_X12_readSpot_1, e_X12_readSpot_2, e_X12_readSpot_5, c_X12_readSpot_106_11_1, c_X12_readSpot_97_11_0, c_X12_readSpot_101_11_0, c_X12_readSpot_120_11_0, c_X12_readSpot_124_11_0, c_X12_readSpot_128_11_0, e_X12_readSpot_8, e_X12_readSpot_9, e_X12_readSpot_12, e_X12_readSpot_13, e_X12_readSpot_14, e_X12_readSpot_17, e_X12_readSpot_18, e_X12_readSpot_19, e_X12_readSpot_21, e_X12_readSpot_24, e_X12_readSpot_25, e_X12_readSpot_28, e_X12_readSpot_29, e_X12_readSpot_30, e_X12_readSpot_34, e_X12_readSpot_37, e_X12_readSpot_38, e_X12_readSpot_41, e_X12_readSpot_42, e_X12_readSpot_43, e_X12_readSpot_44, e_X12_readSpot_46, e_X12_readSpot_49, e_X12_readSpot_50, e_X12_readSpot_53, e_X12_readSpot_54, e_X12_readSpot_55, e_X12_readSpot_58, e_X12_readSpot_59, e_X12_readSpot_62, e_X12_readSpot_63, e_X12_readSpot_64, e_X12_readSpot_65, e_X12_readSpot_67, e_X12_readSpot_70, e_X12_readSpot_71, e_X12_readSpot_72, e_X12_readSpot_73, e_X12_readSpot_75, e_X12_readSpot_77, e_X12_readSpot_80, e_X12_readSpot_81, e_X12_readSpot_82, e_X12_readSpot_83, e_X12_readSpot_85, e_X12_readSpot_87, e_X12_readSpot_90, e_X12_readSpot_92, e_X12_readSpot_93, e_X12_readSpot_96, e_X12_readSpot_97, e_X12_readSpot_100, e_X12_readSpot_103, e_X12_readSpot_104, e_X12_readSpot_107, e_X12_readSpot_108, e_X12_readSpot_109, e_X12_readSpot_111, e_X12_readSpot_112, e_X12_readSpot_115, e_X12_readSpot_116, e_X12_readSpot_118, e_X12_readSpot_119, e_X12_readSpot_120, e_X12_readSpot_121, e_X12_readSpot_122, e_X12_readSpot_125, e_X12_readSpot_127, e_X12_readSpot_129, e_X12_readSpot_130, e_X12_readSpot_131, e_X12_readSpot_132, e_X12_readSpot_133, e_X12_readSpot_136, e_X12_readSpot_138, e_X12_readSpot_140, e_X12_readSpot_141, e_X12_readSpot_142, e_X12_readSpot_143, e_X12_readSpot_144, e_X12_readSpot_147, e_X12_readSpot_149, e_X12_readSpot_151, e_X12_readSpot_152, e_X12_readSpot_154, e_X12_readSpot_155, e_X12_readSpot_156, e_X12_readSpot_159, e_X12_readSpot_161, e_X12_readSpot_163, e_X12_readSpot_164, e_X12_readSpot_166, e_X12_readSpot_167, e_X12_readSpot_168, e_X12_readSpot_171, e_X12_readSpot_172, e_X12_readSpot_173, e_X12_readSpot_174, e_X12_readSpot_175, e_X12_readSpot_176, e_X12_readSpot_177, g_12_35_11, g_12_91_11, g0, q, a1, g1, r1, hf8, if_neg e2, b1]
    · have e2 : nI n < nI 7 := nI_lt (by omega) (by omega)
      rw [if_neg k2]
      obtain ⟨h2, S2, nm2, b1, b2, b3, b4, b5⟩ := md_must1 a2 a3 hok (nI 3)
      obtain ⟨h3, S3, nm3, f', d1, d2, d3, d4, d5, d6⟩ := md_tail b2 hT b3 hok hn hn7
      have e9 : spP c t (advP c t s, n, A 8) = (sp5 c t (advP c t s), (spP c t (advP c t s, n, A 8)).2.1, f') := by
        rw [d2]
        unfold spP
        dsimp only
        split
        · rfl
        · rfl
      rw [e9]
      refine ⟨h3, S3, nm3, ?_, d3, d4, kq_tr (kq_tr a4 b4) d5, xFr_tr (xFr_tr a5 b5) d6⟩
      rw [← d1]
      simp (disch := first | exact xnl_i _ | exact xnl_r _ | exact xnl_u _ | exact xnl_n | exact zI_2 | exact zI_24 | assumption | omega | (simp only [xset_len]; omega)) only [↓reduceIte, xbd_s, xpv_n, xpv_s, e_X12_readSpot_0, e_X12_readSpot_1, e_X12_readSpot_2, e_X12_readSpot_5, c_X12_readSpot_106_11_1, c_X12_readSpot_97_11_0, c_X12_readSpot_101_11_0, c_X12_readSpot_120_11_0, c_X12_readSpot_124_11_0, c_X12_readSpot_128_11_0, e_X12_readSpot_8, e_X12_readSpot_9, e_X12_readSpot_12, e_X12_readSpot_13, e_X12_readSpot_14, e_X12_readSpot_17, e_X12_readSpot_18, e_X12_readSpot_19, e_X12_readSpot_21, e_X12_readSpot_24, e_X12_readSpot_25, e_X12_readSpot_28, e_X12_readSpot_29, e_X12_readSpot_30, e_X12_readSpot_34, e_X12_readSpot_37, e_X12_readSpot_38, e_X12_readSpot_41, e_X12_readSpot_42, e_X12_readSpot_43, e_X12_readSpot_44, e_X12_readSpot_46, e_X12_readSpot_49, e_X12_readSpot_50, e_X12_readSpot_53, e_X12_readSpot_54, e_X12_readSpot_55, e_X12_readSpot_58, e_X12_readSpot_59, e_X12_readSpot_62, e_X12_readSpot_63, e_X12_readSpot_64, e_X12_readSpot_65, e_X12_readSpot_67, e_X12_readSpot_70, e_X12_readSpot_71, e_X12_readSpot_72, e_X12_readSpot_73, e_X12_readSpot_75, e_X12_readSpot_77, e_X12_readSpot_80, e_X12_readSpot_81, e_X12_readSpot_82, e_X12_readSpot_83, e_X12_readSpot_85, e_X12_readSpot_87, e_X12_readSpot_90, e_X12_readSpot_92, e_X12_readSpot_93, e_X12_readSpot_96, e_X12_readSpot_97, e_X12_readSpot_100, e_X12_readSpot_103, e_X12_readSpot_104, e_X12_readSpot_107, e_X12_readSpot_108, e_X12_readSpot_109, e_X12_readSpot_111, e_X12_readSpot_112, e_X12_readSpot_115, e_X12_readSpot_116, e_X12_readSpot_118, e_X12_readSpot_119, e_X12_readSpot_120, e_X12_readSpot_121, e_X12_readSpot_122, e_X12_readSpot_125, e_X12_readSpot_127, e_X12_readSpot_129, e_X12_readSpot_130, e_X12_readSpot_131, e_X12_readSpot_132, e_X12_readSpot_133, e_X12_readSpot_136, e_X12_readSpot_138, e_X12_readSpot_140, e_X12_readSpot_141, e_X12_readSpot_142, e_X12_readSpot_143, e_X12_readSpot_144, e_X12_readSpot_147, e_X12_readSpot_149, e_X12_readSpot_151, e_X12_readSpot_152, e_X12_readSpot_154, e_X12_readSpot_155, e_X12_readSpot_156, e_X12_readSpot_159, e_X12_readSpot_161, e_X12_readSpot_163, e_X12_readSpot_164, e_X12_readSpot_166, e_X12_readSpot_167, e_X12_readSpot_168, e_X12_readSpot_171, e_X12_readSpot_172, e_X12_readSpot_173, e_X12_readSpot_174, e_X12_readSpot_175, e_X12_readSpot_176, e_X12_readSpot_177, g_12_35_11, g_12_91_11, g0, q, a1, g1, r1, hf8, if_pos e2, b1]
  · rw [if_neg k1] at q ⊢
    obtain ⟨h1, S1, nm1, a1, a2, a3, a4, a5⟩ := md_must0 hM hP hok 1
    have g1 := a2.1
    have r1 := a2.2.2.2.2.2.2.2.2.2.1
    have ok2 : pOk c t (failP 1 s) := failP_ok hok (by omega)
    have nf : ¬ pFl (failP 1 s) = 0 := failP_nf (by omega)
    have fin : ∃ z, xR X m_X12_readSpot 0 [.ref 169, xU, xU, xU, xU, xU] [] h = xR X m_X12_readSpot 30 [.ref 169, xU, xU, xU, xU, xU] [.int (nI 3), .int z, .ref 169] h1 := by
      by_cases g : n < 7
      · have e2 : nI n < nI 7 := nI_lt (by omega) (by omega)
        exact ⟨nI 1, by simp (disch := first | exact xnl_i _ | exact xnl_r _ | exact xnl_u _ | exact xnl_n | exact zI_2 | exact zI_24 | assumption | omega | (simp only [xset_len]; omega)) only [↓reduceIte, xbd_s, xpv_n, xpv_s, e_X12_readSpot_0, e_X12_readSpot_1, e_X12_readSpot_2, e_X12_readSpot_5, c_X12_readSpot_106_11_1, c_X12_readSpot_97_11_0, c_X12_readSpot_101_11_0, c_X12_readSpot_120_11_0, c_X12_readSpot_124_11_0, c_X12_readSpot_128_11_0, e_X12_readSpot_8, e_X12_readSpot_9, e_X12_readSpot_12, e_X12_readSpot_13, e_X12_readSpot_14, e_X12_readSpot_17, e_X12_readSpot_18, e_X12_readSpot_19, e_X12_readSpot_21, e_X12_readSpot_24, e_X12_readSpot_25, e_X12_readSpot_28, e_X12_readSpot_29, e_X12_readSpot_33, e_X12_readSpot_34, e_X12_readSpot_37, e_X12_readSpot_38, e_X12_readSpot_41, e_X12_readSpot_42, e_X12_readSpot_43, e_X12_readSpot_44, e_X12_readSpot_46, e_X12_readSpot_49, e_X12_readSpot_50, e_X12_readSpot_53, e_X12_readSpot_54, e_X12_readSpot_55, e_X12_readSpot_58, e_X12_readSpot_59, e_X12_readSpot_62, e_X12_readSpot_63, e_X12_readSpot_64, e_X12_readSpot_65, e_X12_readSpot_67, e_X12_readSpot_70, e_X12_readSpot_71, e_X12_readSpot_72, e_X12_readSpot_73, e_X12_readSpot_75, e_X12_readSpot_77, e_X12_readSpot_80, e_X12_readSpot_81, e_X12_readSpot_82, e_X12_readSpot_83, e_X12_readSpot_85, e_X12_readSpot_87, e_X12_readSpot_90, e_X12_readSpot_92, e_X12_readSpot_93, e_X12_readSpot_96, e_X12_readSpot_97, e_X12_readSpot_100, e_X12_readSpot_103, e_X12_readSpot_104, e_X12_readSpot_107, e_X12_readSpot_108, e_X12_readSpot_109, e_X12_readSpot_111, e_X12_readSpot_112, e_X12_readSpot_115, e_X12_readSpot_116, e_X12_readSpot_118, e_X12_readSpot_119, e_X12_readSpot_120, e_X12_readSpot_121, e_X12_readSpot_122, e_X12_readSpot_125, e_X12_readSpot_127, e_X12_readSpot_129, e_X12_readSpot_130, e_X12_readSpot_131, e_X12_readSpot_132, e_X12_readSpot_133, e_X12_readSpot_136, e_X12_readSpot_138, e_X12_readSpot_140, e_X12_readSpot_141, e_X12_readSpot_142, e_X12_readSpot_143, e_X12_readSpot_144, e_X12_readSpot_147, e_X12_readSpot_149, e_X12_readSpot_151, e_X12_readSpot_152, e_X12_readSpot_154, e_X12_readSpot_155, e_X12_readSpot_156, e_X12_readSpot_159, e_X12_readSpot_161, e_X12_readSpot_163, e_X12_readSpot_164, e_X12_readSpot_166, e_X12_readSpot_167, e_X12_readSpot_168, e_X12_readSpot_171, e_X12_readSpot_172, e_X12_readSpot_173, e_X12_readSpot_174, e_X12_readSpot_175, e_X12_readSpot_176, e_X12_readSpot_177, g_12_35_11, g_12_91_11, g0, q, a1, g1, r1, hf8, if_pos e2]⟩
      · have e2 : ¬ nI n < nI 7 := nI_nlt (by omega) (by omega)
        exact ⟨nI 0, by simp (disch := first | exact xnl_i _ | exact xnl_r _ | exact xnl_u _ | exact xnl_n | exact zI_2 | exact zI_24 | assumption | omega | (simp only [xset_len]; omega)) only [↓reduceIte, xbd_s, xpv_n, xpv_s, e_X12_readSpot_0, e_X12_readSpot_1, e_X12_readSpot_2, e_X12_readSpot_5, c_X12_readSpot_106_11_1, c_X12_readSpot_97_11_0, c_X12_readSpot_101_11_0, c_X12_readSpot_120_11_0, c_X12_readSpot_124_11_0, c_X12_readSpot_128_11_0, e_X12_readSpot_8, e_X12_readSpot_9, e_X12_readSpot_12, e_X12_readSpot_13, e_X12_readSpot_14, e_X12_readSpot_17, e_X12_readSpot_18, e_X12_readSpot_19, e_X12_readSpot_21, e_X12_readSpot_24, e_X12_readSpot_25, e_X12_readSpot_28, e_X12_readSpot_29, e_X12_readSpot_33, e_X12_readSpot_34, e_X12_readSpot_37, e_X12_readSpot_38, e_X12_readSpot_41, e_X12_readSpot_42, e_X12_readSpot_43, e_X12_readSpot_44, e_X12_readSpot_46, e_X12_readSpot_49, e_X12_readSpot_50, e_X12_readSpot_53, e_X12_readSpot_54, e_X12_readSpot_55, e_X12_readSpot_58, e_X12_readSpot_59, e_X12_readSpot_62, e_X12_readSpot_63, e_X12_readSpot_64, e_X12_readSpot_65, e_X12_readSpot_67, e_X12_readSpot_70, e_X12_readSpot_71, e_X12_readSpot_72, e_X12_readSpot_73, e_X12_readSpot_75, e_X12_readSpot_77, e_X12_readSpot_80, e_X12_readSpot_81, e_X12_readSpot_82, e_X12_readSpot_83, e_X12_readSpot_85, e_X12_readSpot_87, e_X12_readSpot_90, e_X12_readSpot_92, e_X12_readSpot_93, e_X12_readSpot_96, e_X12_readSpot_97, e_X12_readSpot_100, e_X12_readSpot_103, e_X12_readSpot_104, e_X12_readSpot_107, e_X12_readSpot_108, e_X12_readSpot_109, e_X12_readSpot_111, e_X12_readSpot_112, e_X12_readSpot_115, e_X12_readSpot_116, e_X12_readSpot_118, e_X12_readSpot_119, e_X12_readSpot_120, e_X12_readSpot_121, e_X12_readSpot_122, e_X12_readSpot_125, e_X12_readSpot_127, e_X12_readSpot_129, e_X12_readSpot_130, e_X12_readSpot_131, e_X12_readSpot_132, e_X12_readSpot_133, e_X12_readSpot_136, e_X12_readSpot_138, e_X12_readSpot_140, e_X12_readSpot_141, e_X12_readSpot_142, e_X12_readSpot_143, e_X12_readSpot_144, e_X12_readSpot_147, e_X12_readSpot_149, e_X12_readSpot_151, e_X12_readSpot_152, e_X12_readSpot_154, e_X12_readSpot_155, e_X12_readSpot_156, e_X12_readSpot_159, e_X12_readSpot_161, e_X12_readSpot_163, e_X12_readSpot_164, e_X12_readSpot_166, e_X12_readSpot_167, e_X12_readSpot_168, e_X12_readSpot_171, e_X12_readSpot_172, e_X12_readSpot_173, e_X12_readSpot_174, e_X12_readSpot_175, e_X12_readSpot_176, e_X12_readSpot_177, g_12_35_11, g_12_91_11, g0, q, a1, g1, r1, hf8, if_neg e2]⟩
    obtain ⟨z, hz⟩ := fin
    obtain ⟨h2, S2, nm2, b1, b2, b3, b4, b5⟩ := md_mustN a2 a3 ok2 nf z (nI 3)
    obtain ⟨h3, S3, nm3, f', d1, d2, d3, d4, d5, d6⟩ := md_tail b2 hT b3 ok2 hn hn7
    rw [advP_n nf, sp5_n nf, if_neg nf] at d2
    rw [advP_n nf, sp5_n nf] at d4
    rw [d2] at d3
    refine ⟨h3, S3, nm3, ?_, d3, d4, kq_tr (kq_tr a4 b4) d5, xFr_tr (xFr_tr a5 b5) d6⟩
    refine hz.trans ?_
    rw [← d1]
    simp (disch := first | exact xnl_i _ | exact xnl_r _ | exact xnl_u _ | exact xnl_n | exact zI_2 | exact zI_24 | assumption | omega | (simp only [xset_len]; omega)) only [↓reduceIte, xbd_s, xpv_n, xpv_s, e_X12_readSpot_0, e_X12_readSpot_1, e_X12_readSpot_2, e_X12_readSpot_5, c_X12_readSpot_106_11_1, c_X12_readSpot_97_11_0, c_X12_readSpot_101_11_0, c_X12_readSpot_120_11_0, c_X12_readSpot_124_11_0, c_X12_readSpot_128_11_0, e_X12_readSpot_8, e_X12_readSpot_9, e_X12_readSpot_12, e_X12_readSpot_13, e_X12_readSpot_14, e_X12_readSpot_17, e_X12_readSpot_18, e_X12_readSpot_19, e_X12_readSpot_21, e_X12_readSpot_24, e_X12_readSpot_25, e_X12_readSpot_28, e_X12_readSpot_29, e_X12_readSpot_30, e_X12_readSpot_34, e_X12_readSpot_37, e_X12_readSpot_38, e_X12_readSpot_41, e_X12_readSpot_42, e_X12_readSpot_43, e_X12_readSpot_44, e_X12_readSpot_46, e_X12_readSpot_49, e_X12_readSpot_50, e_X12_readSpot_53, e_X12_readSpot_54, e_X12_readSpot_55, e_X12_readSpot_58, e_X12_readSpot_59, e_X12_readSpot_62, e_X12_readSpot_63, e_X12_readSpot_64, e_X12_readSpot_65, e_X12_readSpot_67, e_X12_readSpot_70, e_X12_readSpot_71, e_X12_readSpot_72, e_X12_readSpot_73, e_X12_readSpot_75, e_X12_readSpot_77, e_X12_readSpot_80, e_X12_readSpot_81, e_X12_readSpot_82, e_X12_readSpot_83, e_X12_readSpot_85, e_X12_readSpot_87, e_X12_readSpot_90, e_X12_readSpot_92, e_X12_readSpot_93, e_X12_readSpot_96, e_X12_readSpot_97, e_X12_readSpot_100, e_X12_readSpot_103, e_X12_readSpot_104, e_X12_readSpot_107, e_X12_readSpot_108, e_X12_readSpot_109, e_X12_readSpot_111, e_X12_readSpot_112, e_X12_readSpot_115, e_X12_readSpot_116, e_X12_readSpot_118, e_X12_readSpot_119, e_X12_readSpot_120, e_X12_readSpot_121, e_X12_readSpot_122, e_X12_readSpot_125, e_X12_readSpot_127, e_X12_readSpot_129, e_X12_readSpot_130, e_X12_readSpot_131, e_X12_readSpot_132, e_X12_readSpot_133, e_X12_readSpot_136, e_X12_readSpot_138, e_X12_readSpot_140, e_X12_readSpot_141, e_X12_readSpot_142, e_X12_readSpot_143, e_X12_readSpot_144, e_X12_readSpot_147, e_X12_readSpot_149, e_X12_readSpot_151, e_X12_readSpot_152, e_X12_readSpot_154, e_X12_readSpot_155, e_X12_readSpot_156, e_X12_readSpot_159, e_X12_readSpot_161, e_X12_readSpot_163, e_X12_readSpot_164, e_X12_readSpot_166, e_X12_readSpot_167, e_X12_readSpot_168, e_X12_readSpot_171, e_X12_readSpot_172, e_X12_readSpot_173, e_X12_readSpot_174, e_X12_readSpot_175, e_X12_readSpot_176, e_X12_readSpot_177, g_12_35_11, g_12_91_11, g1, b1]
end XMY
