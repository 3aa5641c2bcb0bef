/-! READING, the reference: a reader; library() -/
section XMX
variable {X : xS} {h : xH} {S : Nat → Int32} {nm : Int64} {A : Nat → Nat → Int32} {t : Nat} {c : Nat → Nat} {s : pT}
theorem md_numberN (hM : xMB X h S nm A) (hT : mOk c (A 7) t) (hP : mPS S nm c t s) (hok : pOk c t s) (hf : ¬ pFl s = 0) (lo hi : Int32) : ∃ v, mRun X A c t S h m_X12_readNumber [.ref 169, .int lo, .int hi, .int (-1000000), xU] (some (.int v)) s := by
  have h4 := hok.2.2.2.2.1
  have hc := hM.1
  obtain ⟨p2, p3, p4, p5, p7, p6, pn⟩ := id hP
  rw [p5] at hc
  have fin1 : ∃ z, xR X m_X12_readNumber 0 [.ref 169, .int lo, .int hi, .int (-1000000), xU] [] h = xR X m_X12_readNumber 15 [.ref 169, .int lo, .int hi, .int (-1000000), xU] [.int (nI 1), .int z, .ref 169] h := by
    by_cases k1 : s.1 = 2
    · have e1 : nI s.1 = nI 2 := by rw [k1]
      exact ⟨nI 1, by simp (disch := first | exact xnl_i _ | exact xnl_r _ | exact xnl_u _ | exact xnl_n | exact zI_2 | exact zI_24 | assumption | omega | (simp only [xset_len]; omega)) only [↓reduceIte, xbd_s, xpv_n, xpv_s, e_X12_readNumber_0, e_X12_readNumber_1, e_X12_readNumber_2, e_X12_readNumber_5, e_X12_readNumber_6, e_X12_readNumber_9, e_X12_readNumber_10, e_X12_readNumber_13, e_X12_readNumber_14, c_X12_readNumber_97_11_0, c_X12_readNumber_101_11_0, e_X12_readNumber_18, e_X12_readNumber_19, e_X12_readNumber_20, e_X12_readNumber_23, e_X12_readNumber_24, e_X12_readNumber_25, e_X12_readNumber_28, e_X12_readNumber_31, e_X12_readNumber_32, e_X12_readNumber_35, e_X12_readNumber_36, e_X12_readNumber_39, e_X12_readNumber_40, e_X12_readNumber_43, e_X12_readNumber_44, e_X12_readNumber_45, e_X12_readNumber_48, e_X12_readNumber_49, e_X12_readNumber_52, e_X12_readNumber_54, e_X12_readNumber_55, e_X12_readNumber_58, e_X12_readNumber_60, g_12_81_11, g_12_88_11, hc, if_pos e1]⟩
    · have e1 : ¬ nI s.1 = nI 2 := by rw [nI_inj (by omega) (by omega)]; exact k1
      exact ⟨nI 0, by simp (disch := first | exact xnl_i _ | exact xnl_r _ | exact xnl_u _ | exact xnl_n | exact zI_2 | exact zI_24 | assumption | omega | (simp only [xset_len]; omega)) only [↓reduceIte, xbd_s, xpv_n, xpv_s, e_X12_readNumber_0, e_X12_readNumber_1, e_X12_readNumber_2, e_X12_readNumber_5, e_X12_readNumber_6, e_X12_readNumber_9, e_X12_readNumber_10, e_X12_readNumber_13, e_X12_readNumber_14, c_X12_readNumber_97_11_0, c_X12_readNumber_101_11_0, e_X12_readNumber_18, e_X12_readNumber_19, e_X12_readNumber_20, e_X12_readNumber_23, e_X12_readNumber_24, e_X12_readNumber_25, e_X12_readNumber_28, e_X12_readNumber_31, e_X12_readNumber_32, e_X12_readNumber_35, e_X12_readNumber_36, e_X12_readNumber_39, e_X12_readNumber_40, e_X12_readNumber_43, e_X12_readNumber_44, e_X12_readNumber_45, e_X12_readNumber_48, e_X12_readNumber_49, e_X12_readNumber_52, e_X12_readNumber_54, e_X12_readNumber_55, e_X12_readNumber_58, e_X12_readNumber_60, g_12_81_11, g_12_88_11, hc, if_neg e1]⟩
  obtain ⟨z1, hz1⟩ := fin1
  obtain ⟨h1, S1, nm1, a1, a2, a3, a4, a5⟩ := md_mustN hM hP hok hf z1 (nI 1)
  have c1 := a2.1
  have fin : ∃ z, xR X m_X12_readNumber 15 [.ref 169, .int lo, .int hi, .int (-1000000), xU] [.int (nI 1), .int z1, .ref 169] h = xR X m_X12_readNumber 45 [.ref 169, .int lo, .int hi, .int (-1000000), xU] [.int (nI 2), .int z, .ref 169] h1 := by
    by_cases g1 : S1 6 < lo ∨ hi < S1 6
    · have q := m_inF (X := X) (h := h1) g1
      exact ⟨nI 0, by simp (disch := first | exact xnl_i _ | exact xnl_r _ | exact xnl_u _ | exact xnl_n | exact zI_2 | exact zI_24 | assumption | omega | (simp only [xset_len]; omega)) only [↓reduceIte, xbd_s, xpv_n, xpv_s, e_X12_readNumber_0, e_X12_readNumber_1, e_X12_readNumber_2, e_X12_readNumber_5, e_X12_readNumber_6, e_X12_readNumber_9, e_X12_readNumber_10, e_X12_readNumber_13, e_X12_readNumber_14, e_X12_readNumber_15, c_X12_readNumber_97_11_0, c_X12_readNumber_101_11_0, e_X12_readNumber_18, e_X12_readNumber_19, e_X12_readNumber_20, e_X12_readNumber_23, e_X12_readNumber_24, e_X12_readNumber_25, e_X12_readNumber_28, e_X12_readNumber_31, e_X12_readNumber_32, e_X12_readNumber_35, e_X12_readNumber_36, e_X12_readNumber_39, e_X12_readNumber_40, e_X12_readNumber_43, e_X12_readNumber_44, e_X12_readNumber_48, e_X12_readNumber_49, e_X12_readNumber_52, e_X12_readNumber_54, e_X12_readNumber_55, e_X12_readNumber_58, e_X12_readNumber_60, g_12_81_11, g_12_88_11, hc, a1, c1, q]⟩
    · have q := m_inT (X := X) (h := h1) (fun e => g1 (Or.inl e)) (fun e => g1 (Or.inr e))
      by_cases g2 : S1 6 = -1000000
      · exact ⟨nI 0, by simp (disch := first | exact xnl_i _ | exact xnl_r _ | exact xnl_u _ | exact xnl_n | exact zI_2 | exact zI_24 | assumption | omega | (simp only [xset_len]; omega)) only [↓reduceIte, xbd_s, xpv_n, xpv_s, e_X12_readNumber_0, e_X12_readNumber_1, e_X12_readNumber_2, e_X12_readNumber_5, e_X12_readNumber_6, e_X12_readNumber_9, e_X12_readNumber_10, e_X12_readNumber_13, e_X12_readNumber_14, e_X12_readNumber_15, c_X12_readNumber_97_11_0, c_X12_readNumber_101_11_0, e_X12_readNumber_18, e_X12_readNumber_19, e_X12_readNumber_20, e_X12_readNumber_23, e_X12_readNumber_24, e_X12_readNumber_25, e_X12_readNumber_28, e_X12_readNumber_31, e_X12_readNumber_32, e_X12_readNumber_35, e_X12_readNumber_36, e_X12_readNumber_39, e_X12_readNumber_40, e_X12_readNumber_43, e_X12_readNumber_44, e_X12_readNumber_48, e_X12_readNumber_49, e_X12_readNumber_52, e_X12_readNumber_54, e_X12_readNumber_55, e_X12_readNumber_58, e_X12_readNumber_60, g_12_81_11, g_12_88_11, hc, a1, c1, q, ne10, if_pos g2]⟩
      · exact ⟨nI 1, by simp (disch := first | exact xnl_i _ | exact xnl_r _ | exact xnl_u _ | exact xnl_n | exact zI_2 | exact zI_24 | assumption | omega | (simp only [xset_len]; omega)) only [↓reduceIte, xbd_s, xpv_n, xpv_s, e_X12_readNumber_0, e_X12_readNumber_1, e_X12_readNumber_2, e_X12_readNumber_5, e_X12_readNumber_6, e_X12_readNumber_9, e_X12_readNumber_10, e_X12_readNumber_13, e_X12_readNumber_14, e_X12_readNumber_15, c_X12_readNumber_97_11_0, c_X12_readNumber_101_11_0, e_X12_readNumber_18, e_X12_readNumber_19, e_X12_readNumber_20, e_X12_readNumber_23, e_X12_readNumber_24, e_X12_readNumber_25, e_X12_readNumber_28, e_X12_readNumber_31, e_X12_readNumber_32, e_X12_readNumber_35, e_X12_readNumber_36, e_X12_readNumber_39, e_X12_readNumber_40, e_X12_readNumber_43, e_X12_readNumber_44, e_X12_readNumber_48, e_X12_readNumber_49, e_X12_readNumber_52, e_X12_readNumber_54, e_X12_readNumber_55, e_X12_readNumber_58, e_X12_readNumber_60, g_12_81_11, g_12_88_11, hc, a1, c1, q, ne10, if_neg g2]⟩
  obtain ⟨z, hz⟩ := fin
  obtain ⟨h2, S2, nm2, b1, b2, b3, b4, b5⟩ := md_mustN a2 a3 hok hf z (nI 2)
  have c2 := b2.1
  obtain ⟨h3, S3, nm3, d1, d2, d3, d4, d5⟩ := md_goesOn b2 hT b3 hok
  rw [advP_n hf] at d3
  refine ⟨S2 6, ⟨h3, S3, nm3, ?_, d2, d3, kq_tr (kq_tr a4 b4) d4, xFr_tr (xFr_tr a5 b5) d5⟩⟩
  refine (hz1.trans hz).trans ?_
  simp (disch := first | exact xnl_i _ | exact xnl_r _ | exact xnl_u _ | exact xnl_n | exact zI_2 | exact zI_24 | assumption | omega | (simp only [xset_len]; omega)) only [↓reduceIte, xbd_s, xpv_n, xpv_s, e_X12_readNumber_0, e_X12_readNumber_1, e_X12_readNumber_2, e_X12_readNumber_5, e_X12_readNumber_6, e_X12_readNumber_9, e_X12_readNumber_10, e_X12_readNumber_13, e_X12_readNumber_14, e_X12_readNumber_15, c_X12_readNumber_97_11_0, c_X12_readNumber_101_11_0, e_X12_readNumber_18, e_X12_readNumber_19, e_X12_readNumber_20, e_X12_readNumber_23, e_X12_readNumber_24, e_X12_readNumber_25, e_X12_readNumber_28, e_X12_readNumber_31, e_X12_readNumber_32, e_X12_readNumber_35, e_X12_readNumber_36, e_X12_readNumber_39, e_X12_readNumber_40, e_X12_readNumber_43, e_X12_readNumber_44, e_X12_readNumber_45, e_X12_readNumber_48, e_X12_readNumber_49, e_X12_readNumber_52, e_X12_readNumber_54, e_X12_readNumber_55, e_X12_readNumber_58, e_X12_readNumber_60, g_12_81_11, g_12_88_11, c1, b1, c2, d1]
theorem md_rtail (hM : xMB X h S nm A) (hT : mOk c (A 7) t) (hP : mPS S nm c t s) (hok : pOk c t s) {n : Nat} (hn : A 8 2 = nI n) (hn4 : n ≤ 4) : ∃ h' S' nm' f', xR X m_X12_readReader 20 [.ref 169, xU, xU] [] h = some (none, h') ∧ f' = (if pFl (rd3 c t (advP c t s)) = 0 then dRd (A 8) n (numV c (advP c t s)) (numV c (rd1 c t (advP c t s))) else A 8) ∧ xMB X h' S' nm' (setA A 8 f') ∧ mPS S' nm' c t (rd3 c t (advP c t s)) ∧ kq S S' ∧ xFr X inM h h' := by
  have o0 : pOk c t (advP c t s) := advP_ok hok
  have o1 : pOk c t (rd1 c t (advP c t s)) := numP_ok o0
  have o2 : pOk c t (rd2 c t (advP c t s)) := numP_ok o1
  have o3 : pOk c t (rd3 c t (advP c t s)) := endP_ok o2
  have hv := numV_lt o0
  have g0 := hM.1
  obtain ⟨h1, S1, nm1, a1, a2, a3, a4, a5⟩ := md_goesOn hM hT hP hok
  have g1 := a2.1
  obtain ⟨v1, ⟨h4, S4, nm4, c1, c2, c3, c4, c5⟩, w1⟩ := md_number a2 hT a3 o0 (lo := 0) (hi := 23) (by omega) (by omega)
  have g4 := c2.1
  have c3' : mPS S4 nm4 c t (rd1 c t (advP c t s)) := c3
  have two : ∃ v2, mRun X A c t S4 h4 m_X12_readNumber [.ref 169, .int v1, .int (nI 23), .int (-1000000), xU] (some (.int v2)) (rd2 c t (advP c t s)) ∧ (pFl (rd2 c t (advP c t s)) = 0 → v2 = nI (numV c (rd1 c t (advP c t s)))) := by
    by_cases k : pFl (rd1 c t (advP c t s)) = 0
    · have ev : v1 = nI (numV c (advP c t s)) := w1 k
      rw [ev]
      exact md_number c2 hT c3' o1 (lo := numV c (advP c t s)) (hi := 23) hv (by omega)
    · obtain ⟨v2, hv2⟩ := md_numberN c2 hT c3' o1 k v1 (nI 23)
      have e : rd2 c t (advP c t s) = rd1 c t (advP c t s) := numP_n k
      rw [e]
      exact ⟨v2, hv2, fun e2 => absurd e2 k⟩
  obtain ⟨v2, ⟨h5, S5, nm5, d1, d2, d3, d4, d5⟩, w2⟩ := two
  have g5 := d2.1
  obtain ⟨h7, S7, nm7, f1, f2, f3, f4, f5⟩ := md_stop (s := rd2 c t (advP c t s)) d2 hT d3 o2
  have g7 := f2.1
  have s7 : S7 7 = nI (rd3 c t (advP c t s)).2.2.2 := f3.2.2.2.2.1
  rw [s7] at g7
  have KQ : kq S S7 := kq_tr (kq_tr (kq_tr a4 c4) d4) f4
  have FR : xFr X inM h h7 := xFr_tr (xFr_tr (xFr_tr a5 c5) d5) f5
  obtain ⟨z1, z2⟩ := nI_fl o3.2.2.2.2.2
  have P7 : xR X m_X12_readReader 20 [.ref 169, xU, xU] [] h = xR X m_X12_readReader 48 [.ref 169, .int v1, .int v2] [] h7 := by
    simp (disch := first | exact xnl_i _ | exact xnl_r _ | exact xnl_u _ | exact xnl_n | exact zI_2 | exact zI_24 | assumption | omega | (simp only [xset_len]; omega)) only [↓reduceIte, xbd_s, xpv_n, xpv_s, e_X12_readReader_0, e_X12_readReader_1, e_X12_readReader_2, e_X12_readReader_5, e_X12_readReader_6, e_X12_readReader_7, e_X12_readReader_8, e_X12_readReader_11, e_X12_readReader_12, e_X12_readReader_15, e_X12_readReader_16, e_X12_readReader_17, c_X12_readReader_97_11_0, c_X12_readReader_101_11_0, c_X12_readReader_124_11_0, c_X12_readReader_128_11_0, e_X12_readReader_20, e_X12_readReader_21, e_X12_readReader_24, e_X12_readReader_25, e_X12_readReader_26, e_X12_readReader_28, e_X12_readReader_30, e_X12_readReader_33, e_X12_readReader_34, e_X12_readReader_35, e_X12_readReader_36, e_X12_readReader_38, e_X12_readReader_40, e_X12_readReader_43, e_X12_readReader_44, e_X12_readReader_45, e_X12_readReader_49, e_X12_readReader_52, e_X12_readReader_55, e_X12_readReader_56, e_X12_readReader_59, e_X12_readReader_61, e_X12_readReader_62, e_X12_readReader_65, e_X12_readReader_66, e_X12_readReader_67, e_X12_readReader_68, e_X12_readReader_69, e_X12_readReader_70, e_X12_readReader_71, e_X12_readReader_74, e_X12_readReader_76, e_X12_readReader_77, e_X12_readReader_80, e_X12_readReader_81, e_X12_readReader_82, e_X12_readReader_83, e_X12_readReader_84, e_X12_readReader_85, e_X12_readReader_86, e_X12_readReader_89, e_X12_readReader_90, e_X12_readReader_91, e_X12_readReader_92, e_X12_readReader_93, e_X12_readReader_94, e_X12_readReader_95, g_12_35_11, g_12_91_11, g0, a1, g1, c1, g4, d1, g5, f1]
  by_cases k0 : pFl (rd3 c t (advP c t s)) = 0
  · have z3 := z1 k0
    have n2 := numP_0 (endP_0 k0)
    have ev1 : v1 = nI (numV c (advP c t s)) := w1 n2.1
    have ev2 : v2 = nI (numV c (rd1 c t (advP c t s))) := w2 (endP_0 k0)
    rw [if_pos k0]
    rw [ev1, ev2] at P7
    have f80 := f2.2.2.2.2.2.2.2.2.2.1
    have N1 := xMB_8 (f := upd (A 8) (17 + n) (nI (numV c (advP c t s)))) f2
    have N2 := xMB_8 (f := upd (upd (A 8) (17 + n) (nI (numV c (advP c t s)))) (21 + n) (nI (numV c (rd1 c t (advP c t s))))) N1
    have N3 := xMB_8 (f := dRd (A 8) n (numV c (advP c t s)) (numV c (rd1 c t (advP c t s)))) N2
    rw [setA_setA] at N2
    rw [setA_setA, setA_setA] at N3
    have m1 := N1.1
    have m2 := N2.1
    rw [s7] at m1 m2
    have r1 := N1.2.2.2.2.2.2.2.2.2.1
    have r2 := N2.2.2.2.2.2.2.2.2.2.1
    rw [setA_eq] at r1 r2
    have l0 : ∀ K : Value → Option (Option Value × xH), xlK .iaload (some (.inr ((0, 54), .inl (A 8)))) (nI 2) K = K (.int (nI n)) := fun K => by
      rw [xl_i (by omega) (by omega), hn]
    have l1 : ∀ K : Value → Option (Option Value × xH), xlK .iaload (some (.inr ((0, 54), .inl (upd (A 8) (17 + n) (nI (numV c (advP c t s))))))) (nI 2) K = K (.int (nI n)) := fun K => by
      rw [xl_i (by omega) (by omega), upd_ne (by omega), hn]
    have l2 : ∀ K : Value → Option (Option Value × xH), xlK .iaload (some (.inr ((0, 54), .inl (upd (upd (A 8) (17 + n) (nI (numV c (advP c t s)))) (21 + n) (nI (numV c (rd1 c t (advP c t s)))))))) (nI 2) K = K (.int (nI n)) := fun K => by
      rw [xl_i (by omega) (by omega), upd_ne (by omega), upd_ne (by omega), hn]
    refine ⟨_, S7, nm7, _, ?_, rfl, N3, f3, KQ, xFr_tr (xFr_tr (xFr_tr FR (xFr_set (by omega) ⟨by omega, by omega⟩)) (xFr_set (by omega) ⟨by omega, by omega⟩)) (xFr_set (by omega) ⟨by omega, by omega⟩)⟩
    refine P7.trans ?_
    simp (disch := first | exact xnl_i _ | exact xnl_r _ | exact xnl_u _ | exact xnl_n | exact zI_2 | exact zI_24 | assumption | omega | (simp only [xset_len]; omega)) only [↓reduceIte, xbd_s, xpv_n, xpv_s, e_X12_readReader_0, e_X12_readReader_1, e_X12_readReader_2, e_X12_readReader_5, e_X12_readReader_6, e_X12_readReader_7, e_X12_readReader_8, e_X12_readReader_11, e_X12_readReader_12, e_X12_readReader_15, e_X12_readReader_16, e_X12_readReader_17, c_X12_readReader_97_11_0, c_X12_readReader_101_11_0, c_X12_readReader_124_11_0, c_X12_readReader_128_11_0, e_X12_readReader_20, e_X12_readReader_21, e_X12_readReader_24, e_X12_readReader_25, e_X12_readReader_26, e_X12_readReader_28, e_X12_readReader_30, e_X12_readReader_33, e_X12_readReader_34, e_X12_readReader_35, e_X12_readReader_36, e_X12_readReader_38, e_X12_readReader_40, e_X12_readReader_43, e_X12_readReader_44, e_X12_readReader_45, e_X12_readReader_48, e_X12_readReader_49, e_X12_readReader_52, e_X12_readReader_55, e_X12_readReader_56, e_X12_readReader_59, e_X12_readReader_61, e_X12_readReader_62, e_X12_readReader_65, e_X12_readReader_66, e_X12_readReader_67, e_X12_readReader_68, e_X12_readReader_69, e_X12_readReader_70, e_X12_readReader_71, e_X12_readReader_74, e_X12_readReader_76, e_X12_readReader_77, e_X12_readReader_80, e_X12_readReader_81, e_X12_readReader_82, e_X12_readReader_83, e_X12_readReader_84, e_X12_readReader_85, e_X12_readReader_86, e_X12_readReader_89, e_X12_readReader_90, e_X12_readReader_91, e_X12_readReader_92, e_X12_readReader_93, e_X12_readReader_94, e_X12_readReader_95, g_12_35_11, g_12_91_11, g7, if_pos z3, f80, l0, nI_add, xs_i, m1, r1, l1, m2, r2, l2, nI_inc]
    rfl
  · have z3 := z2 k0
    rw [if_neg k0]
    refine ⟨h7, S7, nm7, A 8, ?_, rfl, by rw [setA_id]; exact f2, f3, KQ, FR⟩
    refine P7.trans ?_
    simp (disch := first | exact xnl_i _ | exact xnl_r _ | exact xnl_u _ | exact xnl_n | exact zI_2 | exact zI_24 | assumption | omega | (simp only [xset_len]; omega)) only [↓reduceIte, xbd_s, xpv_n, xpv_s, e_X12_readReader_0, e_X12_readReader_1, e_X12_readReader_2, e_X12_readReader_5, e_X12_readReader_6, e_X12_readReader_7, e_X12_readReader_8, e_X12_readReader_11, e_X12_readReader_12, e_X12_readReader_15, e_X12_readReader_16, e_X12_readReader_17, c_X12_readReader_97_11_0, c_X12_readReader_101_11_0, c_X12_readReader_124_11_0, c_X12_readReader_128_11_0, e_X12_readReader_20, e_X12_readReader_21, e_X12_readReader_24, e_X12_readReader_25, e_X12_readReader_26, e_X12_readReader_28, e_X12_readReader_30, e_X12_readReader_33, e_X12_readReader_34, e_X12_readReader_35, e_X12_readReader_36, e_X12_readReader_38, e_X12_readReader_40, e_X12_readReader_43, e_X12_readReader_44, e_X12_readReader_45, e_X12_readReader_48, e_X12_readReader_49, e_X12_readReader_52, e_X12_readReader_55, e_X12_readReader_56, e_X12_readReader_59, e_X12_readReader_61, e_X12_readReader_62, e_X12_readReader_65, e_X12_readReader_66, e_X12_readReader_67, e_X12_readReader_68, e_X12_readReader_69, e_X12_readReader_70, e_X12_readReader_71, e_X12_readReader_74, e_X12_readReader_76, e_X12_readReader_77, e_X12_readReader_80, e_X12_readReader_81, e_X12_readReader_82, e_X12_readReader_83, e_X12_readReader_84, e_X12_readReader_85, e_X12_readReader_86, e_X12_readReader_89, e_X12_readReader_90, e_X12_readReader_91, e_X12_readReader_92, e_X12_readReader_93, e_X12_readReader_94, e_X12_readReader_95, g_12_35_11, g_12_91_11, g7, if_neg z3]
noncomputable def mrP (c : Nat → Nat) (t : Nat) (y : pD) : pD := if y.2.1 = 4 then (failP 3 y.1, y.2) else rdP1 c t (advP c t y.1, y.2)
theorem md_reader (hM : xMB X h S nm A) (hT : mOk c (A 7) t) (hP : mPS S nm c t s) (hok : pOk c t s) {n : Nat} (hn : A 8 2 = nI n) (hn4 : n ≤ 4) : ∃ h' S' nm', xR X m_X12_readReader 0 [.ref 169, xU, xU] [] h = some (none, h') ∧ xMB X h' S' nm' (setA A 8 (mrP c t (s, n, A 8)).2.2) ∧ mPS S' nm' c t (mrP c t (s, n, A 8)).1 ∧ kq S S' ∧ xFr X inM h h' := by
  have g0 := hM.1
  have r0 := hM.2.2.2.2.2.2.2.2.2.1
  unfold mrP
  dsimp only
  have hf8 : ∀ K : Value → Option (Option Value × xH), xlK .iaload (some (.inr ((0, 54), .inl (A 8)))) (nI 2) K = K (.int (nI n)) := fun K => by
    rw [xl_i (by omega) (by omega), hn]
  by_cases k2 : n = 4
  · have e2 : ¬ nI n < nI 4 := nI_nlt (by omega) (by omega)
    rw [if_pos k2]
    obtain ⟨h2, S2, nm2, b1, b2, b3, b4, b5⟩ := md_must0 hM hP hok 3
    have ok2 : pOk c t (failP 3 s) := failP_ok hok (by omega)
    have nf : ¬ pFl (failP 3 s) = 0 := failP_nf (by omega)
    obtain ⟨h3, S3, nm3, f', d1, d2, d3, d4, d5, d6⟩ := md_rtail b2 hT b3 ok2 hn hn4
    rw [advP_n nf, rd3_n nf, if_neg nf] at d2
    rw [advP_n nf, rd3_n nf] at d4
    rw [d2] at d3
    refine ⟨h3, S3, nm3, ?_, d3, d4, kq_tr b4 d5, xFr_tr b5 d6⟩
    rw [← d1]
    simp (disch := first | exact xnl_i _ | exact xnl_r _ | exact xnl_u _ | exact xnl_n | exact zI_2 | exact zI_24 | assumption | omega | (simp only [xset_len]; omega)) only [↓reduceIte, xbd_s, xpv_n, xpv_s, e_X12_readReader_0, e_X12_readReader_1, e_X12_readReader_2, e_X12_readReader_5, e_X12_readReader_6, e_X12_readReader_7, e_X12_readReader_8, e_X12_readReader_11, e_X12_readReader_12, e_X12_readReader_15, e_X12_readReader_16, e_X12_readReader_17, c_X12_readReader_97_11_0, c_X12_readReader_101_11_0, c_X12_readReader_124_11_0, c_X12_readReader_128_11_0, e_X12_readReader_21, e_X12_readReader_24, e_X12_readReader_25, e_X12_readReader_26, e_X12_readReader_28, e_X12_readReader_30, e_X12_readReader_33, e_X12_readReader_34, e_X12_readReader_35, e_X12_readReader_36, e_X12_readReader_38, e_X12_readReader_40, e_X12_readReader_43, e_X12_readReader_44, e_X12_readReader_45, e_X12_readReader_48, e_X12_readReader_49, e_X12_readReader_52, e_X12_readReader_55, e_X12_readReader_56, e_X12_readReader_59, e_X12_readReader_61, e_X12_readReader_62, e_X12_readReader_65, e_X12_readReader_66, e_X12_readReader_67, e_X12_readReader_68, e_X12_readReader_69, e_X12_readReader_70, e_X12_readReader_71, e_X12_readReader_74, e_X12_readReader_76, e_X12_readReader_77, e_X12_readReader_80, e_X12_readReader_81, e_X12_readReader_82, e_X12_readReader_83, e_X12_readReader_84, e_X12_readReader_85, e_X12_readReader_86, e_X12_readReader_89, e_X12_readReader_90, e_X12_readReader_91, e_X12_readReader_92, e_X12_readReader_93, e_X12_readReader_94, e_X12_readReader_95, g_12_35_11, g_12_91_11, g0, r0, hf8, if_neg e2, b1]
  · have e2 : nI n < nI 4 := nI_lt (by omega) (by omega)
    rw [if_neg k2]
    obtain ⟨h2, S2, nm2, b1, b2, b3, b4, b5⟩ := md_must1 hM hP hok (nI 3)
    obtain ⟨h3, S3, nm3, f', d1, d2, d3, d4, d5, d6⟩ := md_rtail b2 hT b3 hok hn hn4
    have e9 : rdP1 c t (advP c t s, n, A 8) = (rd3 c t (advP c t s), (rdP1 c t (advP c t s, n, A 8)).2.1, f') := by
      rw [d2]
      unfold rdP1
      dsimp only
      split
      · rfl
      · rfl
    rw [e9]
    refine ⟨h3, S3, nm3, ?_, d3, d4, kq_tr b4 d5, xFr_tr b5 d6⟩
    rw [← d1]
    simp (disch := first | exact xnl_i _ | exact xnl_r _ | exact xnl_u _ | exact xnl_n | exact zI_2 | exact zI_24 | assumption | omega | (simp only [xset_len]; omega)) only [↓reduceIte, xbd_s, xpv_n, xpv_s, e_X12_readReader_0, e_X12_readReader_1, e_X12_readReader_2, e_X12_readReader_5, e_X12_readReader_6, e_X12_readReader_7, e_X12_readReader_8, e_X12_readReader_11, e_X12_readReader_12, e_X12_readReader_15, e_X12_readReader_16, e_X12_readReader_17, c_X12_readReader_97_11_0, c_X12_readReader_101_11_0, c_X12_readReader_124_11_0, c_X12_readReader_128_11_0, e_X12_readReader_21, e_X12_readReader_24, e_X12_readReader_25, e_X12_readReader_26, e_X12_readReader_28, e_X12_readReader_30, e_X12_readReader_33, e_X12_readReader_34, e_X12_readReader_35, e_X12_readReader_36, e_X12_readReader_38, e_X12_readReader_40, e_X12_readReader_43, e_X12_readReader_44, e_X12_readReader_45, e_X12_readReader_48, e_X12_readReader_49, e_X12_readReader_52, e_X12_readReader_55, e_X12_readReader_56, e_X12_readReader_59, e_X12_readReader_61, e_X12_readReader_62, e_X12_readReader_65, e_X12_readReader_66, e_X12_readReader_67, e_X12_readReader_68, e_X12_readReader_69, e_X12_readReader_70, e_X12_readReader_71, e_X12_readReader_74, e_X12_readReader_76, e_X12_readReader_77, e_X12_readReader_80, e_X12_readReader_81, e_X12_readReader_82, e_X12_readReader_83, e_X12_readReader_84, e_X12_readReader_85, e_X12_readReader_86, e_X12_readReader_89, e_X12_readReader_90, e_X12_readReader_91, e_X12_readReader_92, e_X12_readReader_93, e_X12_readReader_94, e_X12_readReader_95, g_12_35_11, g_12_91_11, g0, r0, hf8, if_pos e2, b1]
theorem spL_n {y : pD} (h : ¬ pFl y.1 = 0) : ∀ k, spL c t k y = y := by
  intro k
  cases k with
  | zero => rfl
  | succ k =>
    unfold spL
    exact if_neg (fun e => h e.1)
theorem rdL_n {y : pD} (h : ¬ pFl y.1 = 0) : ∀ k, rdL c t k y = y := by
  intro k
  cases k with
  | zero => rfl
  | succ k =>
    unfold rdL
    exact if_neg (fun e => h e.1)
theorem spP_1 {s : pT} {n : Nat} {f : Nat → Int32} (hf : f 1 = nI n) (hn : n < 7) : (spP c t (s, n, f)).2.2 1 = nI (spP c t (s, n, f)).2.1 ∧ (spP c t (s, n, f)).2.1 ≤ 7 := by
  unfold spP
  split
  · refine ⟨?_, by dsimp only; omega⟩
    dsimp only
    unfold dSpot dSp
    exact upd_eq
  · exact ⟨hf, by dsimp only; omega⟩
theorem rdP1_2 {s : pT} {n : Nat} {f : Nat → Int32} (hf : f 2 = nI n) (hn : n < 4) : (rdP1 c t (s, n, f)).2.2 2 = nI (rdP1 c t (s, n, f)).2.1 ∧ (rdP1 c t (s, n, f)).2.1 ≤ 4 := by
  unfold rdP1
  split
  · refine ⟨?_, by dsimp only; omega⟩
    dsimp only
    unfold dRd
    exact upd_eq
  · exact ⟨hf, by dsimp only; omega⟩
theorem rdP1_ok {y : pD} (hok : pOk c t y.1) : pOk c t (rdP1 c t y).1 := by
  unfold rdP1
  split
  · exact rd3_ok hok
  · exact rd3_ok hok
theorem md_spots {w1 w2 : Value} : ∀ fu s n S nm A h, (pFl s = 0 → 8 ≤ n + fu) → xMB X h S nm A → mOk c (A 7) t → mPS S nm c t s → pOk c t s → A 8 1 = nI n → n ≤ 7 → ∃ h' S' nm', xR X m_X12_library 39 [.ref 169, w1, w2] [] h = xR X m_X12_library 63 [.ref 169, w1, w2] [] h' ∧ xMB X h' S' nm' (setA A 8 (spL c t fu (s, n, A 8)).2.2) ∧ mPS S' nm' c t (spL c t fu (s, n, A 8)).1 ∧ kq S S' ∧ xFr X inM h h' := by
  intro fu
  induction fu with
  | zero =>
    intro s n S nm A h hfu hM hT hP hok hn hn7
    have hc := hM.1
    rw [hP.2.2.2.2.1] at hc
    have k : ¬ pFl s = 0 := fun e => by have := hfu e; omega
    have z3 := (nI_fl hok.2.2.2.2.2).2 k
    refine ⟨h, S, nm, ?_, by rw [spL_n k, setA_id]; exact hM, by rw [spL_n k]; exact hP, kq_rfl, xFr_rfl⟩
    rw [e_X12_library_39]
    simp (disch := first | exact xnl_i _ | exact xnl_r _ | exact xnl_u _ | exact xnl_n | exact zI_2 | exact zI_24 | assumption | omega | (simp only [xset_len]; omega)) only [↓reduceIte, xbd_s, xpv_n, xpv_s, e_X12_library_0, e_X12_library_1, e_X12_library_2, e_X12_library_3, e_X12_library_5, e_X12_library_8, e_X12_library_9, e_X12_library_12, e_X12_library_13, e_X12_library_14, e_X12_library_15, e_X12_library_18, e_X12_library_21, e_X12_library_22, e_X12_library_23, e_X12_library_26, e_X12_library_27, e_X12_library_28, e_X12_library_31, e_X12_library_32, c_X12_library_94_11_0, c_X12_library_131_11_0, c_X12_library_106_11_0, c_X12_library_136_11_0, c_X12_library_97_11_0, e_X12_library_35, e_X12_library_36, e_X12_library_40, e_X12_library_43, e_X12_library_46, e_X12_library_47, e_X12_library_50, e_X12_library_53, e_X12_library_56, e_X12_library_57, e_X12_library_60, e_X12_library_64, e_X12_library_67, e_X12_library_70, e_X12_library_71, e_X12_library_74, e_X12_library_77, e_X12_library_80, e_X12_library_81, e_X12_library_84, e_X12_library_87, e_X12_library_88, e_X12_library_89, e_X12_library_92, e_X12_library_95, e_X12_library_96, e_X12_library_99, e_X12_library_100, e_X12_library_101, e_X12_library_104, e_X12_library_105, e_X12_library_108, e_X12_library_109, e_X12_library_110, e_X12_library_111, e_X12_library_114, e_X12_library_115, e_X12_library_118, e_X12_library_121, e_X12_library_122, e_X12_library_123, e_X12_library_126, e_X12_library_129, e_X12_library_131, e_X12_library_132, e_X12_library_133, e_X12_library_134, e_X12_library_135, e_X12_library_136, e_X12_library_137, e_X12_library_139, e_X12_library_142, e_X12_library_143, e_X12_library_146, e_X12_library_147, e_X12_library_148, e_X12_library_151, e_X12_library_152, e_X12_library_153, e_X12_library_154, e_X12_library_157, e_X12_library_160, e_X12_library_161, e_X12_library_164, e_X12_library_165, e_X12_library_166, e_X12_library_167, e_X12_library_168, e_X12_library_169, e_X12_library_172, e_X12_library_173, e_X12_library_176, e_X12_library_177, e_X12_library_178, g_12_35_11, g_12_78_11, g_12_7_11, g_12_81_11, g_12_91_11, p_12_139_11, p_12_143_11, p_12_66_11, p_12_72_11, p_12_91_11, hc, if_neg z3]
  | succ fu ih =>
    intro s n S nm A h hfu hM hT hP hok hn hn7
    have hc := hM.1
    rw [hP.2.2.2.2.1] at hc
    by_cases k : pFl s = 0
    · have z3 := (nI_fl hok.2.2.2.2.2).1 k
      have q := md_isName hM hP hok (w := wSpot) (by decide)
      rw [wl_spot] at q
      by_cases k1 : wB c wSpot s = true
      · rw [if_pos k1] at q
        obtain ⟨h1, S1, nm1, a1, a2, a3, a4, a5⟩ := md_spot hM hT hP hok k hn hn7
        have e8 : spL c t (fu + 1) (s, n, A 8) = spL c t fu (msP c t (s, n, A 8)) := by
          unfold msP
          rw [if_pos k1]
          conv => lhs; unfold spL
          rw [if_pos ⟨k, k1⟩]
          by_cases k2 : n = 7
          · rw [if_pos k2, if_pos k2, spL_n (failP_nf (by omega))]
          · rw [if_neg k2, if_neg k2]
        rw [e8]
        have inv : (msP c t (s, n, A 8)).2.2 1 = nI (msP c t (s, n, A 8)).2.1 ∧ (msP c t (s, n, A 8)).2.1 ≤ 7 ∧ pOk c t (msP c t (s, n, A 8)).1 ∧ (pFl (msP c t (s, n, A 8)).1 = 0 → 8 ≤ (msP c t (s, n, A 8)).2.1 + fu) := by
          unfold msP
          rw [if_pos k1]
          dsimp only
          by_cases k2 : n = 7
          · rw [if_pos k2]
            exact ⟨hn, hn7, failP_ok hok (by omega), fun e => absurd e (failP_nf (by omega))⟩
          · rw [if_neg k2]
            have i1 := spP_1 (c := c) (t := t) (s := advP c t s) hn (show n < 7 by omega)
            refine ⟨i1.1, i1.2, spP_ok (advP_ok hok), fun e => ?_⟩
            have i2 := spP_n e
            have := hfu k
            dsimp only at i2
            omega
        obtain ⟨i1, i2, i3, i4⟩ := inv
        obtain ⟨h2, S2, nm2, b1, b2, b3, b4, b5⟩ := ih _ _ S1 nm1 _ h1 i4 a2 (by rw [setA_ne (by decide)]; exact hT) a3 i3 (by rw [setA_eq]; exact i1) i2
        rw [setA_eq] at b2 b3
        rw [setA_setA] at b2
        refine ⟨h2, S2, nm2, ?_, b2, b3, kq_tr a4 b4, xFr_tr a5 b5⟩
        rw [← b1, e_X12_library_39]
        simp (disch := first | exact xnl_i _ | exact xnl_r _ | exact xnl_u _ | exact xnl_n | exact zI_2 | exact zI_24 | assumption | omega | (simp only [xset_len]; omega)) only [↓reduceIte, xbd_s, xpv_n, xpv_s, e_X12_library_0, e_X12_library_1, e_X12_library_2, e_X12_library_3, e_X12_library_5, e_X12_library_8, e_X12_library_9, e_X12_library_12, e_X12_library_13, e_X12_library_14, e_X12_library_15, e_X12_library_18, e_X12_library_21, e_X12_library_22, e_X12_library_23, e_X12_library_26, e_X12_library_27, e_X12_library_28, e_X12_library_31, e_X12_library_32, c_X12_library_94_11_0, c_X12_library_131_11_0, c_X12_library_106_11_0, c_X12_library_136_11_0, c_X12_library_97_11_0, e_X12_library_35, e_X12_library_36, e_X12_library_40, e_X12_library_43, e_X12_library_46, e_X12_library_47, e_X12_library_50, e_X12_library_53, e_X12_library_56, e_X12_library_57, e_X12_library_60, e_X12_library_64, e_X12_library_67, e_X12_library_70, e_X12_library_71, e_X12_library_74, e_X12_library_77, e_X12_library_80, e_X12_library_81, e_X12_library_84, e_X12_library_87, e_X12_library_88, e_X12_library_89, e_X12_library_92, e_X12_library_95, e_X12_library_96, e_X12_library_99, e_X12_library_100, e_X12_library_101, e_X12_library_104, e_X12_library_105, e_X12_library_108, e_X12_library_109, e_X12_library_110, e_X12_library_111, e_X12_library_114, e_X12_library_115, e_X12_library_118, e_X12_library_121, e_X12_library_122, e_X12_library_123, e_X12_library_126, e_X12_library_129, e_X12_library_131, e_X12_library_132, e_X12_library_133, e_X12_library_134, e_X12_library_135, e_X12_library_136, e_X12_library_137, e_X12_library_139, e_X12_library_142, e_X12_library_143, e_X12_library_146, e_X12_library_147, e_X12_library_148, e_X12_library_151, e_X12_library_152, e_X12_library_153, e_X12_library_154, e_X12_library_157, e_X12_library_160, e_X12_library_161, e_X12_library_164, e_X12_library_165, e_X12_library_166, e_X12_library_167, e_X12_library_168, e_X12_library_169, e_X12_library_172, e_X12_library_173, e_X12_library_176, e_X12_library_177, e_X12_library_178, g_12_35_11, g_12_78_11, g_12_7_11, g_12_81_11, g_12_91_11, p_12_139_11, p_12_143_11, p_12_66_11, p_12_72_11, p_12_91_11, hc, if_pos z3, q, zI_1, a1]
      · rw [if_neg k1] at q
        have e8 : spL c t (fu + 1) (s, n, A 8) = (s, n, A 8) := by
          unfold spL
          exact if_neg (fun e => k1 e.2)
        refine ⟨h, S, nm, ?_, by rw [e8, setA_id]; exact hM, by rw [e8]; exact hP, kq_rfl, xFr_rfl⟩
        rw [e_X12_library_39]
        simp (disch := first | exact xnl_i _ | exact xnl_r _ | exact xnl_u _ | exact xnl_n | exact zI_2 | exact zI_24 | assumption | omega | (simp only [xset_len]; omega)) only [↓reduceIte, xbd_s, xpv_n, xpv_s, e_X12_library_0, e_X12_library_1, e_X12_library_2, e_X12_library_3, e_X12_library_5, e_X12_library_8, e_X12_library_9, e_X12_library_12, e_X12_library_13, e_X12_library_14, e_X12_library_15, e_X12_library_18, e_X12_library_21, e_X12_library_22, e_X12_library_23, e_X12_library_26, e_X12_library_27, e_X12_library_28, e_X12_library_31, e_X12_library_32, c_X12_library_94_11_0, c_X12_library_131_11_0, c_X12_library_106_11_0, c_X12_library_136_11_0, c_X12_library_97_11_0, e_X12_library_35, e_X12_library_36, e_X12_library_40, e_X12_library_43, e_X12_library_46, e_X12_library_47, e_X12_library_50, e_X12_library_53, e_X12_library_56, e_X12_library_57, e_X12_library_60, e_X12_library_64, e_X12_library_67, e_X12_library_70, e_X12_library_71, e_X12_library_74, e_X12_library_77, e_X12_library_80, e_X12_library_81, e_X12_library_84, e_X12_library_87, e_X12_library_88, e_X12_library_89, e_X12_library_92, e_X12_library_95, e_X12_library_96, e_X12_library_99, e_X12_library_100, e_X12_library_101, e_X12_library_104, e_X12_library_105, e_X12_library_108, e_X12_library_109, e_X12_library_110, e_X12_library_111, e_X12_library_114, e_X12_library_115, e_X12_library_118, e_X12_library_121, e_X12_library_122, e_X12_library_123, e_X12_library_126, e_X12_library_129, e_X12_library_131, e_X12_library_132, e_X12_library_133, e_X12_library_134, e_X12_library_135, e_X12_library_136, e_X12_library_137, e_X12_library_139, e_X12_library_142, e_X12_library_143, e_X12_library_146, e_X12_library_147, e_X12_library_148, e_X12_library_151, e_X12_library_152, e_X12_library_153, e_X12_library_154, e_X12_library_157, e_X12_library_160, e_X12_library_161, e_X12_library_164, e_X12_library_165, e_X12_library_166, e_X12_library_167, e_X12_library_168, e_X12_library_169, e_X12_library_172, e_X12_library_173, e_X12_library_176, e_X12_library_177, e_X12_library_178, g_12_35_11, g_12_78_11, g_12_7_11, g_12_81_11, g_12_91_11, p_12_139_11, p_12_143_11, p_12_66_11, p_12_72_11, p_12_91_11, hc, if_pos z3, q, if_pos z0]
    · have z3 := (nI_fl hok.2.2.2.2.2).2 k
      refine ⟨h, S, nm, ?_, by rw [spL_n k, setA_id]; exact hM, by rw [spL_n k]; exact hP, kq_rfl, xFr_rfl⟩
      rw [e_X12_library_39]
      simp (disch := first | exact xnl_i _ | exact xnl_r _ | exact xnl_u _ | exact xnl_n | exact zI_2 | exact zI_24 | assumption | omega | (simp only [xset_len]; omega)) only [↓reduceIte, xbd_s, xpv_n, xpv_s, e_X12_library_0, e_X12_library_1, e_X12_library_2, e_X12_library_3, e_X12_library_5, e_X12_library_8, e_X12_library_9, e_X12_library_12, e_X12_library_13, e_X12_library_14, e_X12_library_15, e_X12_library_18, e_X12_library_21, e_X12_library_22, e_X12_library_23, e_X12_library_26, e_X12_library_27, e_X12_library_28, e_X12_library_31, e_X12_library_32, c_X12_library_94_11_0, c_X12_library_131_11_0, c_X12_library_106_11_0, c_X12_library_136_11_0, c_X12_library_97_11_0, e_X12_library_35, e_X12_library_36, e_X12_library_40, e_X12_library_43, e_X12_library_46, e_X12_library_47, e_X12_library_50, e_X12_library_53, e_X12_library_56, e_X12_library_57, e_X12_library_60, e_X12_library_64, e_X12_library_67, e_X12_library_70, e_X12_library_71, e_X12_library_74, e_X12_library_77, e_X12_library_80, e_X12_library_81, e_X12_library_84, e_X12_library_87, e_X12_library_88, e_X12_library_89, e_X12_library_92, e_X12_library_95, e_X12_library_96, e_X12_library_99, e_X12_library_100, e_X12_library_101, e_X12_library_104, e_X12_library_105, e_X12_library_108, e_X12_library_109, e_X12_library_110, e_X12_library_111, e_X12_library_114, e_X12_library_115, e_X12_library_118, e_X12_library_121, e_X12_library_122, e_X12_library_123, e_X12_library_126, e_X12_library_129, e_X12_library_131, e_X12_library_132, e_X12_library_133, e_X12_library_134, e_X12_library_135, e_X12_library_136, e_X12_library_137, e_X12_library_139, e_X12_library_142, e_X12_library_143, e_X12_library_146, e_X12_library_147, e_X12_library_148, e_X12_library_151, e_X12_library_152, e_X12_library_153, e_X12_library_154, e_X12_library_157, e_X12_library_160, e_X12_library_161, e_X12_library_164, e_X12_library_165, e_X12_library_166, e_X12_library_167, e_X12_library_168, e_X12_library_169, e_X12_library_172, e_X12_library_173, e_X12_library_176, e_X12_library_177, e_X12_library_178, g_12_35_11, g_12_78_11, g_12_7_11, g_12_81_11, g_12_91_11, p_12_139_11, p_12_143_11, p_12_66_11, p_12_72_11, p_12_91_11, hc, if_neg z3]
theorem md_readers {w1 w2 : Value} : ∀ fu s n S nm A h, (pFl s = 0 → 5 ≤ n + fu) → xMB X h S nm A → mOk c (A 7) t → mPS S nm c t s → pOk c t s → A 8 2 = nI n → n ≤ 4 → ∃ h' S' nm', xR X m_X12_library 63 [.ref 169, w1, w2] [] h = xR X m_X12_library 87 [.ref 169, w1, w2] [] h' ∧ xMB X h' S' nm' (setA A 8 (rdL c t fu (s, n, A 8)).2.2) ∧ mPS S' nm' c t (rdL c t fu (s, n, A 8)).1 ∧ kq S S' ∧ xFr X inM h h' := by
  intro fu
  induction fu with
  | zero =>
    intro s n S nm A h hfu hM hT hP hok hn hn7
    have hc := hM.1
    rw [hP.2.2.2.2.1] at hc
    have k : ¬ pFl s = 0 := fun e => by have := hfu e; omega
    have z3 := (nI_fl hok.2.2.2.2.2).2 k
    refine ⟨h, S, nm, ?_, by rw [rdL_n k, setA_id]; exact hM, by rw [rdL_n k]; exact hP, kq_rfl, xFr_rfl⟩
    rw [e_X12_library_63]
    simp (disch := first | exact xnl_i _ | exact xnl_r _ | exact xnl_u _ | exact xnl_n | exact zI_2 | exact zI_24 | assumption | omega | (simp only [xset_len]; omega)) only [↓reduceIte, xbd_s, xpv_n, xpv_s, e_X12_library_0, e_X12_library_1, e_X12_library_2, e_X12_library_3, e_X12_library_5, e_X12_library_8, e_X12_library_9, e_X12_library_12, e_X12_library_13, e_X12_library_14, e_X12_library_15, e_X12_library_18, e_X12_library_21, e_X12_library_22, e_X12_library_23, e_X12_library_26, e_X12_library_27, e_X12_library_28, e_X12_library_31, e_X12_library_32, c_X12_library_94_11_0, c_X12_library_131_11_0, c_X12_library_106_11_0, c_X12_library_136_11_0, c_X12_library_97_11_0, e_X12_library_35, e_X12_library_36, e_X12_library_39, e_X12_library_40, e_X12_library_43, e_X12_library_46, e_X12_library_47, e_X12_library_50, e_X12_library_53, e_X12_library_56, e_X12_library_57, e_X12_library_60, e_X12_library_64, e_X12_library_67, e_X12_library_70, e_X12_library_71, e_X12_library_74, e_X12_library_77, e_X12_library_80, e_X12_library_81, e_X12_library_84, e_X12_library_88, e_X12_library_89, e_X12_library_92, e_X12_library_95, e_X12_library_96, e_X12_library_99, e_X12_library_100, e_X12_library_101, e_X12_library_104, e_X12_library_105, e_X12_library_108, e_X12_library_109, e_X12_library_110, e_X12_library_111, e_X12_library_114, e_X12_library_115, e_X12_library_118, e_X12_library_121, e_X12_library_122, e_X12_library_123, e_X12_library_126, e_X12_library_129, e_X12_library_131, e_X12_library_132, e_X12_library_133, e_X12_library_134, e_X12_library_135, e_X12_library_136, e_X12_library_137, e_X12_library_139, e_X12_library_142, e_X12_library_143, e_X12_library_146, e_X12_library_147, e_X12_library_148, e_X12_library_151, e_X12_library_152, e_X12_library_153, e_X12_library_154, e_X12_library_157, e_X12_library_160, e_X12_library_161, e_X12_library_164, e_X12_library_165, e_X12_library_166, e_X12_library_167, e_X12_library_168, e_X12_library_169, e_X12_library_172, e_X12_library_173, e_X12_library_176, e_X12_library_177, e_X12_library_178, g_12_35_11, g_12_78_11, g_12_7_11, g_12_81_11, g_12_91_11, p_12_139_11, p_12_143_11, p_12_66_11, p_12_72_11, p_12_91_11, hc, if_neg z3]
  | succ fu ih =>
    intro s n S nm A h hfu hM hT hP hok hn hn7
    have hc := hM.1
    rw [hP.2.2.2.2.1] at hc
    by_cases k : pFl s = 0
    · have z3 := (nI_fl hok.2.2.2.2.2).1 k
      have q := md_isName hM hP hok (w := wReader) (by decide)
      rw [wl_reader] at q
      by_cases k1 : wB c wReader s = true
      · rw [if_pos k1] at q
        obtain ⟨h1, S1, nm1, a1, a2, a3, a4, a5⟩ := md_reader hM hT hP hok hn hn7
        have e8 : rdL c t (fu + 1) (s, n, A 8) = rdL c t fu (mrP c t (s, n, A 8)) := by
          unfold mrP
          conv => lhs; unfold rdL
          rw [if_pos ⟨k, k1⟩]
          by_cases k2 : n = 4
          · rw [if_pos k2, if_pos k2, rdL_n (failP_nf (by omega))]
          · rw [if_neg k2, if_neg k2]
        rw [e8]
        have inv : (mrP c t (s, n, A 8)).2.2 2 = nI (mrP c t (s, n, A 8)).2.1 ∧ (mrP c t (s, n, A 8)).2.1 ≤ 4 ∧ pOk c t (mrP c t (s, n, A 8)).1 ∧ (pFl (mrP c t (s, n, A 8)).1 = 0 → 5 ≤ (mrP c t (s, n, A 8)).2.1 + fu) := by
          unfold mrP
          dsimp only
          by_cases k2 : n = 4
          · rw [if_pos k2]
            exact ⟨hn, hn7, failP_ok hok (by omega), fun e => absurd e (failP_nf (by omega))⟩
          · rw [if_neg k2]
            have i1 := rdP1_2 (c := c) (t := t) (s := advP c t s) hn (show n < 4 by omega)
            refine ⟨i1.1, i1.2, rdP1_ok (advP_ok hok), fun e => ?_⟩
            have i2 := rdP1_n e
            have := hfu k
            dsimp only at i2
            omega
        obtain ⟨i1, i2, i3, i4⟩ := inv
        obtain ⟨h2, S2, nm2, b1, b2, b3, b4, b5⟩ := ih _ _ S1 nm1 _ h1 i4 a2 (by rw [setA_ne (by decide)]; exact hT) a3 i3 (by rw [setA_eq]; exact i1) i2
        rw [setA_eq] at b2 b3
        rw [setA_setA] at b2
        refine ⟨h2, S2, nm2, ?_, b2, b3, kq_tr a4 b4, xFr_tr a5 b5⟩
        rw [← b1, e_X12_library_63]
        simp (disch := first | exact xnl_i _ | exact xnl_r _ | exact xnl_u _ | exact xnl_n | exact zI_2 | exact zI_24 | assumption | omega | (simp only [xset_len]; omega)) only [↓reduceIte, xbd_s, xpv_n, xpv_s, e_X12_library_0, e_X12_library_1, e_X12_library_2, e_X12_library_3, e_X12_library_5, e_X12_library_8, e_X12_library_9, e_X12_library_12, e_X12_library_13, e_X12_library_14, e_X12_library_15, e_X12_library_18, e_X12_library_21, e_X12_library_22, e_X12_library_23, e_X12_library_26, e_X12_library_27, e_X12_library_28, e_X12_library_31, e_X12_library_32, c_X12_library_94_11_0, c_X12_library_131_11_0, c_X12_library_106_11_0, c_X12_library_136_11_0, c_X12_library_97_11_0, e_X12_library_35, e_X12_library_36, e_X12_library_39, e_X12_library_40, e_X12_library_43, e_X12_library_46, e_X12_library_47, e_X12_library_50, e_X12_library_53, e_X12_library_56, e_X12_library_57, e_X12_library_60, e_X12_library_64, e_X12_library_67, e_X12_library_70, e_X12_library_71, e_X12_library_74, e_X12_library_77, e_X12_library_80, e_X12_library_81, e_X12_library_84, e_X12_library_88, e_X12_library_89, e_X12_library_92, e_X12_library_95, e_X12_library_96, e_X12_library_99, e_X12_library_100, e_X12_library_101, e_X12_library_104, e_X12_library_105, e_X12_library_108, e_X12_library_109, e_X12_library_110, e_X12_library_111, e_X12_library_114, e_X12_library_115, e_X12_library_118, e_X12_library_121, e_X12_library_122, e_X12_library_123, e_X12_library_126, e_X12_library_129, e_X12_library_131, e_X12_library_132, e_X12_library_133, e_X12_library_134, e_X12_library_135, e_X12_library_136, e_X12_library_137, e_X12_library_139, e_X12_library_142, e_X12_library_143, e_X12_library_146, e_X12_library_147, e_X12_library_148, e_X12_library_151, e_X12_library_152, e_X12_library_153, e_X12_library_154, e_X12_library_157, e_X12_library_160, e_X12_library_161, e_X12_library_164, e_X12_library_165, e_X12_library_166, e_X12_library_167, e_X12_library_168, e_X12_library_169, e_X12_library_172, e_X12_library_173, e_X12_library_176, e_X12_library_177, e_X12_library_178, g_12_35_11, g_12_78_11, g_12_7_11, g_12_81_11, g_12_91_11, p_12_139_11, p_12_143_11, p_12_66_11, p_12_72_11, p_12_91_11, hc, if_pos z3, q, zI_1, a1]
      · rw [if_neg k1] at q
        have e8 : rdL c t (fu + 1) (s, n, A 8) = (s, n, A 8) := by
          unfold rdL
          exact if_neg (fun e => k1 e.2)
        refine ⟨h, S, nm, ?_, by rw [e8, setA_id]; exact hM, by rw [e8]; exact hP, kq_rfl, xFr_rfl⟩
        rw [e_X12_library_63]
        simp (disch := first | exact xnl_i _ | exact xnl_r _ | exact xnl_u _ | exact xnl_n | exact zI_2 | exact zI_24 | assumption | omega | (simp only [xset_len]; omega)) only [↓reduceIte, xbd_s, xpv_n, xpv_s, e_X12_library_0, e_X12_library_1, e_X12_library_2, e_X12_library_3, e_X12_library_5, e_X12_library_8, e_X12_library_9, e_X12_library_12, e_X12_library_13, e_X12_library_14, e_X12_library_15, e_X12_library_18, e_X12_library_21, e_X12_library_22, e_X12_library_23, e_X12_library_26, e_X12_library_27, e_X12_library_28, e_X12_library_31, e_X12_library_32, c_X12_library_94_11_0, c_X12_library_131_11_0, c_X12_library_106_11_0, c_X12_library_136_11_0, c_X12_library_97_11_0, e_X12_library_35, e_X12_library_36, e_X12_library_39, e_X12_library_40, e_X12_library_43, e_X12_library_46, e_X12_library_47, e_X12_library_50, e_X12_library_53, e_X12_library_56, e_X12_library_57, e_X12_library_60, e_X12_library_64, e_X12_library_67, e_X12_library_70, e_X12_library_71, e_X12_library_74, e_X12_library_77, e_X12_library_80, e_X12_library_81, e_X12_library_84, e_X12_library_88, e_X12_library_89, e_X12_library_92, e_X12_library_95, e_X12_library_96, e_X12_library_99, e_X12_library_100, e_X12_library_101, e_X12_library_104, e_X12_library_105, e_X12_library_108, e_X12_library_109, e_X12_library_110, e_X12_library_111, e_X12_library_114, e_X12_library_115, e_X12_library_118, e_X12_library_121, e_X12_library_122, e_X12_library_123, e_X12_library_126, e_X12_library_129, e_X12_library_131, e_X12_library_132, e_X12_library_133, e_X12_library_134, e_X12_library_135, e_X12_library_136, e_X12_library_137, e_X12_library_139, e_X12_library_142, e_X12_library_143, e_X12_library_146, e_X12_library_147, e_X12_library_148, e_X12_library_151, e_X12_library_152, e_X12_library_153, e_X12_library_154, e_X12_library_157, e_X12_library_160, e_X12_library_161, e_X12_library_164, e_X12_library_165, e_X12_library_166, e_X12_library_167, e_X12_library_168, e_X12_library_169, e_X12_library_172, e_X12_library_173, e_X12_library_176, e_X12_library_177, e_X12_library_178, g_12_35_11, g_12_78_11, g_12_7_11, g_12_81_11, g_12_91_11, p_12_139_11, p_12_143_11, p_12_66_11, p_12_72_11, p_12_91_11, hc, if_pos z3, q, if_pos z0]
    · have z3 := (nI_fl hok.2.2.2.2.2).2 k
      refine ⟨h, S, nm, ?_, by rw [rdL_n k, setA_id]; exact hM, by rw [rdL_n k]; exact hP, kq_rfl, xFr_rfl⟩
      rw [e_X12_library_63]
      simp (disch := first | exact xnl_i _ | exact xnl_r _ | exact xnl_u _ | exact xnl_n | exact zI_2 | exact zI_24 | assumption | omega | (simp only [xset_len]; omega)) only [↓reduceIte, xbd_s, xpv_n, xpv_s, e_X12_library_0, e_X12_library_1, e_X12_library_2, e_X12_library_3, e_X12_library_5, e_X12_library_8, e_X12_library_9, e_X12_library_12, e_X12_library_13, e_X12_library_14, e_X12_library_15, e_X12_library_18, e_X12_library_21, e_X12_library_22, e_X12_library_23, e_X12_library_26, e_X12_library_27, e_X12_library_28, e_X12_library_31, e_X12_library_32, c_X12_library_94_11_0, c_X12_library_131_11_0, c_X12_library_106_11_0, c_X12_library_136_11_0, c_X12_library_97_11_0, e_X12_library_35, e_X12_library_36, e_X12_library_39, e_X12_library_40, e_X12_library_43, e_X12_library_46, e_X12_library_47, e_X12_library_50, e_X12_library_53, e_X12_library_56, e_X12_library_57, e_X12_library_60, e_X12_library_64, e_X12_library_67, e_X12_library_70, e_X12_library_71, e_X12_library_74, e_X12_library_77, e_X12_library_80, e_X12_library_81, e_X12_library_84, e_X12_library_88, e_X12_library_89, e_X12_library_92, e_X12_library_95, e_X12_library_96, e_X12_library_99, e_X12_library_100, e_X12_library_101, e_X12_library_104, e_X12_library_105, e_X12_library_108, e_X12_library_109, e_X12_library_110, e_X12_library_111, e_X12_library_114, e_X12_library_115, e_X12_library_118, e_X12_library_121, e_X12_library_122, e_X12_library_123, e_X12_library_126, e_X12_library_129, e_X12_library_131, e_X12_library_132, e_X12_library_133, e_X12_library_134, e_X12_library_135, e_X12_library_136, e_X12_library_137, e_X12_library_139, e_X12_library_142, e_X12_library_143, e_X12_library_146, e_X12_library_147, e_X12_library_148, e_X12_library_151, e_X12_library_152, e_X12_library_153, e_X12_library_154, e_X12_library_157, e_X12_library_160, e_X12_library_161, e_X12_library_164, e_X12_library_165, e_X12_library_166, e_X12_library_167, e_X12_library_168, e_X12_library_169, e_X12_library_172, e_X12_library_173, e_X12_library_176, e_X12_library_177, e_X12_library_178, g_12_35_11, g_12_78_11, g_12_7_11, g_12_81_11, g_12_91_11, p_12_139_11, p_12_143_11, p_12_66_11, p_12_72_11, p_12_91_11, hc, if_neg z3]
end XMX
