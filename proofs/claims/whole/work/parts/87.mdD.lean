/-! READING, the reference: names, must, numbers, stops -/
theorem lg_eq (x y : Int64) : lg_cmp x y = 0 ↔ x = y := by
  unfold lg_cmp
  by_cases c : x > y
  · rw [if_pos c]
    constructor
    · intro e; exact absurd e (by decide)
    · intro e
      rw [e] at c
      have := Int64.lt_iff_toInt_lt.mp c
      omega
  · rw [if_neg c]
    by_cases k : x = y
    · rw [if_pos k]; exact ⟨fun _ => k, fun _ => rfl⟩
    · rw [if_neg k]
      exact ⟨fun e => absurd e (by decide), fun e => absurd e k⟩
def mRun (X : xS) (A : Nat → Nat → Int32) (c : Nat → Nat) (t : Nat) (S : Nat → Int32) (h : xH) (m : xMd) (as : List Value) (r : Option Value) (s' : pT) : Prop := ∃ h' S' nm', xR X m 0 as [] h = some (r, h') ∧ xMB X h' S' nm' A ∧ mPS S' nm' c t s' ∧ kq S S' ∧ xFr X inM h h'
theorem w7 : ∀ w ∈ [wSpot, wReader, wOpen, wWindow, wHearth, wCorner, wGlass], w.length ≤ 7 ∧ 0 < w.length ∧ ∀ i, i < w.length → 0 < w.getD i 0 ∧ w.getD i 0 < 128 := by decide
section XMD1
variable {X : xS} {h : xH} {S : Nat → Int32} {nm : Int64} {A : Nat → Nat → Int32} {t : Nat} {c : Nat → Nat} {s : pT}
theorem md_isName (hM : xMB X h S nm A) (hP : mPS S nm c t s) (hok : pOk c t s) {w : List Nat} (hw : w ∈ [wSpot, wReader, wOpen, wWindow, wHearth, wCorner, wGlass]) : xR X m_X12_isName 0 [.ref 169, .long (wL w), xU] [] h = some (some (.int (if wB c w s = true then nI 1 else nI 0)), h) := by
  obtain ⟨p2, p3, p4, p5, p7, p6, pn⟩ := hP
  have hc := hM.1
  rw [p5] at hc
  obtain ⟨w1, w2, w3⟩ := w7 w hw
  have h4 := hok.2.2.2.2.1
  by_cases k1 : s.1 = 1
  · have e1 : nI s.1 = nI 1 := by rw [k1]
    have o1 := hok.1
    have kw := pk_w (c := c) (f := s.2.1) (k := s.2.2.1 - s.2.1) (w := w) (fun i hi => hok.2.2.2.1 k1 _ (by omega) (by omega)) w1 w2 w3
    by_cases k2 : isW c w s
    · have e2 : lg_cmp nm (wL w) = 0 := by rw [lg_eq, pn k1, kw]; exact k2.2
      rw [if_pos (wB_t.mpr k2)]
      simp (disch := first | exact xnl_i _ | exact xnl_r _ | exact xnl_u _ | exact xnl_n | exact zI_2 | exact zI_24 | assumption | omega | (simp only [xset_len]; omega)) only [↓reduceIte, xbd_s, xpv_n, xpv_s, e_X12_isName_0, e_X12_isName_1, e_X12_isName_4, e_X12_isName_5, e_X12_isName_8, e_X12_isName_9, e_X12_isName_12, e_X12_isName_13, e_X12_isName_14, e_X12_isName_17, e_X12_isName_18, e_X12_isName_21, e_X12_isName_22, e_X12_isName_22_0, e_X12_isName_22_1, g_12_81_11, g_12_84_11, hc, if_pos e1, if_pos e2]
    · have e2 : ¬ lg_cmp nm (wL w) = 0 := by
        rw [lg_eq, pn k1, kw]
        intro e
        exact k2 ⟨k1, e⟩
      rw [if_neg (show ¬ wB c w s = true from fun e => k2 (wB_t.mp e))]
      simp (disch := first | exact xnl_i _ | exact xnl_r _ | exact xnl_u _ | exact xnl_n | exact zI_2 | exact zI_24 | assumption | omega | (simp only [xset_len]; omega)) only [↓reduceIte, xbd_s, xpv_n, xpv_s, e_X12_isName_0, e_X12_isName_1, e_X12_isName_4, e_X12_isName_5, e_X12_isName_8, e_X12_isName_9, e_X12_isName_12, e_X12_isName_13, e_X12_isName_14, e_X12_isName_17, e_X12_isName_18, e_X12_isName_21, e_X12_isName_22, e_X12_isName_22_0, e_X12_isName_22_1, g_12_81_11, g_12_84_11, hc, if_pos e1, if_neg e2]
  · have e1 : ¬ nI s.1 = nI 1 := by rw [nI_inj (by omega) (by omega)]; exact k1
    rw [if_neg (show ¬ wB c w s = true from fun e => k1 (wB_t.mp e).1)]
    simp (disch := first | exact xnl_i _ | exact xnl_r _ | exact xnl_u _ | exact xnl_n | exact zI_2 | exact zI_24 | assumption | omega | (simp only [xset_len]; omega)) only [↓reduceIte, xbd_s, xpv_n, xpv_s, e_X12_isName_0, e_X12_isName_1, e_X12_isName_4, e_X12_isName_5, e_X12_isName_8, e_X12_isName_9, e_X12_isName_12, e_X12_isName_13, e_X12_isName_14, e_X12_isName_17, e_X12_isName_18, e_X12_isName_21, e_X12_isName_22, e_X12_isName_22_0, e_X12_isName_22_1, g_12_81_11, g_12_84_11, hc, if_neg e1]
theorem mRun_id {m : xMd} {as : List Value} {r : Option Value} (hM : xMB X h S nm A) (hP : mPS S nm c t s) (hr : xR X m 0 as [] h = some (r, h)) : mRun X A c t S h m as r s := ⟨h, S, nm, hr, hM, hP, kq_rfl, xFr_rfl⟩
theorem md_must1 (hM : xMB X h S nm A) (hP : mPS S nm c t s) (hok : pOk c t s) (n : Int32) : mRun X A c t S h m_X12_must [.ref 169, .int (nI 1), .int n] none s := by
  refine mRun_id hM hP ?_
  have hc := hM.1
  rw [hP.2.2.2.2.1] at hc
  obtain ⟨z1, z2⟩ := nI_fl hok.2.2.2.2.2
  by_cases k : pFl s = 0
  · have z3 := z1 k
    simp (disch := first | exact xnl_i _ | exact xnl_r _ | exact xnl_u _ | exact xnl_n | exact zI_2 | exact zI_24 | assumption | omega | (simp only [xset_len]; omega)) only [↓reduceIte, xbd_s, xpv_n, xpv_s, e_X12_must_0, e_X12_must_1, e_X12_must_4, e_X12_must_7, e_X12_must_8, e_X12_must_11, e_X12_must_12, e_X12_must_13, e_X12_must_16, g_12_91_11, p_12_91_11, hc, if_pos z3, zI_1]
  · have z3 := z2 k
    simp (disch := first | exact xnl_i _ | exact xnl_r _ | exact xnl_u _ | exact xnl_n | exact zI_2 | exact zI_24 | assumption | omega | (simp only [xset_len]; omega)) only [↓reduceIte, xbd_s, xpv_n, xpv_s, e_X12_must_0, e_X12_must_1, e_X12_must_4, e_X12_must_7, e_X12_must_8, e_X12_must_11, e_X12_must_12, e_X12_must_13, e_X12_must_16, g_12_91_11, p_12_91_11, hc, if_neg z3]
theorem md_mustN (hM : xMB X h S nm A) (hP : mPS S nm c t s) (hok : pOk c t s) (hf : ¬ pFl s = 0) (z n : Int32) : mRun X A c t S h m_X12_must [.ref 169, .int z, .int n] none s := by
  refine mRun_id hM hP ?_
  have hc := hM.1
  rw [hP.2.2.2.2.1] at hc
  have z3 := (nI_fl hok.2.2.2.2.2).2 hf
  simp (disch := first | exact xnl_i _ | exact xnl_r _ | exact xnl_u _ | exact xnl_n | exact zI_2 | exact zI_24 | assumption | omega | (simp only [xset_len]; omega)) only [↓reduceIte, xbd_s, xpv_n, xpv_s, e_X12_must_0, e_X12_must_1, e_X12_must_4, e_X12_must_7, e_X12_must_8, e_X12_must_11, e_X12_must_12, e_X12_must_13, e_X12_must_16, g_12_91_11, p_12_91_11, hc, if_neg z3]
theorem md_must0 (hM : xMB X h S nm A) (hP : mPS S nm c t s) (hok : pOk c t s) (n : Nat) : mRun X A c t S h m_X12_must [.ref 169, .int (nI 0), .int (nI n)] none (failP n s) := by
  by_cases k : pFl s = 0
  · have M1 := xMB_S (S' := upd S 7 (nI n)) (nm' := nm) hM
    obtain ⟨p2, p3, p4, p5, p7, p6, pn⟩ := hP
    have hc := hM.1
    rw [p7] at hc
    have z3 := (nI_fl hok.2.2.2.2.2).1 k
    refine ⟨_, _, _, ?_, M1, ?_, kq_1 (by omega), xFr_set (by omega) ⟨by omega, by omega⟩⟩
    · simp (disch := first | exact xnl_i _ | exact xnl_r _ | exact xnl_u _ | exact xnl_n | exact zI_2 | exact zI_24 | assumption | omega | (simp only [xset_len]; omega)) only [↓reduceIte, xbd_s, xpv_n, xpv_s, e_X12_must_0, e_X12_must_1, e_X12_must_4, e_X12_must_7, e_X12_must_8, e_X12_must_11, e_X12_must_12, e_X12_must_13, e_X12_must_16, g_12_91_11, p_12_91_11, hc, if_pos z3, if_pos z0]
      rfl
    · unfold failP
      rw [if_pos k]
      refine ⟨?_, ?_, ?_, ?_, upd_eq, ?_, fun e => pn e⟩
      · rw [upd_ne (by decide)]; exact p2
      · rw [upd_ne (by decide)]; exact p3
      · rw [upd_ne (by decide)]; exact p4
      · rw [upd_ne (by decide)]; exact p5
      · intro e
        rw [upd_ne (by decide)]
        exact p6 e
  · rw [failP_n k]
    exact md_mustN hM hP hok k _ _
theorem md_goesOn (hM : xMB X h S nm A) (hT : mOk c (A 7) t) (hP : mPS S nm c t s) (hok : pOk c t s) : mRun X A c t S h m_X12_goesOn [.ref 169] none (advP c t s) := by
  have hc := hM.1
  rw [hP.2.2.2.2.1] at hc
  obtain ⟨z1, z2⟩ := nI_fl hok.2.2.2.2.2
  by_cases k : pFl s = 0
  · have z3 := z1 k
    obtain ⟨p2, p3, p4, p5, p7, p6, pn⟩ := hP
    obtain ⟨h', S', nm', a1, a2, a3, a4, a5⟩ := md_next hM hT p2 p3 (by rw [p7, show s.2.2.2 = 0 from k]) hok.2.1
    unfold advP
    rw [if_pos k]
    exact ⟨h', S', nm', by simp (disch := first | exact xnl_i _ | exact xnl_r _ | exact xnl_u _ | exact xnl_n | exact zI_2 | exact zI_24 | assumption | omega | (simp only [xset_len]; omega)) only [↓reduceIte, xbd_s, xpv_n, xpv_s, e_X12_goesOn_0, e_X12_goesOn_1, e_X12_goesOn_4, e_X12_goesOn_7, e_X12_goesOn_8, c_X12_goesOn_94_11_0, e_X12_goesOn_11, g_12_91_11, hc, if_pos z3, a1], a2, a3, a4, a5⟩
  · have z3 := z2 k
    rw [advP_n k]
    exact mRun_id hM hP (by simp (disch := first | exact xnl_i _ | exact xnl_r _ | exact xnl_u _ | exact xnl_n | exact zI_2 | exact zI_24 | assumption | omega | (simp only [xset_len]; omega)) only [↓reduceIte, xbd_s, xpv_n, xpv_s, e_X12_goesOn_0, e_X12_goesOn_1, e_X12_goesOn_4, e_X12_goesOn_7, e_X12_goesOn_8, c_X12_goesOn_94_11_0, e_X12_goesOn_11, g_12_91_11, hc, if_neg z3])
theorem md_number (hM : xMB X h S nm A) (hT : mOk c (A 7) t) (hP : mPS S nm c t s) (hok : pOk c t s) {lo hi : Nat} (hlo : lo < 1000) (hhi : hi < 1000) : ∃ v, mRun X A c t S h m_X12_readNumber [.ref 169, .int (nI lo), .int (nI hi), .int (-1000000), xU] (some (.int v)) (numP c t lo hi s) ∧ (pFl (numP c t lo hi s) = 0 → v = nI (numV c s)) := by
  have hv := numV_lt hok
  have h4 := hok.2.2.2.2.1
  have hc := hM.1
  obtain ⟨p2, p3, p4, p5, p7, p6, pn⟩ := id hP
  rw [p5] at hc
  unfold numP
  by_cases k1 : s.1 = 2
  · have e1 : nI s.1 = nI 2 := by rw [k1]
    obtain ⟨h1, S1, nm1, a1, a2, a3, a4, a5⟩ := md_must1 hM hP hok (nI 1)
    have s6 := a3.2.2.2.2.2.1 k1
    have c1 := a2.1
    rw [s6] at c1
    rw [if_pos k1]
    by_cases k2 : numV c s < lo ∨ hi < numV c s
    · rw [if_pos k2]
      have q : xR X m_X12_in 0 [.int (nI (numV c s)), .int (nI lo), .int (nI hi)] [] h1 = some (some (.int 0), h1) := m_inF (by rw [nI_ltN (by omega) (by omega), nI_ltN (by omega) (by omega)]; exact k2)
      obtain ⟨h2, S2, nm2, b1, b2, b3, b4, b5⟩ := md_must0 a2 a3 hok 2
      have ok2 : pOk c t (failP 2 s) := failP_ok hok (by omega)
      have c2 := b2.1
      obtain ⟨h3, S3, nm3, d1, d2, d3, d4, d5⟩ := md_goesOn b2 hT b3 ok2
      have nf : ¬ pFl (failP 2 s) = 0 := by
        intro e
        by_cases k : pFl s = 0
        · unfold failP at e
          rw [if_pos k] at e
          exact absurd (show 2 = 0 from e) (by decide)
        · rw [failP_n k] at e
          exact k e
      rw [advP_n nf] at d3
      refine ⟨S2 6, ⟨h3, S3, nm3, ?_, d2, d3, kq_tr (kq_tr a4 b4) d4, xFr_tr (xFr_tr a5 b5) d5⟩, fun e => absurd e nf⟩
      simp (disch := first | exact xnl_i _ | exact xnl_r _ | exact xnl_u _ | exact xnl_n | exact zI_2 | exact zI_24 | assumption | omega | (simp only [xset_len]; omega)) only [↓reduceIte, xbd_s, xpv_n, xpv_s, e_X12_readNumber_0, e_X12_readNumber_1, e_X12_readNumber_2, e_X12_readNumber_5, e_X12_readNumber_6, e_X12_readNumber_9, e_X12_readNumber_10, e_X12_readNumber_13, e_X12_readNumber_14, e_X12_readNumber_15, c_X12_readNumber_97_11_0, c_X12_readNumber_101_11_0, e_X12_readNumber_18, e_X12_readNumber_19, e_X12_readNumber_20, e_X12_readNumber_23, e_X12_readNumber_24, e_X12_readNumber_25, e_X12_readNumber_28, e_X12_readNumber_31, e_X12_readNumber_32, e_X12_readNumber_35, e_X12_readNumber_36, e_X12_readNumber_39, e_X12_readNumber_40, e_X12_readNumber_43, e_X12_readNumber_44, e_X12_readNumber_45, e_X12_readNumber_48, e_X12_readNumber_49, e_X12_readNumber_52, e_X12_readNumber_54, e_X12_readNumber_55, e_X12_readNumber_58, e_X12_readNumber_60, g_12_81_11, g_12_88_11, hc, if_pos e1, a1, c1, q, b1, c2, d1]
    · rw [if_neg k2]
      have q : xR X m_X12_in 0 [.int (nI (numV c s)), .int (nI lo), .int (nI hi)] [] h1 = some (some (.int 1), h1) := m_inT (by rw [nI_ltN (by omega) (by omega)]; omega) (by rw [nI_ltN (by omega) (by omega)]; omega)
      obtain ⟨h2, S2, nm2, b1, b2, b3, b4, b5⟩ := md_must1 a2 a3 hok (nI 2)
      have s62 := b3.2.2.2.2.2.1 k1
      have c2 := b2.1
      rw [s62] at c2
      obtain ⟨h3, S3, nm3, d1, d2, d3, d4, d5⟩ := md_goesOn b2 hT b3 hok
      have en : ¬ nI (numV c s) = -1000000 := nI_neNO (by omega)
      refine ⟨nI (numV c s), ⟨h3, S3, nm3, ?_, d2, d3, kq_tr (kq_tr a4 b4) d4, xFr_tr (xFr_tr a5 b5) d5⟩, fun _ => rfl⟩
      simp (disch := first | exact xnl_i _ | exact xnl_r _ | exact xnl_u _ | exact xnl_n | exact zI_2 | exact zI_24 | assumption | omega | (simp only [xset_len]; omega)) only [↓reduceIte, xbd_s, xpv_n, xpv_s, e_X12_readNumber_0, e_X12_readNumber_1, e_X12_readNumber_2, e_X12_readNumber_5, e_X12_readNumber_6, e_X12_readNumber_9, e_X12_readNumber_10, e_X12_readNumber_13, e_X12_readNumber_14, e_X12_readNumber_15, c_X12_readNumber_97_11_0, c_X12_readNumber_101_11_0, e_X12_readNumber_18, e_X12_readNumber_19, e_X12_readNumber_20, e_X12_readNumber_23, e_X12_readNumber_24, e_X12_readNumber_25, e_X12_readNumber_28, e_X12_readNumber_31, e_X12_readNumber_32, e_X12_readNumber_35, e_X12_readNumber_36, e_X12_readNumber_39, e_X12_readNumber_40, e_X12_readNumber_43, e_X12_readNumber_44, e_X12_readNumber_45, e_X12_readNumber_48, e_X12_readNumber_49, e_X12_readNumber_52, e_X12_readNumber_54, e_X12_readNumber_55, e_X12_readNumber_58, e_X12_readNumber_60, g_12_81_11, g_12_88_11, hc, if_pos e1, a1, c1, q, ne10, if_neg en, b1, c2, d1]
  · have e1 : ¬ nI s.1 = nI 2 := by rw [nI_inj (by omega) (by omega)]; exact k1
    rw [if_neg k1]
    have ok1 : pOk c t (failP 1 s) := failP_ok hok (by omega)
    have nf : ¬ pFl (failP 1 s) = 0 := by
      intro e
      by_cases k : pFl s = 0
      · unfold failP at e
        rw [if_pos k] at e
        exact absurd (show 1 = 0 from e) (by decide)
      · rw [failP_n k] at e
        exact k e
    obtain ⟨h1, S1, nm1, a1, a2, a3, a4, a5⟩ := md_must0 hM hP hok 1
    have c1 := a2.1
    have fin : ∃ z, xR X m_X12_readNumber 0 [.ref 169, .int (nI lo), .int (nI hi), .int (-1000000), xU] [] h = xR X m_X12_readNumber 45 [.ref 169, .int (nI lo), .int (nI hi), .int (-1000000), xU] [.int (nI 2), .int z, .ref 169] h1 := by
      by_cases g1 : S1 6 < nI lo ∨ nI hi < S1 6
      · have q := m_inF (X := X) (h := h1) g1
        exact ⟨nI 0, by simp (disch := first | exact xnl_i _ | exact xnl_r _ | exact xnl_u _ | exact xnl_n | exact zI_2 | exact zI_24 | assumption | omega | (simp only [xset_len]; omega)) only [↓reduceIte, xbd_s, xpv_n, xpv_s, e_X12_readNumber_0, e_X12_readNumber_1, e_X12_readNumber_2, e_X12_readNumber_5, e_X12_readNumber_6, e_X12_readNumber_9, e_X12_readNumber_10, e_X12_readNumber_13, e_X12_readNumber_14, e_X12_readNumber_15, c_X12_readNumber_97_11_0, c_X12_readNumber_101_11_0, e_X12_readNumber_18, e_X12_readNumber_19, e_X12_readNumber_20, e_X12_readNumber_23, e_X12_readNumber_24, e_X12_readNumber_25, e_X12_readNumber_28, e_X12_readNumber_31, e_X12_readNumber_32, e_X12_readNumber_35, e_X12_readNumber_36, e_X12_readNumber_39, e_X12_readNumber_40, e_X12_readNumber_43, e_X12_readNumber_44, e_X12_readNumber_48, e_X12_readNumber_49, e_X12_readNumber_52, e_X12_readNumber_54, e_X12_readNumber_55, e_X12_readNumber_58, e_X12_readNumber_60, g_12_81_11, g_12_88_11, hc, if_neg e1, a1, c1, q]⟩
      · have q := m_inT (X := X) (h := h1) (fun e => g1 (Or.inl e)) (fun e => g1 (Or.inr e))
        by_cases g2 : S1 6 = -1000000
        · exact ⟨nI 0, by simp (disch := first | exact xnl_i _ | exact xnl_r _ | exact xnl_u _ | exact xnl_n | exact zI_2 | exact zI_24 | assumption | omega | (simp only [xset_len]; omega)) only [↓reduceIte, xbd_s, xpv_n, xpv_s, e_X12_readNumber_0, e_X12_readNumber_1, e_X12_readNumber_2, e_X12_readNumber_5, e_X12_readNumber_6, e_X12_readNumber_9, e_X12_readNumber_10, e_X12_readNumber_13, e_X12_readNumber_14, e_X12_readNumber_15, c_X12_readNumber_97_11_0, c_X12_readNumber_101_11_0, e_X12_readNumber_18, e_X12_readNumber_19, e_X12_readNumber_20, e_X12_readNumber_23, e_X12_readNumber_24, e_X12_readNumber_25, e_X12_readNumber_28, e_X12_readNumber_31, e_X12_readNumber_32, e_X12_readNumber_35, e_X12_readNumber_36, e_X12_readNumber_39, e_X12_readNumber_40, e_X12_readNumber_43, e_X12_readNumber_44, e_X12_readNumber_48, e_X12_readNumber_49, e_X12_readNumber_52, e_X12_readNumber_54, e_X12_readNumber_55, e_X12_readNumber_58, e_X12_readNumber_60, g_12_81_11, g_12_88_11, hc, if_neg e1, a1, c1, q, ne10, if_pos g2]⟩
        · exact ⟨nI 1, by simp (disch := first | exact xnl_i _ | exact xnl_r _ | exact xnl_u _ | exact xnl_n | exact zI_2 | exact zI_24 | assumption | omega | (simp only [xset_len]; omega)) only [↓reduceIte, xbd_s, xpv_n, xpv_s, e_X12_readNumber_0, e_X12_readNumber_1, e_X12_readNumber_2, e_X12_readNumber_5, e_X12_readNumber_6, e_X12_readNumber_9, e_X12_readNumber_10, e_X12_readNumber_13, e_X12_readNumber_14, e_X12_readNumber_15, c_X12_readNumber_97_11_0, c_X12_readNumber_101_11_0, e_X12_readNumber_18, e_X12_readNumber_19, e_X12_readNumber_20, e_X12_readNumber_23, e_X12_readNumber_24, e_X12_readNumber_25, e_X12_readNumber_28, e_X12_readNumber_31, e_X12_readNumber_32, e_X12_readNumber_35, e_X12_readNumber_36, e_X12_readNumber_39, e_X12_readNumber_40, e_X12_readNumber_43, e_X12_readNumber_44, e_X12_readNumber_48, e_X12_readNumber_49, e_X12_readNumber_52, e_X12_readNumber_54, e_X12_readNumber_55, e_X12_readNumber_58, e_X12_readNumber_60, g_12_81_11, g_12_88_11, hc, if_neg e1, a1, c1, q, ne10, if_neg g2]⟩
    obtain ⟨z, hz⟩ := fin
    obtain ⟨h2, S2, nm2, b1, b2, b3, b4, b5⟩ := md_mustN a2 a3 ok1 nf z (nI 2)
    have c2 := b2.1
    obtain ⟨h3, S3, nm3, d1, d2, d3, d4, d5⟩ := md_goesOn b2 hT b3 ok1
    rw [advP_n nf] at d3
    refine ⟨S2 6, ⟨h3, S3, nm3, ?_, d2, d3, kq_tr (kq_tr a4 b4) d4, xFr_tr (xFr_tr a5 b5) d5⟩, fun e => absurd e nf⟩
    refine hz.trans ?_
    simp (disch := first | exact xnl_i _ | exact xnl_r _ | exact xnl_u _ | exact xnl_n | exact zI_2 | exact zI_24 | assumption | omega | (simp only [xset_len]; omega)) only [↓reduceIte, xbd_s, xpv_n, xpv_s, e_X12_readNumber_0, e_X12_readNumber_1, e_X12_readNumber_2, e_X12_readNumber_5, e_X12_readNumber_6, e_X12_readNumber_9, e_X12_readNumber_10, e_X12_readNumber_13, e_X12_readNumber_14, e_X12_readNumber_15, c_X12_readNumber_97_11_0, c_X12_readNumber_101_11_0, e_X12_readNumber_18, e_X12_readNumber_19, e_X12_readNumber_20, e_X12_readNumber_23, e_X12_readNumber_24, e_X12_readNumber_25, e_X12_readNumber_28, e_X12_readNumber_31, e_X12_readNumber_32, e_X12_readNumber_35, e_X12_readNumber_36, e_X12_readNumber_39, e_X12_readNumber_40, e_X12_readNumber_43, e_X12_readNumber_44, e_X12_readNumber_45, e_X12_readNumber_48, e_X12_readNumber_49, e_X12_readNumber_52, e_X12_readNumber_54, e_X12_readNumber_55, e_X12_readNumber_58, e_X12_readNumber_60, g_12_81_11, g_12_88_11, c1, b1, c2, d1]
theorem md_stop (hM : xMB X h S nm A) (hT : mOk c (A 7) t) (hP : mPS S nm c t s) (hok : pOk c t s) : mRun X A c t S h m_X12_readStop [.ref 169] none (endP c t s) := by
  have h4 := hok.2.2.2.2.1
  have hc := hM.1
  rw [hP.2.2.2.1] at hc
  unfold endP
  by_cases k1 : s.1 = 3
  · have e1 : nI s.1 = nI 3 := by rw [k1]
    rw [if_pos k1]
    obtain ⟨h1, S1, nm1, a1, a2, a3, a4, a5⟩ := md_must1 hM hP hok (nI 1)
    have c1 := a2.1
    obtain ⟨h3, S3, nm3, d1, d2, d3, d4, d5⟩ := md_goesOn a2 hT a3 hok
    exact ⟨h3, S3, nm3, by simp (disch := first | exact xnl_i _ | exact xnl_r _ | exact xnl_u _ | exact xnl_n | exact zI_2 | exact zI_24 | assumption | omega | (simp only [xset_len]; omega)) only [↓reduceIte, xbd_s, xpv_n, xpv_s, e_X12_readStop_0, e_X12_readStop_1, e_X12_readStop_2, e_X12_readStop_5, e_X12_readStop_6, e_X12_readStop_9, e_X12_readStop_10, e_X12_readStop_13, e_X12_readStop_14, e_X12_readStop_15, c_X12_readStop_97_11_0, c_X12_readStop_101_11_0, e_X12_readStop_18, e_X12_readStop_19, e_X12_readStop_22, g_12_81_11, hc, if_pos e1, a1, c1, d1], d2, d3, kq_tr a4 d4, xFr_tr a5 d5⟩
  · have e1 : ¬ nI s.1 = nI 3 := by rw [nI_inj (by omega) (by omega)]; exact k1
    rw [if_neg k1]
    obtain ⟨h1, S1, nm1, a1, a2, a3, a4, a5⟩ := md_must0 hM hP hok 1
    have c1 := a2.1
    have nf : ¬ pFl (failP 1 s) = 0 := by
      intro e
      by_cases k : pFl s = 0
      · unfold failP at e
        rw [if_pos k] at e
        exact absurd (show 1 = 0 from e) (by decide)
      · rw [failP_n k] at e
        exact k e
    obtain ⟨h3, S3, nm3, d1, d2, d3, d4, d5⟩ := md_goesOn a2 hT a3 (failP_ok hok (by omega))
    rw [advP_n nf] at d3
    exact ⟨h3, S3, nm3, by simp (disch := first | exact xnl_i _ | exact xnl_r _ | exact xnl_u _ | exact xnl_n | exact zI_2 | exact zI_24 | assumption | omega | (simp only [xset_len]; omega)) only [↓reduceIte, xbd_s, xpv_n, xpv_s, e_X12_readStop_0, e_X12_readStop_1, e_X12_readStop_2, e_X12_readStop_5, e_X12_readStop_6, e_X12_readStop_9, e_X12_readStop_10, e_X12_readStop_13, e_X12_readStop_14, e_X12_readStop_15, c_X12_readStop_97_11_0, c_X12_readStop_101_11_0, e_X12_readStop_18, e_X12_readStop_19, e_X12_readStop_22, g_12_81_11, hc, if_neg e1, a1, c1, d1], d2, d3, kq_tr a4 d4, xFr_tr a5 d5⟩
theorem wl_open : wL wOpen = 1869636974 := by decide
theorem wl_window : wL wWindow = 131294707347319 := by decide
theorem wl_hearth : wL wHearth = 114784635876456 := by decide
theorem wl_corner : wL wCorner = 109330312357234 := by decide
theorem wl_glass : wL wGlass = 444199957363 := by decide
theorem wl_spot : wL wSpot = 1936748404 := by decide
theorem wl_reader : wL wReader = 125779751232882 := by decide
theorem md_sort (hM : xMB X h S nm A) (hP : mPS S nm c t s) (hok : pOk c t s) : xR X m_X12_sortNow 0 [.ref 169] [] h = some (some (.int (if kindN c s = 0 then -1000000 else nI (kindN c s))), h) := by
  have hc := hM.1
  have q3 := md_isName hM hP hok (w := wOpen) (by decide)
  have q4 := md_isName hM hP hok (w := wWindow) (by decide)
  have q5 := md_isName hM hP hok (w := wHearth) (by decide)
  have q6 := md_isName hM hP hok (w := wCorner) (by decide)
  have q7 := md_isName hM hP hok (w := wGlass) (by decide)
  rw [wl_open] at q3
  rw [wl_window] at q4
  rw [wl_hearth] at q5
  rw [wl_corner] at q6
  rw [wl_glass] at q7
  unfold kindN
  by_cases k3 : wB c wOpen s = true
  · rw [if_pos k3] at q3 ⊢
    rw [if_neg (by omega)]
    simp (disch := first | exact xnl_i _ | exact xnl_r _ | exact xnl_u _ | exact xnl_n | exact zI_2 | exact zI_24 | assumption | omega | (simp only [xset_len]; omega)) only [↓reduceIte, xbd_s, xpv_n, xpv_s, e_X12_sortNow_0, e_X12_sortNow_1, e_X12_sortNow_4, c_X12_sortNow_106_11_0, e_X12_sortNow_7, e_X12_sortNow_10, e_X12_sortNow_11, e_X12_sortNow_14, e_X12_sortNow_15, e_X12_sortNow_18, e_X12_sortNow_21, e_X12_sortNow_24, e_X12_sortNow_25, e_X12_sortNow_28, e_X12_sortNow_29, e_X12_sortNow_32, e_X12_sortNow_35, e_X12_sortNow_38, e_X12_sortNow_39, e_X12_sortNow_42, e_X12_sortNow_43, e_X12_sortNow_46, e_X12_sortNow_49, e_X12_sortNow_52, e_X12_sortNow_53, e_X12_sortNow_56, e_X12_sortNow_57, e_X12_sortNow_60, e_X12_sortNow_63, e_X12_sortNow_66, e_X12_sortNow_67, e_X12_sortNow_70, e_X12_sortNow_72, hc, q3, zI_1]
  rw [if_neg k3] at q3 ⊢
  by_cases k4 : wB c wWindow s = true
  · rw [if_pos k4] at q4 ⊢
    rw [if_neg (by omega)]
    simp (disch := first | exact xnl_i _ | exact xnl_r _ | exact xnl_u _ | exact xnl_n | exact zI_2 | exact zI_24 | assumption | omega | (simp only [xset_len]; omega)) only [↓reduceIte, xbd_s, xpv_n, xpv_s, e_X12_sortNow_0, e_X12_sortNow_1, e_X12_sortNow_4, c_X12_sortNow_106_11_0, e_X12_sortNow_7, e_X12_sortNow_10, e_X12_sortNow_11, e_X12_sortNow_14, e_X12_sortNow_15, e_X12_sortNow_18, e_X12_sortNow_21, e_X12_sortNow_24, e_X12_sortNow_25, e_X12_sortNow_28, e_X12_sortNow_29, e_X12_sortNow_32, e_X12_sortNow_35, e_X12_sortNow_38, e_X12_sortNow_39, e_X12_sortNow_42, e_X12_sortNow_43, e_X12_sortNow_46, e_X12_sortNow_49, e_X12_sortNow_52, e_X12_sortNow_53, e_X12_sortNow_56, e_X12_sortNow_57, e_X12_sortNow_60, e_X12_sortNow_63, e_X12_sortNow_66, e_X12_sortNow_67, e_X12_sortNow_70, e_X12_sortNow_72, hc, q3, q4, if_pos z0, zI_1]
  rw [if_neg k4] at q4 ⊢
  by_cases k5 : wB c wHearth s = true
  · rw [if_pos k5] at q5 ⊢
    rw [if_neg (by omega)]
    simp (disch := first | exact xnl_i _ | exact xnl_r _ | exact xnl_u _ | exact xnl_n | exact zI_2 | exact zI_24 | assumption | omega | (simp only [xset_len]; omega)) only [↓reduceIte, xbd_s, xpv_n, xpv_s, e_X12_sortNow_0, e_X12_sortNow_1, e_X12_sortNow_4, c_X12_sortNow_106_11_0, e_X12_sortNow_7, e_X12_sortNow_10, e_X12_sortNow_11, e_X12_sortNow_14, e_X12_sortNow_15, e_X12_sortNow_18, e_X12_sortNow_21, e_X12_sortNow_24, e_X12_sortNow_25, e_X12_sortNow_28, e_X12_sortNow_29, e_X12_sortNow_32, e_X12_sortNow_35, e_X12_sortNow_38, e_X12_sortNow_39, e_X12_sortNow_42, e_X12_sortNow_43, e_X12_sortNow_46, e_X12_sortNow_49, e_X12_sortNow_52, e_X12_sortNow_53, e_X12_sortNow_56, e_X12_sortNow_57, e_X12_sortNow_60, e_X12_sortNow_63, e_X12_sortNow_66, e_X12_sortNow_67, e_X12_sortNow_70, e_X12_sortNow_72, hc, q3, q4, q5, if_pos z0, zI_1]
  rw [if_neg k5] at q5 ⊢
  by_cases k6 : wB c wCorner s = true
  · rw [if_pos k6] at q6 ⊢
    rw [if_neg (by omega)]
    simp (disch := first | exact xnl_i _ | exact xnl_r _ | exact xnl_u _ | exact xnl_n | exact zI_2 | exact zI_24 | assumption | omega | (simp only [xset_len]; omega)) only [↓reduceIte, xbd_s, xpv_n, xpv_s, e_X12_sortNow_0, e_X12_sortNow_1, e_X12_sortNow_4, c_X12_sortNow_106_11_0, e_X12_sortNow_7, e_X12_sortNow_10, e_X12_sortNow_11, e_X12_sortNow_14, e_X12_sortNow_15, e_X12_sortNow_18, e_X12_sortNow_21, e_X12_sortNow_24, e_X12_sortNow_25, e_X12_sortNow_28, e_X12_sortNow_29, e_X12_sortNow_32, e_X12_sortNow_35, e_X12_sortNow_38, e_X12_sortNow_39, e_X12_sortNow_42, e_X12_sortNow_43, e_X12_sortNow_46, e_X12_sortNow_49, e_X12_sortNow_52, e_X12_sortNow_53, e_X12_sortNow_56, e_X12_sortNow_57, e_X12_sortNow_60, e_X12_sortNow_63, e_X12_sortNow_66, e_X12_sortNow_67, e_X12_sortNow_70, e_X12_sortNow_72, hc, q3, q4, q5, q6, if_pos z0, zI_1]
  rw [if_neg k6] at q6 ⊢
  by_cases k7 : wB c wGlass s = true
  · rw [if_pos k7] at q7 ⊢
    rw [if_neg (by omega)]
    simp (disch := first | exact xnl_i _ | exact xnl_r _ | exact xnl_u _ | exact xnl_n | exact zI_2 | exact zI_24 | assumption | omega | (simp only [xset_len]; omega)) only [↓reduceIte, xbd_s, xpv_n, xpv_s, e_X12_sortNow_0, e_X12_sortNow_1, e_X12_sortNow_4, c_X12_sortNow_106_11_0, e_X12_sortNow_7, e_X12_sortNow_10, e_X12_sortNow_11, e_X12_sortNow_14, e_X12_sortNow_15, e_X12_sortNow_18, e_X12_sortNow_21, e_X12_sortNow_24, e_X12_sortNow_25, e_X12_sortNow_28, e_X12_sortNow_29, e_X12_sortNow_32, e_X12_sortNow_35, e_X12_sortNow_38, e_X12_sortNow_39, e_X12_sortNow_42, e_X12_sortNow_43, e_X12_sortNow_46, e_X12_sortNow_49, e_X12_sortNow_52, e_X12_sortNow_53, e_X12_sortNow_56, e_X12_sortNow_57, e_X12_sortNow_60, e_X12_sortNow_63, e_X12_sortNow_66, e_X12_sortNow_67, e_X12_sortNow_70, e_X12_sortNow_72, hc, q3, q4, q5, q6, q7, if_pos z0, zI_1]
  · rw [if_neg k7] at q7 ⊢
    rw [if_pos rfl]
    simp (disch := first | exact xnl_i _ | exact xnl_r _ | exact xnl_u _ | exact xnl_n | exact zI_2 | exact zI_24 | assumption | omega | (simp only [xset_len]; omega)) only [↓reduceIte, xbd_s, xpv_n, xpv_s, e_X12_sortNow_0, e_X12_sortNow_1, e_X12_sortNow_4, c_X12_sortNow_106_11_0, e_X12_sortNow_7, e_X12_sortNow_10, e_X12_sortNow_11, e_X12_sortNow_14, e_X12_sortNow_15, e_X12_sortNow_18, e_X12_sortNow_21, e_X12_sortNow_24, e_X12_sortNow_25, e_X12_sortNow_28, e_X12_sortNow_29, e_X12_sortNow_32, e_X12_sortNow_35, e_X12_sortNow_38, e_X12_sortNow_39, e_X12_sortNow_42, e_X12_sortNow_43, e_X12_sortNow_46, e_X12_sortNow_49, e_X12_sortNow_52, e_X12_sortNow_53, e_X12_sortNow_56, e_X12_sortNow_57, e_X12_sortNow_60, e_X12_sortNow_63, e_X12_sortNow_66, e_X12_sortNow_67, e_X12_sortNow_70, e_X12_sortNow_72, hc, q3, q4, q5, q6, q7, if_pos z0]
end XMD1
