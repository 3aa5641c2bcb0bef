/-! READING, the class: all spots, all readers, the whole TEXT -/
section XRE
variable {X : xS} {h : xH} {r t : Nat} {tp : Nat → Int32} {c : Nat → Nat} {s : pT} {n m : Nat} {f : Nat → Int32}
theorem xRK_n (H : xRK X h r t tp s n m f) : n ≤ 7 ∧ m ≤ 4 ∧ h.length + 16 = r + 10 + n := by
  obtain ⟨g, so, dr, d, k, a, u, v, k1, k2, k3, k4, k5, k6, k7, k8⟩ := H
  exact ⟨k2.2.2.2.2.1, k2.2.2.2.2.2, k6⟩
theorem spP_ok {y : pD} (hok : pOk c t y.1) : pOk c t (spP c t y).1 := by
  unfold spP
  split
  · exact sp5_ok hok
  · exact sp5_ok hok
theorem spL_ok : ∀ k (y : pD), pOk c t y.1 → pOk c t (spL c t k y).1 := by
  intro k
  induction k with
  | zero => intro y h; exact h
  | succ k ih =>
    intro y h
    unfold spL
    split
    · split
      · exact failP_ok h (by omega)
      · exact ih _ (spP_ok (advP_ok h))
    · exact h
theorem spP_n {y : pD} : (pFl (spP c t y).1 = 0 → (spP c t y).2.1 = y.2.1 + 1) := by
  unfold spP
  split
  · intro _; rfl
  · intro e
    rename_i g
    exact absurd e g
theorem rd_readSpots (hT : tOk c tp t) : ∀ fu i s n f h, i + fu = 8 → (pFl s = 0 → i = n) → xRK X h r t tp s n m f → pOk c t s → ∃ h', xR X m_X7_readSpots 16 [.ref r, .int (nI i)] [] h = some (none, h') ∧ xRK X h' r t tp (spL c t fu (s, n, f)).1 (spL c t fu (s, n, f)).2.1 m (spL c t fu (s, n, f)).2.2 ∧ xGr X (geR r) h h' := by
  intro fu
  induction fu with
  | zero =>
    intro i s n f h hi hn H hok
    have D := xRK_D H
    have hr := D.2.2
    have e1 : nI 7 < nI i := nI_lt (by omega) (by omega)
    exact ⟨h, by rw [e_X7_readSpots_16]; simp (disch := first | exact xnl_i _ | exact xnl_r _ | exact xnl_u _ | exact xnl_n | exact zI_2 | exact zI_24 | assumption | omega | (simp only [xset_len]; omega)) only [↓reduceIte, xbd_s, xpv_n, xpv_s, e_X7_readSpots_0, e_X7_readSpots_1, e_X7_readSpots_3, c_X7_readSpots_62_6_0, c_X7_readSpots_53_6_0, c_X7_readSpots_41_6_0, c_X7_readSpots_66_6_0, e_X7_readSpots_6, e_X7_readSpots_9, e_X7_readSpots_10, e_X7_readSpots_11, e_X7_readSpots_14, e_X7_readSpots_15, e_X7_readSpots_17, e_X7_readSpots_19, e_X7_readSpots_22, e_X7_readSpots_23, e_X7_readSpots_26, e_X7_readSpots_29, e_X7_readSpots_30, e_X7_readSpots_32, e_X7_readSpots_35, e_X7_readSpots_38, e_X7_readSpots_39, e_X7_readSpots_41, e_X7_readSpots_44, e_X7_readSpots_45, e_X7_readSpots_46, e_X7_readSpots_49, e_X7_readSpots_52, e_X7_readSpots_53, e_X7_readSpots_56, e_X7_readSpots_57, e_X7_readSpots_58, e_X7_readSpots_61, e_X7_readSpots_64, e_X7_readSpots_67, g_7_57_6, if_pos e1], H, xGr_fr (A := geR r) xFr_rfl⟩
  | succ fu ih =>
    intro i s n f h hi hn H hok
    have D := xRK_D H
    have hr := D.2.2
    have c0 := D.1
    have e1 : ¬ nI 7 < nI i := nI_nlt (by omega) (by omega)
    obtain ⟨z1, z2⟩ := nI_fl hok.2.2.2.2.2
    have q := rd_word hT D hok (a := 1) (w := wSpot) (by omega) rfl (by decide)
    unfold spL
    dsimp only
    by_cases k0 : pFl s = 0
    · have z3 := z1 k0
      have hin := hn k0
      subst hin
      by_cases k1 : wB c wSpot s = true
      · rw [if_pos k1] at q
        rw [if_pos ⟨k0, k1⟩]
        by_cases k2 : i = 7
        · rw [if_pos k2]
          have e2 : nI i = nI 7 := by rw [k2]
          obtain ⟨h1, a1, a2, a3⟩ := rd_fail D 3 hok.2.2.2.2.2
          have e3 : nI 7 < nI (i + 1) := nI_lt (by omega) (by omega)
          refine ⟨h1, ?_, xRK_s H a2 a3, inR_ge a3⟩
          rw [e_X7_readSpots_16]
          simp (disch := first | exact xnl_i _ | exact xnl_r _ | exact xnl_u _ | exact xnl_n | exact zI_2 | exact zI_24 | assumption | omega | (simp only [xset_len]; omega)) only [↓reduceIte, xbd_s, xpv_n, xpv_s, e_X7_readSpots_0, e_X7_readSpots_1, e_X7_readSpots_3, c_X7_readSpots_62_6_0, c_X7_readSpots_53_6_0, c_X7_readSpots_41_6_0, c_X7_readSpots_66_6_0, e_X7_readSpots_6, e_X7_readSpots_9, e_X7_readSpots_10, e_X7_readSpots_11, e_X7_readSpots_14, e_X7_readSpots_15, e_X7_readSpots_17, e_X7_readSpots_19, e_X7_readSpots_22, e_X7_readSpots_23, e_X7_readSpots_26, e_X7_readSpots_29, e_X7_readSpots_30, e_X7_readSpots_32, e_X7_readSpots_35, e_X7_readSpots_38, e_X7_readSpots_39, e_X7_readSpots_41, e_X7_readSpots_44, e_X7_readSpots_45, e_X7_readSpots_46, e_X7_readSpots_49, e_X7_readSpots_52, e_X7_readSpots_53, e_X7_readSpots_56, e_X7_readSpots_57, e_X7_readSpots_58, e_X7_readSpots_61, e_X7_readSpots_64, e_X7_readSpots_67, g_7_57_6, if_neg e1, c0, if_pos z3, q, zI_1, if_pos e2, a1, nI_inc]
          rw [e_X7_readSpots_16]
          simp (disch := first | exact xnl_i _ | exact xnl_r _ | exact xnl_u _ | exact xnl_n | exact zI_2 | exact zI_24 | assumption | omega | (simp only [xset_len]; omega)) only [↓reduceIte, xbd_s, xpv_n, xpv_s, e_X7_readSpots_0, e_X7_readSpots_1, e_X7_readSpots_3, c_X7_readSpots_62_6_0, c_X7_readSpots_53_6_0, c_X7_readSpots_41_6_0, c_X7_readSpots_66_6_0, e_X7_readSpots_6, e_X7_readSpots_9, e_X7_readSpots_10, e_X7_readSpots_11, e_X7_readSpots_14, e_X7_readSpots_15, e_X7_readSpots_17, e_X7_readSpots_19, e_X7_readSpots_22, e_X7_readSpots_23, e_X7_readSpots_26, e_X7_readSpots_29, e_X7_readSpots_30, e_X7_readSpots_32, e_X7_readSpots_35, e_X7_readSpots_38, e_X7_readSpots_39, e_X7_readSpots_41, e_X7_readSpots_44, e_X7_readSpots_45, e_X7_readSpots_46, e_X7_readSpots_49, e_X7_readSpots_52, e_X7_readSpots_53, e_X7_readSpots_56, e_X7_readSpots_57, e_X7_readSpots_58, e_X7_readSpots_61, e_X7_readSpots_64, e_X7_readSpots_67, g_7_57_6, if_pos e3]
        · rw [if_neg k2]
          have hi7 : i < 7 := by omega
          have e2 : ¬ nI i = nI 7 := by
            rw [xeq_i, nI_toInt (by omega), nI_toInt (by omega)]
            omega
          obtain ⟨h1, a1, a2, a3⟩ := rd_advance hT D hok
          have K1 := xRK_s H a2 a3
          obtain ⟨h2, n', f', b1, b2, b3, b4, b5, b6⟩ := rd_readSpot hT K1 (advP_ok hok) hi7
          have hn' : pFl (sp5 c t (advP c t s)) = 0 → i + 1 = n' := by
            intro e
            have := spP_n (c := c) (t := t) (y := (advP c t s, i, f))
            rw [b2] at this
            exact (this e).symm
          obtain ⟨h3, d1, d2, d3⟩ := ih (i + 1) _ n' f' h2 (by omega) hn' b3 (sp5_ok (advP_ok hok))
          rw [b2]
          refine ⟨h3, ?_, d2, xGr_tr (xGr_tr (inR_ge a3) b4) d3⟩
          have c1 := a2.1
          rw [e_X7_readSpots_16]
          simp (disch := first | exact xnl_i _ | exact xnl_r _ | exact xnl_u _ | exact xnl_n | exact zI_2 | exact zI_24 | assumption | omega | (simp only [xset_len]; omega)) only [↓reduceIte, xbd_s, xpv_n, xpv_s, e_X7_readSpots_0, e_X7_readSpots_1, e_X7_readSpots_3, c_X7_readSpots_62_6_0, c_X7_readSpots_53_6_0, c_X7_readSpots_41_6_0, c_X7_readSpots_66_6_0, e_X7_readSpots_6, e_X7_readSpots_9, e_X7_readSpots_10, e_X7_readSpots_11, e_X7_readSpots_14, e_X7_readSpots_15, e_X7_readSpots_17, e_X7_readSpots_19, e_X7_readSpots_22, e_X7_readSpots_23, e_X7_readSpots_26, e_X7_readSpots_29, e_X7_readSpots_30, e_X7_readSpots_32, e_X7_readSpots_35, e_X7_readSpots_38, e_X7_readSpots_39, e_X7_readSpots_41, e_X7_readSpots_44, e_X7_readSpots_45, e_X7_readSpots_46, e_X7_readSpots_49, e_X7_readSpots_52, e_X7_readSpots_53, e_X7_readSpots_56, e_X7_readSpots_57, e_X7_readSpots_58, e_X7_readSpots_61, e_X7_readSpots_64, e_X7_readSpots_67, g_7_57_6, if_neg e1, c0, if_pos z3, q, zI_1, if_neg e2, a1, c1, b1, nI_inc]
          exact d1
      · rw [if_neg k1] at q
        rw [if_neg (fun e => k1 e.2)]
        refine ⟨h, ?_, H, xGr_fr (A := geR r) xFr_rfl⟩
        rw [e_X7_readSpots_16]
        simp (disch := first | exact xnl_i _ | exact xnl_r _ | exact xnl_u _ | exact xnl_n | exact zI_2 | exact zI_24 | assumption | omega | (simp only [xset_len]; omega)) only [↓reduceIte, xbd_s, xpv_n, xpv_s, e_X7_readSpots_0, e_X7_readSpots_1, e_X7_readSpots_3, c_X7_readSpots_62_6_0, c_X7_readSpots_53_6_0, c_X7_readSpots_41_6_0, c_X7_readSpots_66_6_0, e_X7_readSpots_6, e_X7_readSpots_9, e_X7_readSpots_10, e_X7_readSpots_11, e_X7_readSpots_14, e_X7_readSpots_15, e_X7_readSpots_17, e_X7_readSpots_19, e_X7_readSpots_22, e_X7_readSpots_23, e_X7_readSpots_26, e_X7_readSpots_29, e_X7_readSpots_30, e_X7_readSpots_32, e_X7_readSpots_35, e_X7_readSpots_38, e_X7_readSpots_39, e_X7_readSpots_41, e_X7_readSpots_44, e_X7_readSpots_45, e_X7_readSpots_46, e_X7_readSpots_49, e_X7_readSpots_52, e_X7_readSpots_53, e_X7_readSpots_56, e_X7_readSpots_57, e_X7_readSpots_58, e_X7_readSpots_61, e_X7_readSpots_64, e_X7_readSpots_67, g_7_57_6, if_neg e1, c0, if_pos z3, q, if_pos z0]
    · have z3 := z2 k0
      rw [if_neg (fun e => k0 e.1)]
      refine ⟨h, ?_, H, xGr_fr (A := geR r) xFr_rfl⟩
      rw [e_X7_readSpots_16]
      simp (disch := first | exact xnl_i _ | exact xnl_r _ | exact xnl_u _ | exact xnl_n | exact zI_2 | exact zI_24 | assumption | omega | (simp only [xset_len]; omega)) only [↓reduceIte, xbd_s, xpv_n, xpv_s, e_X7_readSpots_0, e_X7_readSpots_1, e_X7_readSpots_3, c_X7_readSpots_62_6_0, c_X7_readSpots_53_6_0, c_X7_readSpots_41_6_0, c_X7_readSpots_66_6_0, e_X7_readSpots_6, e_X7_readSpots_9, e_X7_readSpots_10, e_X7_readSpots_11, e_X7_readSpots_14, e_X7_readSpots_15, e_X7_readSpots_17, e_X7_readSpots_19, e_X7_readSpots_22, e_X7_readSpots_23, e_X7_readSpots_26, e_X7_readSpots_29, e_X7_readSpots_30, e_X7_readSpots_32, e_X7_readSpots_35, e_X7_readSpots_38, e_X7_readSpots_39, e_X7_readSpots_41, e_X7_readSpots_44, e_X7_readSpots_45, e_X7_readSpots_46, e_X7_readSpots_49, e_X7_readSpots_52, e_X7_readSpots_53, e_X7_readSpots_56, e_X7_readSpots_57, e_X7_readSpots_58, e_X7_readSpots_61, e_X7_readSpots_64, e_X7_readSpots_67, g_7_57_6, if_neg e1, c0, if_neg z3]
theorem rd_readReader (hT : tOk c tp t) (H : xRK X h r t tp s n m f) (hok : pOk c t s) (hm : m < 4) : ∃ h' m' f', xR X m_X7_readReader 0 [.ref r, xU, xU] [] h = some (none, h') ∧ rdP1 c t (s, m, f) = (rd3 c t s, m', f') ∧ xRK X h' r t tp (rd3 c t s) n m' f' ∧ xGr X (geR r) h h' := by
  have D0 := xRK_D H
  have hr := D0.2.2
  have o1 : pOk c t (rd1 c t s) := numP_ok hok
  have o2 : pOk c t (rd2 c t s) := numP_ok o1
  have o3 : pOk c t (rd3 c t s) := endP_ok o2
  have hv := numV_lt hok
  obtain ⟨h1, a1, a2, a3⟩ := rd_number hT D0 hok (lo := 0) (hi := 23) (by omega) (by omega)
  obtain ⟨h2, b1, b2, b3⟩ := rd_number hT (s := rd1 c t s) a2 o1 (lo := numV c s) (hi := 23) hv (by omega)
  obtain ⟨h3, c1, c2, c3⟩ := rd_end hT (s := rd2 c t s) b2 o2
  have F3 := xFr_tr (xFr_tr a3 b3) c3
  have K3 : xRK X h3 r t tp (rd3 c t s) n m f := xRK_s H c2 F3
  have g0 := D0.1
  have g1 := a2.1
  have g2 := b2.1
  have g3 : xget X h3 r = _ := (xRK_D K3).1
  have P3 : xR X m_X7_readReader 0 [.ref r, xU, xU] [] h = xR X m_X7_readReader 20 [.ref r, .int (nI (numV c s)), .int (nI (numV c (rd1 c t s)))] [] h3 := by
    simp (disch := first | exact xnl_i _ | exact xnl_r _ | exact xnl_u _ | exact xnl_n | exact zI_2 | exact zI_24 | assumption | omega | (simp only [xset_len]; omega)) only [↓reduceIte, xbd_s, xpv_n, xpv_s, e_X7_readReader_0, e_X7_readReader_1, e_X7_readReader_2, e_X7_readReader_4, c_X7_readReader_73_6_0, c_X7_readReader_76_6_0, c_X7_readReader_102_5_0, e_X7_readReader_7, e_X7_readReader_8, e_X7_readReader_9, e_X7_readReader_10, e_X7_readReader_12, e_X7_readReader_15, e_X7_readReader_16, e_X7_readReader_17, e_X7_readReader_21, e_X7_readReader_24, e_X7_readReader_27, e_X7_readReader_28, e_X7_readReader_31, e_X7_readReader_32, e_X7_readReader_33, e_X7_readReader_36, g_7_28_6, g_7_57_6, g0, g1, g2, a1, b1, c1]
  unfold rdP1
  dsimp only
  obtain ⟨z1, z2⟩ := nI_fl o3.2.2.2.2.2
  by_cases k0 : pFl (rd3 c t s) = 0
  · rw [if_pos k0]
    have z3 := z1 k0
    obtain ⟨g, so, dr, d, k, a, u, v, k1, k2, k3, k4, k5, k6, k7, k8⟩ := K3
    have ad := r_addReader k2 ⟨by omega, by omega, by omega, by omega, by omega, by omega⟩ hm (nI (numV c s)) (nI (numV c (rd1 c t s)))
    have ex : ∃ h7 : xH, h7 = xset (xset (xset h3 (r + 3) (.inr ((0, 4), .inl (upd u m (nI (numV c s)))))) (r + 4) (.inr ((0, 4), .inl (upd v m (nI (numV c (rd1 c t s))))))) (r + 1) (.inl (5, [.ref (r + 2), .int (nI n), .ref (r + 3), .ref (r + 4), .int (nI (m + 1))])) := ⟨_, rfl⟩
    obtain ⟨h7, hh7⟩ := ex
    rw [← hh7] at ad
    have F7 : xFr X (fun c => c = r + 1 ∨ c = r + 3 ∨ c = r + 4) h3 h7 := by
      rw [hh7]
      exact xFr_tr (xFr_tr (xFr_set (by omega) (Or.inr (Or.inl rfl))) (xFr_set (by omega) (Or.inr (Or.inr rfl)))) (xFr_set (by omega) (Or.inl rfl))
    have lv1 := xg_live (by omega) k2.1
    have lv3 := xg_live (by omega) k2.2.2.1
    have lv4 := xg_live (by omega) k2.2.2.2.1
    have P7 : xPB X h7 (r + 1) n (m + 1) (r + 2) (r + 3) (r + 4) g (upd u m (nI (numV c s))) (upd v m (nI (numV c (rd1 c t s)))) := by
      obtain ⟨x0, x1, x2, x3, x4, x5⟩ := k2
      refine ⟨?_, (F7.2 _ (by omega)).trans x1, ?_, ?_, x4, by omega⟩
      · rw [hh7]; exact xg_same (by omega) (by rw [xset_len, xset_len]; omega)
      · rw [hh7, xg_ne (by omega) (by omega), xg_ne (by omega) (by omega)]; exact xg_same (by omega) (by omega)
      · rw [hh7, xg_ne (by omega) (by omega)]; exact xg_same (by omega) (by rw [xset_len]; omega)
    refine ⟨h7, m + 1, _, ?_, rfl, ⟨g, so, dr, d, k, a, _, _, ⟨(F7.2 _ (by omega)).trans k1.1, (F7.2 _ (by omega)).trans k1.2.1, k1.2.2⟩, P7, ?_, xLB_fr k4 F7 (fun c e1 e2 => by have := e1.1; omega), k5, by rw [F7.1]; exact k6, pR_reader k7 hm, ?_⟩, ?_⟩
    · refine P3.trans ?_
      have x0 := k2.1
      have r5 := k1.1
      simp (disch := first | exact xnl_i _ | exact xnl_r _ | exact xnl_u _ | exact xnl_n | exact zI_2 | exact zI_24 | assumption | omega | (simp only [xset_len]; omega)) only [↓reduceIte, xbd_s, xpv_n, xpv_s, e_X7_readReader_0, e_X7_readReader_1, e_X7_readReader_2, e_X7_readReader_4, c_X7_readReader_73_6_0, c_X7_readReader_76_6_0, c_X7_readReader_102_5_0, e_X7_readReader_7, e_X7_readReader_8, e_X7_readReader_9, e_X7_readReader_10, e_X7_readReader_12, e_X7_readReader_15, e_X7_readReader_16, e_X7_readReader_17, e_X7_readReader_20, e_X7_readReader_21, e_X7_readReader_24, e_X7_readReader_27, e_X7_readReader_28, e_X7_readReader_31, e_X7_readReader_32, e_X7_readReader_33, e_X7_readReader_36, g_7_28_6, g_7_57_6, r5, if_pos z3, x0, ad]
    · intro j hj
      obtain ⟨q, ci', w1, w2, w3⟩ := k3 j hj
      have hq : q = r + 10 + j := by
        rw [k5 j hj] at w1
        cases w1
        rfl
      exact ⟨q, ci', w1, (F7.2 _ (by omega)).trans w2, w3⟩
    · intro j hj
      show dRd f m _ _ (47 + j) = 0
      unfold dRd
      rw [upd_ne (by omega), upd_ne (by omega), upd_ne (by omega)]
      exact k8 j hj
    · exact xGr_tr (inR_ge F3) (xGr_mo (xGr_fr F7) (fun c _ e => by unfold geR; omega))
  · rw [if_neg k0]
    have z3 := z2 k0
    refine ⟨h3, m, f, ?_, rfl, K3, inR_ge F3⟩
    refine P3.trans ?_
    simp (disch := first | exact xnl_i _ | exact xnl_r _ | exact xnl_u _ | exact xnl_n | exact zI_2 | exact zI_24 | assumption | omega | (simp only [xset_len]; omega)) only [↓reduceIte, xbd_s, xpv_n, xpv_s, e_X7_readReader_0, e_X7_readReader_1, e_X7_readReader_2, e_X7_readReader_4, c_X7_readReader_73_6_0, c_X7_readReader_76_6_0, c_X7_readReader_102_5_0, e_X7_readReader_7, e_X7_readReader_8, e_X7_readReader_9, e_X7_readReader_10, e_X7_readReader_12, e_X7_readReader_15, e_X7_readReader_16, e_X7_readReader_17, e_X7_readReader_20, e_X7_readReader_21, e_X7_readReader_24, e_X7_readReader_27, e_X7_readReader_28, e_X7_readReader_31, e_X7_readReader_32, e_X7_readReader_33, e_X7_readReader_36, g_7_28_6, g_7_57_6, g3, if_neg z3]
theorem rdP1_n {y : pD} : (pFl (rdP1 c t y).1 = 0 → (rdP1 c t y).2.1 = y.2.1 + 1) := by
  unfold rdP1
  split
  · intro _; rfl
  · intro e
    rename_i g
    exact absurd e g
theorem rdL_ok : ∀ k (y : pD), pOk c t y.1 → pOk c t (rdL c t k y).1 := by
  intro k
  induction k with
  | zero => intro y h; exact h
  | succ k ih =>
    intro y h
    unfold rdL
    split
    · split
      · exact failP_ok h (by omega)
      · refine ih _ ?_
        unfold rdP1
        split
        · exact rd3_ok (advP_ok h)
        · exact rd3_ok (advP_ok h)
    · exact h
theorem rd_readReaders (hT : tOk c tp t) : ∀ fu i s m f h, i + fu = 5 → (pFl s = 0 → i = m) → xRK X h r t tp s n m f → pOk c t s → ∃ h', xR X m_X7_readReaders 2 [.ref r, .int (nI i)] [] h = some (none, h') ∧ xRK X h' r t tp (rdL c t fu (s, m, f)).1 n (rdL c t fu (s, m, f)).2.1 (rdL c t fu (s, m, f)).2.2 ∧ xGr X (geR r) h h' := by
  intro fu
  induction fu with
  | zero =>
    intro i s m f h hi hn H hok
    have D := xRK_D H
    have hr := D.2.2
    have e1 : nI 4 < nI i := nI_lt (by omega) (by omega)
    exact ⟨h, by rw [e_X7_readReaders_2]; simp (disch := first | exact xnl_i _ | exact xnl_r _ | exact xnl_u _ | exact xnl_n | exact zI_2 | exact zI_24 | assumption | omega | (simp only [xset_len]; omega)) only [↓reduceIte, xbd_s, xpv_n, xpv_s, e_X7_readReaders_0, e_X7_readReaders_1, e_X7_readReaders_3, e_X7_readReaders_4, e_X7_readReaders_7, e_X7_readReaders_8, e_X7_readReaders_11, e_X7_readReaders_14, e_X7_readReaders_15, e_X7_readReaders_17, c_X7_readReaders_62_6_0, c_X7_readReaders_53_6_0, c_X7_readReaders_41_6_0, c_X7_readReaders_99_6_0, e_X7_readReaders_20, e_X7_readReaders_23, e_X7_readReaders_24, e_X7_readReaders_25, e_X7_readReaders_28, e_X7_readReaders_29, e_X7_readReaders_30, e_X7_readReaders_33, e_X7_readReaders_36, e_X7_readReaders_37, e_X7_readReaders_40, e_X7_readReaders_41, e_X7_readReaders_44, e_X7_readReaders_47, e_X7_readReaders_50, g_7_57_6, if_pos e1], H, xGr_fr (A := geR r) xFr_rfl⟩
  | succ fu ih =>
    intro i s m f h hi hn H hok
    have D := xRK_D H
    have hr := D.2.2
    have c0 := D.1
    have e1 : ¬ nI 4 < nI i := nI_nlt (by omega) (by omega)
    obtain ⟨z1, z2⟩ := nI_fl hok.2.2.2.2.2
    have q := rd_word hT D hok (a := 2) (w := wReader) (by omega) rfl (by decide)
    unfold rdL
    dsimp only
    by_cases k0 : pFl s = 0
    · have z3 := z1 k0
      have hin := hn k0
      subst hin
      by_cases k1 : wB c wReader s = true
      · rw [if_pos k1] at q
        rw [if_pos ⟨k0, k1⟩]
        by_cases k2 : i = 4
        · rw [if_pos k2]
          have e2 : nI i = nI 4 := by rw [k2]
          obtain ⟨h1, a1, a2, a3⟩ := rd_fail D 3 hok.2.2.2.2.2
          have e3 : nI 4 < nI (i + 1) := nI_lt (by omega) (by omega)
          refine ⟨h1, ?_, xRK_s H a2 a3, inR_ge a3⟩
          rw [e_X7_readReaders_2]
          simp (disch := first | exact xnl_i _ | exact xnl_r _ | exact xnl_u _ | exact xnl_n | exact zI_2 | exact zI_24 | assumption | omega | (simp only [xset_len]; omega)) only [↓reduceIte, xbd_s, xpv_n, xpv_s, e_X7_readReaders_0, e_X7_readReaders_1, e_X7_readReaders_3, e_X7_readReaders_4, e_X7_readReaders_7, e_X7_readReaders_8, e_X7_readReaders_11, e_X7_readReaders_14, e_X7_readReaders_15, e_X7_readReaders_17, c_X7_readReaders_62_6_0, c_X7_readReaders_53_6_0, c_X7_readReaders_41_6_0, c_X7_readReaders_99_6_0, e_X7_readReaders_20, e_X7_readReaders_23, e_X7_readReaders_24, e_X7_readReaders_25, e_X7_readReaders_28, e_X7_readReaders_29, e_X7_readReaders_30, e_X7_readReaders_33, e_X7_readReaders_36, e_X7_readReaders_37, e_X7_readReaders_40, e_X7_readReaders_41, e_X7_readReaders_44, e_X7_readReaders_47, e_X7_readReaders_50, g_7_57_6, if_neg e1, c0, if_pos z3, q, zI_1, if_pos e2, a1, nI_inc]
          rw [e_X7_readReaders_2]
          simp (disch := first | exact xnl_i _ | exact xnl_r _ | exact xnl_u _ | exact xnl_n | exact zI_2 | exact zI_24 | assumption | omega | (simp only [xset_len]; omega)) only [↓reduceIte, xbd_s, xpv_n, xpv_s, e_X7_readReaders_0, e_X7_readReaders_1, e_X7_readReaders_3, e_X7_readReaders_4, e_X7_readReaders_7, e_X7_readReaders_8, e_X7_readReaders_11, e_X7_readReaders_14, e_X7_readReaders_15, e_X7_readReaders_17, c_X7_readReaders_62_6_0, c_X7_readReaders_53_6_0, c_X7_readReaders_41_6_0, c_X7_readReaders_99_6_0, e_X7_readReaders_20, e_X7_readReaders_23, e_X7_readReaders_24, e_X7_readReaders_25, e_X7_readReaders_28, e_X7_readReaders_29, e_X7_readReaders_30, e_X7_readReaders_33, e_X7_readReaders_36, e_X7_readReaders_37, e_X7_readReaders_40, e_X7_readReaders_41, e_X7_readReaders_44, e_X7_readReaders_47, e_X7_readReaders_50, g_7_57_6, if_pos e3]
        · rw [if_neg k2]
          have hi7 : i < 4 := by omega
          have e2 : ¬ nI i = nI 4 := by
            rw [xeq_i, nI_toInt (by omega), nI_toInt (by omega)]
            omega
          obtain ⟨h1, a1, a2, a3⟩ := rd_advance hT D hok
          have K1 := xRK_s H a2 a3
          obtain ⟨h2, m', f', b1, b2, b3, b4⟩ := rd_readReader hT K1 (advP_ok hok) hi7
          have hn' : pFl (rd3 c t (advP c t s)) = 0 → i + 1 = m' := by
            intro e
            have := rdP1_n (c := c) (t := t) (y := (advP c t s, i, f))
            rw [b2] at this
            exact (this e).symm
          obtain ⟨h3, d1, d2, d3⟩ := ih (i + 1) _ m' f' h2 (by omega) hn' b3 (rd3_ok (advP_ok hok))
          rw [b2]
          refine ⟨h3, ?_, d2, xGr_tr (xGr_tr (inR_ge a3) b4) d3⟩
          have c1 := a2.1
          rw [e_X7_readReaders_2]
          simp (disch := first | exact xnl_i _ | exact xnl_r _ | exact xnl_u _ | exact xnl_n | exact zI_2 | exact zI_24 | assumption | omega | (simp only [xset_len]; omega)) only [↓reduceIte, xbd_s, xpv_n, xpv_s, e_X7_readReaders_0, e_X7_readReaders_1, e_X7_readReaders_3, e_X7_readReaders_4, e_X7_readReaders_7, e_X7_readReaders_8, e_X7_readReaders_11, e_X7_readReaders_14, e_X7_readReaders_15, e_X7_readReaders_17, c_X7_readReaders_62_6_0, c_X7_readReaders_53_6_0, c_X7_readReaders_41_6_0, c_X7_readReaders_99_6_0, e_X7_readReaders_20, e_X7_readReaders_23, e_X7_readReaders_24, e_X7_readReaders_25, e_X7_readReaders_28, e_X7_readReaders_29, e_X7_readReaders_30, e_X7_readReaders_33, e_X7_readReaders_36, e_X7_readReaders_37, e_X7_readReaders_40, e_X7_readReaders_41, e_X7_readReaders_44, e_X7_readReaders_47, e_X7_readReaders_50, g_7_57_6, if_neg e1, c0, if_pos z3, q, zI_1, if_neg e2, a1, c1, b1, nI_inc]
          exact d1
      · rw [if_neg k1] at q
        rw [if_neg (fun e => k1 e.2)]
        refine ⟨h, ?_, H, xGr_fr (A := geR r) xFr_rfl⟩
        rw [e_X7_readReaders_2]
        simp (disch := first | exact xnl_i _ | exact xnl_r _ | exact xnl_u _ | exact xnl_n | exact zI_2 | exact zI_24 | assumption | omega | (simp only [xset_len]; omega)) only [↓reduceIte, xbd_s, xpv_n, xpv_s, e_X7_readReaders_0, e_X7_readReaders_1, e_X7_readReaders_3, e_X7_readReaders_4, e_X7_readReaders_7, e_X7_readReaders_8, e_X7_readReaders_11, e_X7_readReaders_14, e_X7_readReaders_15, e_X7_readReaders_17, c_X7_readReaders_62_6_0, c_X7_readReaders_53_6_0, c_X7_readReaders_41_6_0, c_X7_readReaders_99_6_0, e_X7_readReaders_20, e_X7_readReaders_23, e_X7_readReaders_24, e_X7_readReaders_25, e_X7_readReaders_28, e_X7_readReaders_29, e_X7_readReaders_30, e_X7_readReaders_33, e_X7_readReaders_36, e_X7_readReaders_37, e_X7_readReaders_40, e_X7_readReaders_41, e_X7_readReaders_44, e_X7_readReaders_47, e_X7_readReaders_50, g_7_57_6, if_neg e1, c0, if_pos z3, q, if_pos z0]
    · have z3 := z2 k0
      rw [if_neg (fun e => k0 e.1)]
      refine ⟨h, ?_, H, xGr_fr (A := geR r) xFr_rfl⟩
      rw [e_X7_readReaders_2]
      simp (disch := first | exact xnl_i _ | exact xnl_r _ | exact xnl_u _ | exact xnl_n | exact zI_2 | exact zI_24 | assumption | omega | (simp only [xset_len]; omega)) only [↓reduceIte, xbd_s, xpv_n, xpv_s, e_X7_readReaders_0, e_X7_readReaders_1, e_X7_readReaders_3, e_X7_readReaders_4, e_X7_readReaders_7, e_X7_readReaders_8, e_X7_readReaders_11, e_X7_readReaders_14, e_X7_readReaders_15, e_X7_readReaders_17, c_X7_readReaders_62_6_0, c_X7_readReaders_53_6_0, c_X7_readReaders_41_6_0, c_X7_readReaders_99_6_0, e_X7_readReaders_20, e_X7_readReaders_23, e_X7_readReaders_24, e_X7_readReaders_25, e_X7_readReaders_28, e_X7_readReaders_29, e_X7_readReaders_30, e_X7_readReaders_33, e_X7_readReaders_36, e_X7_readReaders_37, e_X7_readReaders_40, e_X7_readReaders_41, e_X7_readReaders_44, e_X7_readReaders_47, e_X7_readReaders_50, g_7_57_6, if_neg e1, c0, if_neg z3]
/-- the whole TEXT -/
noncomputable def tx1 (c : Nat → Nat) (t : Nat) : pT := if wB c wSpot (advF c t 0) = true then advF c t 0 else failP 1 (advF c t 0)
noncomputable def tx2 (c : Nat → Nat) (t : Nat) (f0 : Nat → Int32) : pD := spL c t 8 (tx1 c t, 0, f0)
noncomputable def tx3 (c : Nat → Nat) (t : Nat) (f0 : Nat → Int32) : pD := rdL c t 5 ((tx2 c t f0).1, 0, (tx2 c t f0).2.2)
noncomputable def tx4 (c : Nat → Nat) (t : Nat) (f0 : Nat → Int32) : pT := if (tx3 c t f0).1.1 = 0 then (tx3 c t f0).1 else failP 1 (tx3 c t f0).1
theorem tx1_ok (c : Nat → Nat) (t : Nat) : pOk c t (tx1 c t) := by
  unfold tx1
  split
  · exact advF_ok c t 0 (by omega)
  · exact failP_ok (advF_ok c t 0 (by omega)) (by omega)
theorem tx3_ok (c : Nat → Nat) (t : Nat) (f0 : Nat → Int32) : pOk c t (tx3 c t f0).1 := rdL_ok 5 _ (spL_ok 8 _ (tx1_ok c t))
theorem tx4_ok (c : Nat → Nat) (t : Nat) (f0 : Nat → Int32) : pOk c t (tx4 c t f0) := by
  unfold tx4
  split
  · exact tx3_ok c t f0
  · exact failP_ok (tx3_ok c t f0) (by omega)
theorem rd_isWhole (hT : tOk c tp t) {f0 : Nat → Int32} (H : xRK X h r t tp (0, 0, 0, 0) 0 0 f0) : ∃ h', xR X m_X7_isWhole 0 [.ref r] [] h = some (some (.int (if pFl (tx4 c t f0) = 0 then nI 1 else nI 0)), h') ∧ xRK X h' r t tp (tx4 c t f0) (tx2 c t f0).2.1 (tx3 c t f0).2.1 (tx3 c t f0).2.2 ∧ xGr X (geR r) h h' := by
  have D := xRK_D H
  have hr := D.2.2
  have c0 := D.1
  have ok0 : pOk c t (0, 0, 0, 0) := ⟨Nat.le_refl _, Nat.zero_le _, fun e => absurd e (by decide), fun e => absurd e (by decide), by decide, by decide⟩
  obtain ⟨h1, a1, a2, a3⟩ := rd_advance hT D ok0
  have ea : advP c t (0, 0, 0, 0) = advF c t 0 := rfl
  rw [ea] at a2
  have ok1 := advF_ok c t 0 (Nat.zero_le _)
  have K1 := xRK_s H a2 a3
  have q := rd_word hT a2 ok1 (a := 1) (w := wSpot) (by omega) rfl (by decide)
  have c1 := a2.1
  have S1 : ∃ h2, xR X m_X7_readSpots 0 [.ref r, xU] [] h1 = xR X m_X7_readSpots 16 [.ref r, .int (nI 0)] [] h2 ∧ xRK X h2 r t tp (tx1 c t) 0 0 f0 ∧ xGr X (geR r) h1 h2 := by
    unfold tx1
    by_cases k : wB c wSpot (advF c t 0) = true
    · rw [if_pos k] at q ⊢
      exact ⟨h1, by simp (disch := first | exact xnl_i _ | exact xnl_r _ | exact xnl_u _ | exact xnl_n | exact zI_2 | exact zI_24 | assumption | omega | (simp only [xset_len]; omega)) only [↓reduceIte, xbd_s, xpv_n, xpv_s, e_X7_readSpots_0, e_X7_readSpots_1, e_X7_readSpots_3, c_X7_readSpots_62_6_0, c_X7_readSpots_53_6_0, c_X7_readSpots_41_6_0, c_X7_readSpots_66_6_0, e_X7_readSpots_6, e_X7_readSpots_9, e_X7_readSpots_10, e_X7_readSpots_11, e_X7_readSpots_14, e_X7_readSpots_15, e_X7_readSpots_17, e_X7_readSpots_19, e_X7_readSpots_22, e_X7_readSpots_23, e_X7_readSpots_26, e_X7_readSpots_29, e_X7_readSpots_30, e_X7_readSpots_32, e_X7_readSpots_35, e_X7_readSpots_38, e_X7_readSpots_39, e_X7_readSpots_41, e_X7_readSpots_44, e_X7_readSpots_45, e_X7_readSpots_46, e_X7_readSpots_49, e_X7_readSpots_52, e_X7_readSpots_53, e_X7_readSpots_56, e_X7_readSpots_57, e_X7_readSpots_58, e_X7_readSpots_61, e_X7_readSpots_64, e_X7_readSpots_67, g_7_57_6, c1, q, zI_1], K1, xGr_fr (A := geR r) xFr_rfl⟩
    · rw [if_neg k] at q ⊢
      obtain ⟨h2, b1, b2, b3⟩ := rd_fail a2 1 ok1.2.2.2.2.2
      exact ⟨h2, by simp (disch := first | exact xnl_i _ | exact xnl_r _ | exact xnl_u _ | exact xnl_n | exact zI_2 | exact zI_24 | assumption | omega | (simp only [xset_len]; omega)) only [↓reduceIte, xbd_s, xpv_n, xpv_s, e_X7_readSpots_0, e_X7_readSpots_1, e_X7_readSpots_3, c_X7_readSpots_62_6_0, c_X7_readSpots_53_6_0, c_X7_readSpots_41_6_0, c_X7_readSpots_66_6_0, e_X7_readSpots_6, e_X7_readSpots_9, e_X7_readSpots_10, e_X7_readSpots_11, e_X7_readSpots_14, e_X7_readSpots_15, e_X7_readSpots_17, e_X7_readSpots_19, e_X7_readSpots_22, e_X7_readSpots_23, e_X7_readSpots_26, e_X7_readSpots_29, e_X7_readSpots_30, e_X7_readSpots_32, e_X7_readSpots_35, e_X7_readSpots_38, e_X7_readSpots_39, e_X7_readSpots_41, e_X7_readSpots_44, e_X7_readSpots_45, e_X7_readSpots_46, e_X7_readSpots_49, e_X7_readSpots_52, e_X7_readSpots_53, e_X7_readSpots_56, e_X7_readSpots_57, e_X7_readSpots_58, e_X7_readSpots_61, e_X7_readSpots_64, e_X7_readSpots_67, g_7_57_6, c1, q, if_pos z0, b1], xRK_s K1 b2 b3, inR_ge b3⟩
  obtain ⟨h2, b1, b2, b3⟩ := S1
  obtain ⟨h3, d1, d2, d3⟩ := rd_readSpots hT 8 0 _ 0 _ h2 rfl (fun _ => rfl) b2 (tx1_ok c t)
  have ok3 : pOk c t (tx2 c t f0).1 := spL_ok 8 _ (tx1_ok c t)
  have d4 := b1.trans d1
  have c3 := (xRK_D d2).1
  obtain ⟨h4, e1, e2, e3⟩ := rd_readReaders hT 5 0 _ 0 _ h3 rfl (fun _ => rfl) d2 ok3
  have e4 : xR X m_X7_readReaders 0 [.ref r, xU] [] h3 = some (none, h4) := by
    rw [← e1]
    simp (disch := first | exact xnl_i _ | exact xnl_r _ | exact xnl_u _ | exact xnl_n | exact zI_2 | exact zI_24 | assumption | omega | (simp only [xset_len]; omega)) only [↓reduceIte, xbd_s, xpv_n, xpv_s, e_X7_readReaders_0, e_X7_readReaders_1, e_X7_readReaders_3, e_X7_readReaders_4, e_X7_readReaders_7, e_X7_readReaders_8, e_X7_readReaders_11, e_X7_readReaders_14, e_X7_readReaders_15, e_X7_readReaders_17, c_X7_readReaders_62_6_0, c_X7_readReaders_53_6_0, c_X7_readReaders_41_6_0, c_X7_readReaders_99_6_0, e_X7_readReaders_20, e_X7_readReaders_23, e_X7_readReaders_24, e_X7_readReaders_25, e_X7_readReaders_28, e_X7_readReaders_29, e_X7_readReaders_30, e_X7_readReaders_33, e_X7_readReaders_36, e_X7_readReaders_37, e_X7_readReaders_40, e_X7_readReaders_41, e_X7_readReaders_44, e_X7_readReaders_47, e_X7_readReaders_50, g_7_57_6]
  have c4 : xget X h4 r = some (.inl (6, [.ref 29, .int (nI t), .int (nI (tx3 c t f0).1.1), .int (nI (tx3 c t f0).1.2.1), .int (nI (tx3 c t f0).1.2.2.1), .int (nI (tx3 c t f0).1.2.2.2), .ref (r + 1), .ref (r + 5)])) := (xRK_D e2).1
  have ok4 := tx3_ok c t f0
  have G4 := xGr_tr (xGr_tr (xGr_tr (inR_ge a3) b3) d3) e3
  have e2' : xRK X h4 r t tp (tx3 c t f0).1 (tx2 c t f0).2.1 (tx3 c t f0).2.1 (tx3 c t f0).2.2 := e2
  have ok5 := tx4_ok c t f0
  obtain ⟨z1, z2⟩ := nI_fl ok5.2.2.2.2.2
  have fin : ∀ h5, xRK X h5 r t tp (tx4 c t f0) (tx2 c t f0).2.1 (tx3 c t f0).2.1 (tx3 c t f0).2.2 → xR X m_X7_isWhole 24 [.ref r] [] h5 = some (some (.int (if pFl (tx4 c t f0) = 0 then nI 1 else nI 0)), h5) := by
    intro h5 K5
    have c5 := (xRK_D K5).1
    by_cases k : pFl (tx4 c t f0) = 0
    · have z3 := z1 k
      rw [if_pos k]
      simp (disch := first | exact xnl_i _ | exact xnl_r _ | exact xnl_u _ | exact xnl_n | exact zI_2 | exact zI_24 | assumption | omega | (simp only [xset_len]; omega)) only [↓reduceIte, xbd_s, xpv_n, xpv_s, e_X7_isWhole_0, e_X7_isWhole_1, c_X7_isWhole_41_6_0, c_X7_isWhole_44_6_0, c_X7_isWhole_47_6_0, c_X7_isWhole_53_6_0, e_X7_isWhole_4, e_X7_isWhole_5, e_X7_isWhole_8, e_X7_isWhole_9, e_X7_isWhole_12, e_X7_isWhole_13, e_X7_isWhole_16, e_X7_isWhole_19, e_X7_isWhole_20, e_X7_isWhole_21, e_X7_isWhole_24, e_X7_isWhole_25, e_X7_isWhole_28, e_X7_isWhole_31, e_X7_isWhole_32, e_X7_isWhole_35, e_X7_isWhole_36, e_X7_isWhole_36_0, e_X7_isWhole_36_1, g_7_50_6, g_7_57_6, c5, if_pos z3]
    · have z3 := z2 k
      rw [if_neg k]
      simp (disch := first | exact xnl_i _ | exact xnl_r _ | exact xnl_u _ | exact xnl_n | exact zI_2 | exact zI_24 | assumption | omega | (simp only [xset_len]; omega)) only [↓reduceIte, xbd_s, xpv_n, xpv_s, e_X7_isWhole_0, e_X7_isWhole_1, c_X7_isWhole_41_6_0, c_X7_isWhole_44_6_0, c_X7_isWhole_47_6_0, c_X7_isWhole_53_6_0, e_X7_isWhole_4, e_X7_isWhole_5, e_X7_isWhole_8, e_X7_isWhole_9, e_X7_isWhole_12, e_X7_isWhole_13, e_X7_isWhole_16, e_X7_isWhole_19, e_X7_isWhole_20, e_X7_isWhole_21, e_X7_isWhole_24, e_X7_isWhole_25, e_X7_isWhole_28, e_X7_isWhole_31, e_X7_isWhole_32, e_X7_isWhole_35, e_X7_isWhole_36, e_X7_isWhole_36_0, e_X7_isWhole_36_1, g_7_50_6, g_7_57_6, c5, if_neg z3]
  by_cases k : (tx3 c t f0).1.1 = 0
  · have e5 : nI (tx3 c t f0).1.1 = 0 := by rw [k]; rfl
    have e6 : tx4 c t f0 = (tx3 c t f0).1 := if_pos k
    rw [← e6] at e2'
    refine ⟨h4, ?_, e2', G4⟩
    rw [← fin h4 e2']
    simp (disch := first | exact xnl_i _ | exact xnl_r _ | exact xnl_u _ | exact xnl_n | exact zI_2 | exact zI_24 | assumption | omega | (simp only [xset_len]; omega)) only [↓reduceIte, xbd_s, xpv_n, xpv_s, e_X7_isWhole_0, e_X7_isWhole_1, c_X7_isWhole_41_6_0, c_X7_isWhole_44_6_0, c_X7_isWhole_47_6_0, c_X7_isWhole_53_6_0, e_X7_isWhole_4, e_X7_isWhole_5, e_X7_isWhole_8, e_X7_isWhole_9, e_X7_isWhole_12, e_X7_isWhole_13, e_X7_isWhole_16, e_X7_isWhole_19, e_X7_isWhole_20, e_X7_isWhole_21, e_X7_isWhole_25, e_X7_isWhole_28, e_X7_isWhole_31, e_X7_isWhole_32, e_X7_isWhole_35, e_X7_isWhole_36, e_X7_isWhole_36_0, e_X7_isWhole_36_1, g_7_50_6, g_7_57_6, c0, a1, c1, d4, c3, e4, c4, if_pos e5]
  · have h4' := ok4.2.2.2.2.1
    have e5 : ¬ nI (tx3 c t f0).1.1 = 0 := by
      rw [xeq_i, nI_toInt (by omega), xti0]
      omega
    have e6 : tx4 c t f0 = failP 1 (tx3 c t f0).1 := if_neg k
    obtain ⟨h5, f1, f2, f3⟩ := rd_fail (xRK_D e2') 1 ok4.2.2.2.2.2
    have K5 := xRK_s e2' f2 f3
    rw [← e6] at K5
    refine ⟨h5, ?_, K5, xGr_tr G4 (inR_ge f3)⟩
    rw [← fin h5 K5]
    simp (disch := first | exact xnl_i _ | exact xnl_r _ | exact xnl_u _ | exact xnl_n | exact zI_2 | exact zI_24 | assumption | omega | (simp only [xset_len]; omega)) only [↓reduceIte, xbd_s, xpv_n, xpv_s, e_X7_isWhole_0, e_X7_isWhole_1, c_X7_isWhole_41_6_0, c_X7_isWhole_44_6_0, c_X7_isWhole_47_6_0, c_X7_isWhole_53_6_0, e_X7_isWhole_4, e_X7_isWhole_5, e_X7_isWhole_8, e_X7_isWhole_9, e_X7_isWhole_12, e_X7_isWhole_13, e_X7_isWhole_16, e_X7_isWhole_19, e_X7_isWhole_20, e_X7_isWhole_21, e_X7_isWhole_25, e_X7_isWhole_28, e_X7_isWhole_31, e_X7_isWhole_32, e_X7_isWhole_35, e_X7_isWhole_36, e_X7_isWhole_36_0, e_X7_isWhole_36_1, g_7_50_6, g_7_57_6, c0, a1, c1, d4, c3, e4, c4, if_neg e5, f1]
end XRE
