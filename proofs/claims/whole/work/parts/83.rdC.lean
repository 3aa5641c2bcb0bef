/-! READING, the class: spots, readers -/
theorem numP_0 {c : Nat → Nat} {t lo hi : Nat} {s : pT} (h : pFl (numP c t lo hi s) = 0) : pFl s = 0 ∧ s.1 = 2 ∧ lo ≤ numV c s ∧ numV c s ≤ hi := by
  have h0 : pFl s = 0 := by
    by_cases e : pFl s = 0
    · exact e
    · rw [numP_n e] at h
      exact absurd h e
  unfold numP at h
  by_cases k : s.1 = 2
  · rw [if_pos k] at h
    by_cases k2 : numV c s < lo ∨ hi < numV c s
    · rw [if_pos k2] at h
      unfold failP at h
      rw [if_pos h0] at h
      exact absurd (show 2 = 0 from h) (by decide)
    · exact ⟨h0, k, by omega, by omega⟩
  · rw [if_neg k] at h
    unfold failP at h
    rw [if_pos h0] at h
    exact absurd (show 1 = 0 from h) (by decide)
theorem endP_0 {c : Nat → Nat} {t : Nat} {s : pT} (h : pFl (endP c t s) = 0) : pFl s = 0 := by
  by_cases e : pFl s = 0
  · exact e
  · rw [endP_n e] at h
    exact absurd h e
theorem kindP_0 {c : Nat → Nat} {t : Nat} {s : pT} (h : pFl (kindP c t s) = 0) : pFl s = 0 ∧ 1 ≤ kindN c s := by
  have h0 : pFl s = 0 := by
    by_cases e : pFl s = 0
    · exact e
    · rw [kindP_n e] at h
      exact absurd h e
  unfold kindP at h
  by_cases k : kindN c s = 0
  · rw [if_pos k] at h
    unfold failP at h
    rw [if_pos h0] at h
    exact absurd (show 1 = 0 from h) (by decide)
  · exact ⟨h0, by omega⟩
theorem sp_ok {c : Nat → Nat} {t : Nat} {s : pT} (h : pFl (sp5 c t s) = 0) : 1 ≤ kindN c s ∧ (1 ≤ numV c (sp1 c t s) ∧ numV c (sp1 c t s) ≤ 5) ∧ numV c (sp2 c t s) ≤ 99 ∧ numV c (sp3 c t s) ≤ 99 := by
  have h4 := numP_0 (endP_0 h)
  have h3 := numP_0 h4.1
  have h2 := numP_0 h3.1
  have h1 := kindP_0 h2.1
  exact ⟨h1.2, ⟨h2.2.2.1, h2.2.2.2⟩, h3.2.2.2, h4.2.2.2⟩
theorem rd_ok {c : Nat → Nat} {t : Nat} {s : pT} (h : pFl (rd3 c t s) = 0) : numV c s ≤ 23 ∧ numV c (rd1 c t s) ≤ 23 := by
  have h2 := numP_0 (endP_0 h)
  have h1 := numP_0 h2.1
  exact ⟨h1.2.2.2, h2.2.2.2⟩
theorem pR_spot {f : Nat → Int32} {n m : Nat} {so dr d k a u v : Nat → Int32} (H : pR (upd f 0 (nI 1)) n m 0 so dr d k a (fun _ => 0) u v) (hn : n < 7) (hz : ∀ j, j < 7 → f (47 + j) = 0) {kd v1 v2 v3 : Nat} (h1 : 1 ≤ kd ∧ kd ≤ 5) (h2 : 1 ≤ v1 ∧ v1 ≤ 5) (h3 : v2 ≤ 99) : pR (upd (dSp f n kd v1 v2 v3) 0 (nI 1)) (n + 1) m 0 (upd so n (nI kd)) (upd dr n (nI v1)) (upd d n (nI v2)) (upd k n (nI n)) (upd a n (nI v3)) (fun _ => 0) u v := by
  obtain ⟨p0, p1, p2, p3, p4, p5, p6, p7, p8, p9⟩ := H
  have U : ∀ q, q ≠ 0 → q ≠ 1 → q ≠ 3 + n → q ≠ 10 + n → q ≠ 26 + n → q ≠ 33 + n → q ≠ 40 + n → upd (dSp f n kd v1 v2 v3) 0 (nI 1) q = upd f 0 (nI 1) q := by
    intro q q0 q1 q2 q3 q4 q5 q6
    unfold dSp
    rw [upd_ne q0, upd_ne q1, upd_ne q6, upd_ne q5, upd_ne q4, upd_ne q3, upd_ne q2, upd_ne q0]
  have V1 : dSp f n kd v1 v2 v3 (3 + n) = nI kd := by
    unfold dSp
    rw [upd_ne (by omega), upd_ne (by omega), upd_ne (by omega), upd_ne (by omega), upd_ne (by omega), upd_eq]
  have V2 : dSp f n kd v1 v2 v3 (10 + n) = nI v1 := by
    unfold dSp
    rw [upd_ne (by omega), upd_ne (by omega), upd_ne (by omega), upd_ne (by omega), upd_eq]
  have V3 : dSp f n kd v1 v2 v3 (26 + n) = nI v2 := by
    unfold dSp
    rw [upd_ne (by omega), upd_ne (by omega), upd_ne (by omega), upd_eq]
  have V4 : dSp f n kd v1 v2 v3 (33 + n) = nI n := by
    unfold dSp
    rw [upd_ne (by omega), upd_ne (by omega), upd_eq]
  have V5 : dSp f n kd v1 v2 v3 (40 + n) = nI v3 := by
    unfold dSp
    rw [upd_ne (by omega), upd_eq]
  have V6 : dSp f n kd v1 v2 v3 1 = nI (n + 1) := upd_eq
  refine ⟨upd_eq, (upd_ne (by omega)).trans V6, by omega, (U 2 (by omega) (by omega) (by omega) (by omega) (by omega) (by omega) (by omega)).trans p3, p4, (U 25 (by omega) (by omega) (by omega) (by omega) (by omega) (by omega) (by omega)).trans p5, p6, ?_, ?_, ?_⟩
  · intro j hj
    by_cases e : j = n
    · subst e
      refine ⟨⟨kd, upd_eq, h1⟩, ?_, ?_, ?_, ?_, ?_, ⟨j, by omega, upd_eq, ?_, ?_⟩, 0, by omega, rfl, ?_⟩
      · rw [upd_ne (by omega), upd_eq]; exact V1
      · rw [upd_eq, nI_toInt (by omega)]; omega
      · rw [upd_ne (by omega), upd_eq]; exact V2
      · rw [upd_eq, nI_toInt (by omega)]; omega
      · rw [upd_ne (by omega), upd_eq]; exact V3
      · rw [upd_ne (by omega)]; exact V4
      · rw [upd_ne (by omega), upd_eq]; exact V5
      · rw [U (47 + j) (by omega) (by omega) (by omega) (by omega) (by omega) (by omega) (by omega), upd_ne (by omega)]; exact hz j hn
    · obtain ⟨s1, s2, s3, s4, s5, s6, ⟨b, b1, b2, b3, b4⟩, ⟨c', c1, c2, c3⟩⟩ := p7 j (by omega)
      rw [pS, upd_ne e, upd_ne e, upd_ne e, upd_ne e, upd_ne e]
      exact ⟨s1, (U _ (by omega) (by omega) (by omega) (by omega) (by omega) (by omega) (by omega)).trans s2, s3, (U _ (by omega) (by omega) (by omega) (by omega) (by omega) (by omega) (by omega)).trans s4, s5, (U _ (by omega) (by omega) (by omega) (by omega) (by omega) (by omega) (by omega)).trans s6, ⟨b, by omega, b2, (U _ (by omega) (by omega) (by omega) (by omega) (by omega) (by omega) (by omega)).trans b3, (U _ (by omega) (by omega) (by omega) (by omega) (by omega) (by omega) (by omega)).trans b4⟩, c', c1, c2, (U _ (by omega) (by omega) (by omega) (by omega) (by omega) (by omega) (by omega)).trans c3⟩
  · intro r hr
    exact ⟨(U _ (by omega) (by omega) (by omega) (by omega) (by omega) (by omega) (by omega)).trans (p8 r hr).1, (U _ (by omega) (by omega) (by omega) (by omega) (by omega) (by omega) (by omega)).trans (p8 r hr).2⟩
  · intro i j hi hj e
    have B : ∀ j, j < n → ∃ b, b < n ∧ k j = nI b := fun j hj => by
      obtain ⟨_, _, _, _, _, _, ⟨b, b1, b2, _⟩, _⟩ := p7 j hj
      exact ⟨b, b1, b2⟩
    by_cases i1 : i = n
    · by_cases j1 : j = n
      · omega
      · obtain ⟨b, b1, b2⟩ := B j (by omega)
        rw [i1, upd_eq, upd_ne j1, b2] at e
        have := congrArg Int32.toInt e
        rw [nI_toInt (by omega), nI_toInt (by omega)] at this
        omega
    · by_cases j1 : j = n
      · obtain ⟨b, b1, b2⟩ := B i (by omega)
        rw [j1, upd_eq, upd_ne i1, b2] at e
        have := congrArg Int32.toInt e
        rw [nI_toInt (by omega), nI_toInt (by omega)] at this
        omega
      · rw [upd_ne i1, upd_ne j1] at e
        exact p9 i j (by omega) (by omega) e
theorem pR_reader {f : Nat → Int32} {n m : Nat} {so dr d k a u v : Nat → Int32} (H : pR (upd f 0 (nI 1)) n m 0 so dr d k a (fun _ => 0) u v) (hm : m < 4) {v1 v2 : Nat} : pR (upd (dRd f m v1 v2) 0 (nI 1)) n (m + 1) 0 so dr d k a (fun _ => 0) (upd u m (nI v1)) (upd v m (nI v2)) := by
  obtain ⟨p0, p1, p2, p3, p4, p5, p6, p7, p8, p9⟩ := H
  have U : ∀ q, q ≠ 0 → q ≠ 2 → q ≠ 17 + m → q ≠ 21 + m → upd (dRd f m v1 v2) 0 (nI 1) q = upd f 0 (nI 1) q := by
    intro q q0 q1 q2 q3
    unfold dRd
    rw [upd_ne q0, upd_ne q1, upd_ne q3, upd_ne q2, upd_ne q0]
  refine ⟨upd_eq, (U 1 (by omega) (by omega) (by omega) (by omega)).trans p1, p2, (upd_ne (by omega)).trans upd_eq, by omega, (U 25 (by omega) (by omega) (by omega) (by omega)).trans p5, p6, ?_, ?_, p9⟩
  · intro j hj
    obtain ⟨s1, s2, s3, s4, s5, s6, ⟨b, b1, b2, b3, b4⟩, ⟨c', c1, c2, c3⟩⟩ := p7 j hj
    exact ⟨s1, (U _ (by omega) (by omega) (by omega) (by omega)).trans s2, s3, (U _ (by omega) (by omega) (by omega) (by omega)).trans s4, s5, (U _ (by omega) (by omega) (by omega) (by omega)).trans s6, ⟨b, b1, b2, (U _ (by omega) (by omega) (by omega) (by omega)).trans b3, (U _ (by omega) (by omega) (by omega) (by omega)).trans b4⟩, c', c1, c2, (U _ (by omega) (by omega) (by omega) (by omega)).trans c3⟩
  · intro r hr
    by_cases e : r = m
    · subst e
      rw [upd_eq, upd_eq]
      unfold dRd
      exact ⟨by rw [upd_ne (by omega), upd_ne (by omega), upd_ne (by omega), upd_eq], by rw [upd_ne (by omega), upd_ne (by omega), upd_eq]⟩
    · rw [upd_ne e, upd_ne e]
      exact ⟨(U _ (by omega) (by omega) (by omega) (by omega)).trans (p8 r (by omega)).1, (U _ (by omega) (by omega) (by omega) (by omega)).trans (p8 r (by omega)).2⟩
/-- a READING under way -/
def xRK (X : xS) (h : xH) (r t : Nat) (tp : Nat → Int32) (s : pT) (n m : Nat) (f : Nat → Int32) : Prop := ∃ g so dr d k a u v, xRD X h r t tp s ∧ xPB X h (r + 1) n m (r + 2) (r + 3) (r + 4) g u v ∧ xGB X h n g so dr ∧ xLB X h (r + 5) (.ref (r + 1)) 0 d k a (fun _ => 0) ∧ (∀ j, j < n → g j = some (r + 10 + j)) ∧ h.length + 16 = r + 10 + n ∧ pR (upd f 0 (nI 1)) n m 0 so dr d k a (fun _ => 0) u v ∧ (∀ j, j < 7 → f (47 + j) = 0)
def geR (r : Nat) : Nat → Prop := fun c => r ≤ c
section XRC
variable {X : xS} {h : xH} {r t : Nat} {tp : Nat → Int32} {c : Nat → Nat} {s : pT} {n m : Nat} {f : Nat → Int32}
theorem xGB_gr {h' : xH} {A : Nat → Prop} {g : Nat → Option Nat} {so dr : Nat → Int32} (e : xGr X A h h') (H : xGB X h n g so dr) (hA : ∀ j, j < n → ∀ q, g j = some q → ¬ A q ∧ 16 ≤ q) : xGB X h' n g so dr := by
  intro j hj
  obtain ⟨q, ci, g1, g2, g3⟩ := H j hj
  obtain ⟨a1, a2⟩ := hA j hj q g1
  exact ⟨q, ci, g1, xGr_g e a2 a1 g2, g3⟩
theorem xPB_gr {h' : xH} {A : Nat → Prop} {p pl fr to : Nat} {g : Nat → Option Nat} {u v : Nat → Int32} (e : xGr X A h h') (H : xPB X h p n m pl fr to g u v) (hA : (16 ≤ p ∧ ¬ A p) ∧ (16 ≤ pl ∧ ¬ A pl) ∧ (16 ≤ fr ∧ ¬ A fr) ∧ (16 ≤ to ∧ ¬ A to)) : xPB X h' p n m pl fr to g u v := by
  obtain ⟨p0, p1, p2, p3, p4, p5⟩ := H
  obtain ⟨⟨a1, a2⟩, ⟨b1, b2⟩, ⟨c1, c2⟩, ⟨d1, d2⟩⟩ := hA
  exact ⟨xGr_g e a1 a2 p0, xGr_g e b1 b2 p1, xGr_g e c1 c2 p2, xGr_g e d1 d2 p3, p4, p5⟩
/-- the token goes on: the rest stands -/
theorem xRK_s {h' : xH} {s' : pT} (H : xRK X h r t tp s n m f) (H' : xRD X h' r t tp s') (F : xFr X (inR r) h h') : xRK X h' r t tp s' n m f := by
  obtain ⟨g, so, dr, d, k, a, u, v, k1, k2, k3, k4, k5, k6, k7, k8⟩ := H
  have hr := k1.2.2
  have G := xGr_fr F
  refine ⟨g, so, dr, d, k, a, u, v, H', xPB_gr G k2 ⟨⟨by omega, by unfold inR; omega⟩, ⟨by omega, by unfold inR; omega⟩, ⟨by omega, by unfold inR; omega⟩, ⟨by omega, by unfold inR; omega⟩⟩, xGB_gr G k3 ?_, xLB_gr G k4 (fun c e1 e2 => by have := e1.1; unfold inR at e2; omega), k5, by rw [F.1]; exact k6, k7, k8⟩
  intro j hj q hq
  rw [k5 j hj] at hq
  cases hq
  exact ⟨by unfold inR; omega, by omega⟩
theorem xRK_D (H : xRK X h r t tp s n m f) : xRD X h r t tp s := by
  obtain ⟨g, so, dr, d, k, a, u, v, k1, _⟩ := H
  exact k1
theorem inR_ge {h' : xH} (F : xFr X (inR r) h h') : xGr X (geR r) h h' := xGr_mo (xGr_fr F) (fun c _ e => by unfold inR at e; unfold geR; omega)
theorem rd_newPlace {kd : Nat} (h1 : 1 ≤ kd) (h5 : kd ≤ 5) (nu dr : Int32) : ∃ ci, xSort ci (nI kd) ∧ xR X m_X7_newPlace 0 [.int (nI kd), .int nu, .int dr] [] h = some (some (.ref (xnw h)), h ++ [.inl (ci, [.int nu, .int dr])]) := by
  have k5 : kd = 1 ∨ kd = 2 ∨ kd = 3 ∨ kd = 4 ∨ kd = 5 := by omega
  rcases k5 with rfl | rfl | rfl | rfl | rfl
  · refine ⟨4, Or.inl ⟨rfl, rfl⟩, ?_⟩
    simp (disch := first | exact xnl_i _ | exact xnl_r _ | exact xnl_u _ | exact xnl_n | exact zI_2 | exact zI_24 | assumption | omega | (simp only [xset_len]; omega)) only [↓reduceIte, xbd_s, xpv_n, xpv_s, e_X7_newPlace_0, e_X7_newPlace_1_1, e_X7_newPlace_1_2, e_X7_newPlace_1_3, e_X7_newPlace_1_4, e_X7_newPlace_1_d, e_X7_newPlace_32, e_X7_newPlace_35, e_X7_newPlace_36, e_X7_newPlace_37, e_X7_newPlace_38, c_X7_newPlace_121_2_1, c_X7_newPlace_121_4_1, c_X7_newPlace_121_9_1, c_X7_newPlace_125_9_1, c_X7_newPlace_128_2_1, c_X7_newPlace_131_0_1, c_X7_newPlace_131_1_1, c_X7_newPlace_134_1_1, e_X7_newPlace_41, e_X7_newPlace_41n, e_X7_newPlace_42, e_X7_newPlace_45, e_X7_newPlace_46, e_X7_newPlace_47, e_X7_newPlace_48, e_X7_newPlace_51, e_X7_newPlace_51n, e_X7_newPlace_52, e_X7_newPlace_55, e_X7_newPlace_56, e_X7_newPlace_57, e_X7_newPlace_58, e_X7_newPlace_61, e_X7_newPlace_61n, e_X7_newPlace_62, e_X7_newPlace_65, e_X7_newPlace_66, e_X7_newPlace_67, e_X7_newPlace_68, e_X7_newPlace_71, e_X7_newPlace_71n, e_X7_newPlace_72, e_X7_newPlace_75, e_X7_newPlace_76, e_X7_newPlace_77, e_X7_newPlace_78, e_X7_newPlace_81, e_X7_newPlace_81n, xg_app0, List.getElem?_cons_zero, r_X4_init_4]
  · refine ⟨9, Or.inr (Or.inl ⟨rfl, rfl⟩), ?_⟩
    simp (disch := first | exact xnl_i _ | exact xnl_r _ | exact xnl_u _ | exact xnl_n | exact zI_2 | exact zI_24 | assumption | omega | (simp only [xset_len]; omega)) only [↓reduceIte, xbd_s, xpv_n, xpv_s, e_X7_newPlace_0, e_X7_newPlace_1_1, e_X7_newPlace_1_2, e_X7_newPlace_1_3, e_X7_newPlace_1_4, e_X7_newPlace_1_d, e_X7_newPlace_32, e_X7_newPlace_35, e_X7_newPlace_36, e_X7_newPlace_37, e_X7_newPlace_38, c_X7_newPlace_121_2_1, c_X7_newPlace_121_4_1, c_X7_newPlace_121_9_1, c_X7_newPlace_125_9_1, c_X7_newPlace_128_2_1, c_X7_newPlace_131_0_1, c_X7_newPlace_131_1_1, c_X7_newPlace_134_1_1, e_X7_newPlace_41, e_X7_newPlace_41n, e_X7_newPlace_42, e_X7_newPlace_45, e_X7_newPlace_46, e_X7_newPlace_47, e_X7_newPlace_48, e_X7_newPlace_51, e_X7_newPlace_51n, e_X7_newPlace_52, e_X7_newPlace_55, e_X7_newPlace_56, e_X7_newPlace_57, e_X7_newPlace_58, e_X7_newPlace_61, e_X7_newPlace_61n, e_X7_newPlace_62, e_X7_newPlace_65, e_X7_newPlace_66, e_X7_newPlace_67, e_X7_newPlace_68, e_X7_newPlace_71, e_X7_newPlace_71n, e_X7_newPlace_72, e_X7_newPlace_75, e_X7_newPlace_76, e_X7_newPlace_77, e_X7_newPlace_78, e_X7_newPlace_81, e_X7_newPlace_81n, xg_app0, List.getElem?_cons_zero, r_X10_init_9]
  · refine ⟨2, Or.inr (Or.inr (Or.inl ⟨rfl, rfl⟩)), ?_⟩
    simp (disch := first | exact xnl_i _ | exact xnl_r _ | exact xnl_u _ | exact xnl_n | exact zI_2 | exact zI_24 | assumption | omega | (simp only [xset_len]; omega)) only [↓reduceIte, xbd_s, xpv_n, xpv_s, e_X7_newPlace_0, e_X7_newPlace_1_1, e_X7_newPlace_1_2, e_X7_newPlace_1_3, e_X7_newPlace_1_4, e_X7_newPlace_1_d, e_X7_newPlace_32, e_X7_newPlace_35, e_X7_newPlace_36, e_X7_newPlace_37, e_X7_newPlace_38, c_X7_newPlace_121_2_1, c_X7_newPlace_121_4_1, c_X7_newPlace_121_9_1, c_X7_newPlace_125_9_1, c_X7_newPlace_128_2_1, c_X7_newPlace_131_0_1, c_X7_newPlace_131_1_1, c_X7_newPlace_134_1_1, e_X7_newPlace_41, e_X7_newPlace_41n, e_X7_newPlace_42, e_X7_newPlace_45, e_X7_newPlace_46, e_X7_newPlace_47, e_X7_newPlace_48, e_X7_newPlace_51, e_X7_newPlace_51n, e_X7_newPlace_52, e_X7_newPlace_55, e_X7_newPlace_56, e_X7_newPlace_57, e_X7_newPlace_58, e_X7_newPlace_61, e_X7_newPlace_61n, e_X7_newPlace_62, e_X7_newPlace_65, e_X7_newPlace_66, e_X7_newPlace_67, e_X7_newPlace_68, e_X7_newPlace_71, e_X7_newPlace_71n, e_X7_newPlace_72, e_X7_newPlace_75, e_X7_newPlace_76, e_X7_newPlace_77, e_X7_newPlace_78, e_X7_newPlace_81, e_X7_newPlace_81n, xg_app0, List.getElem?_cons_zero, r_X2_init_2]
  · refine ⟨0, Or.inr (Or.inr (Or.inr (Or.inl ⟨rfl, rfl⟩))), ?_⟩
    simp (disch := first | exact xnl_i _ | exact xnl_r _ | exact xnl_u _ | exact xnl_n | exact zI_2 | exact zI_24 | assumption | omega | (simp only [xset_len]; omega)) only [↓reduceIte, xbd_s, xpv_n, xpv_s, e_X7_newPlace_0, e_X7_newPlace_1_1, e_X7_newPlace_1_2, e_X7_newPlace_1_3, e_X7_newPlace_1_4, e_X7_newPlace_1_d, e_X7_newPlace_32, e_X7_newPlace_35, e_X7_newPlace_36, e_X7_newPlace_37, e_X7_newPlace_38, c_X7_newPlace_121_2_1, c_X7_newPlace_121_4_1, c_X7_newPlace_121_9_1, c_X7_newPlace_125_9_1, c_X7_newPlace_128_2_1, c_X7_newPlace_131_0_1, c_X7_newPlace_131_1_1, c_X7_newPlace_134_1_1, e_X7_newPlace_41, e_X7_newPlace_41n, e_X7_newPlace_42, e_X7_newPlace_45, e_X7_newPlace_46, e_X7_newPlace_47, e_X7_newPlace_48, e_X7_newPlace_51, e_X7_newPlace_51n, e_X7_newPlace_52, e_X7_newPlace_55, e_X7_newPlace_56, e_X7_newPlace_57, e_X7_newPlace_58, e_X7_newPlace_61, e_X7_newPlace_61n, e_X7_newPlace_62, e_X7_newPlace_65, e_X7_newPlace_66, e_X7_newPlace_67, e_X7_newPlace_68, e_X7_newPlace_71, e_X7_newPlace_71n, e_X7_newPlace_72, e_X7_newPlace_75, e_X7_newPlace_76, e_X7_newPlace_77, e_X7_newPlace_78, e_X7_newPlace_81, e_X7_newPlace_81n, xg_app0, List.getElem?_cons_zero, r_X0_init_0]
  · refine ⟨1, Or.inr (Or.inr (Or.inr (Or.inr ⟨rfl, rfl⟩))), ?_⟩
    have o1 : (nI 5).toInt < 1 ∨ 4 < (nI 5).toInt := by decide
    simp (disch := first | exact xnl_i _ | exact xnl_r _ | exact xnl_u _ | exact xnl_n | exact zI_2 | exact zI_24 | assumption | omega | (simp only [xset_len]; omega)) only [↓reduceIte, xbd_s, xpv_n, xpv_s, e_X7_newPlace_0, e_X7_newPlace_1_1, e_X7_newPlace_1_2, e_X7_newPlace_1_3, e_X7_newPlace_1_4, e_X7_newPlace_1_d, e_X7_newPlace_32, e_X7_newPlace_35, e_X7_newPlace_36, e_X7_newPlace_37, e_X7_newPlace_38, c_X7_newPlace_121_2_1, c_X7_newPlace_121_4_1, c_X7_newPlace_121_9_1, c_X7_newPlace_125_9_1, c_X7_newPlace_128_2_1, c_X7_newPlace_131_0_1, c_X7_newPlace_131_1_1, c_X7_newPlace_134_1_1, e_X7_newPlace_41, e_X7_newPlace_41n, e_X7_newPlace_42, e_X7_newPlace_45, e_X7_newPlace_46, e_X7_newPlace_47, e_X7_newPlace_48, e_X7_newPlace_51, e_X7_newPlace_51n, e_X7_newPlace_52, e_X7_newPlace_55, e_X7_newPlace_56, e_X7_newPlace_57, e_X7_newPlace_58, e_X7_newPlace_61, e_X7_newPlace_61n, e_X7_newPlace_62, e_X7_newPlace_65, e_X7_newPlace_66, e_X7_newPlace_67, e_X7_newPlace_68, e_X7_newPlace_71, e_X7_newPlace_71n, e_X7_newPlace_72, e_X7_newPlace_75, e_X7_newPlace_76, e_X7_newPlace_77, e_X7_newPlace_78, e_X7_newPlace_81, e_X7_newPlace_81n, xg_app0, List.getElem?_cons_zero, r_X1_init_1]
theorem nI_fl {s : pT} (h : pFl s ≤ 3) : (pFl s = 0 → nI s.2.2.2 = 0) ∧ (¬ pFl s = 0 → ¬ nI s.2.2.2 = 0) := by
  have h2 : s.2.2.2 ≤ 3 := h
  constructor
  · intro e
    rw [show s.2.2.2 = 0 from e]
    rfl
  · intro e
    have : ¬ s.2.2.2 = 0 := e
    rw [xeq_i, nI_toInt (by omega), xti0]
    omega
theorem rd_readSpot (hT : tOk c tp t) (H : xRK X h r t tp s n m f) (hok : pOk c t s) (hn : n < 7) : ∃ h' n' f', xR X m_X7_readSpot 0 [.ref r, .int (nI n), xU, xU, xU, xU] [] h = some (none, h') ∧ spP c t (s, n, f) = (sp5 c t s, n', f') ∧ xRK X h' r t tp (sp5 c t s) n' m f' ∧ xGr X (geR r) h h' ∧ h'.length ≤ h.length + (n' - n) ∧ n ≤ n' := by
  have D0 := xRK_D H
  have hr := D0.2.2
  have o1 : pOk c t (sp1 c t s) := kindP_ok hok
  have o2 : pOk c t (sp2 c t s) := numP_ok o1
  have o3 : pOk c t (sp3 c t s) := numP_ok o2
  have o4 : pOk c t (sp4 c t s) := numP_ok o3
  have o5 : pOk c t (sp5 c t s) := endP_ok o4
  obtain ⟨h1, a1, a2, a3⟩ := rd_kind hT D0 hok
  obtain ⟨h2, b1, b2, b3⟩ := rd_number hT (s := sp1 c t s) a2 o1 (lo := 1) (hi := 5) (by omega) (by omega)
  obtain ⟨h3, c1, c2, c3⟩ := rd_number hT (s := sp2 c t s) b2 o2 (lo := 0) (hi := 99) (by omega) (by omega)
  obtain ⟨h4, d1, d2, d3⟩ := rd_number hT (s := sp3 c t s) c2 o3 (lo := 0) (hi := 99) (by omega) (by omega)
  obtain ⟨h5, e1, e2, e3⟩ := rd_end hT (s := sp4 c t s) d2 o4
  have F5 := xFr_tr (xFr_tr (xFr_tr (xFr_tr a3 b3) c3) d3) e3
  have K5 : xRK X h5 r t tp (sp5 c t s) n m f := xRK_s H e2 F5
  have g0 := D0.1
  have g1 := a2.1
  have g2 := b2.1
  have g3 := c2.1
  have g4 := d2.1
  have g5 := e2.1
  have P5 : xR X m_X7_readSpot 0 [.ref r, .int (nI n), xU, xU, xU, xU] [] h = xR X m_X7_readSpot 34 [.ref r, .int (nI n), .int (nI (kindN c s)), .int (nI (numV c (sp1 c t s))), .int (nI (numV c (sp2 c t s))), .int (nI (numV c (sp3 c t s)))] [] h5 := by
    simp (disch := first | exact xnl_i _ | exact xnl_r _ | exact xnl_u _ | exact xnl_n | exact zI_2 | exact zI_24 | assumption | omega | (simp only [xset_len]; omega)) only [↓reduceIte, xbd_s, xpv_n, xpv_s, e_X7_readSpot_0, e_X7_readSpot_1, c_X7_readSpot_69_6_0, c_X7_readSpot_73_6_0, c_X7_readSpot_76_6_0, c_X7_readSpot_83_5_0, e_X7_readSpot_4, e_X7_readSpot_5, e_X7_readSpot_6, e_X7_readSpot_7, e_X7_readSpot_8, e_X7_readSpot_11, e_X7_readSpot_12, e_X7_readSpot_13, e_X7_readSpot_14, e_X7_readSpot_16, e_X7_readSpot_19, e_X7_readSpot_21, e_X7_readSpot_22, e_X7_readSpot_23, e_X7_readSpot_25, e_X7_readSpot_28, e_X7_readSpot_30, e_X7_readSpot_31, e_X7_readSpot_35, e_X7_readSpot_38, e_X7_readSpot_41, e_X7_readSpot_42, e_X7_readSpot_45, e_X7_readSpot_46, e_X7_readSpot_47, e_X7_readSpot_48, e_X7_readSpot_51, e_X7_readSpot_54, e_X7_readSpot_55, e_X7_readSpot_58, e_X7_readSpot_61, e_X7_readSpot_62, e_X7_readSpot_64, e_X7_readSpot_65, e_X7_readSpot_66, e_X7_readSpot_69, e_X7_readSpot_72, e_X7_readSpot_73, e_X7_readSpot_75, e_X7_readSpot_76, e_X7_readSpot_77, e_X7_readSpot_80, e_X7_readSpot_83, e_X7_readSpot_84, e_X7_readSpot_85, e_X7_readSpot_86, g_7_28_6, g_7_37_6, g_7_57_6, g_7_87_3, g_7_91_3, g_7_94_3, g0, g1, g2, g3, g4, a1, b1, c1, d1, e1]
  unfold spP
  dsimp only
  obtain ⟨z1, z2⟩ := nI_fl o5.2.2.2.2.2
  by_cases k0 : pFl (sp5 c t s) = 0
  · rw [if_pos k0]
    have z3 := z1 k0
    obtain ⟨q1, q2, q3, q4⟩ := sp_ok k0
    have kl := kindN_le c s
    obtain ⟨g, so, dr, d, k, a, u, v, k1, k2, k3, k4, k5, k6, k7, k8⟩ := K5
    obtain ⟨ci, p1, p2⟩ := rd_newPlace (X := X) (h := h5) q1 kl (nI n) (nI (numV c (sp1 c t s)))
    have en : xnw h5 = r + 10 + n := by unfold xnw; omega
    rw [en] at p2
    have G6 : xGr X (fun _ => False) h5 (h5 ++ [.inl (ci, [.int (nI n), .int (nI (numV c (sp1 c t s)))])]) := xGr_app
    have pl : xget X (h5 ++ [.inl (ci, [.int (nI n), .int (nI (numV c (sp1 c t s)))])]) (r + 10 + n) = some (.inl (ci, [.int (nI n), .int (nI (numV c (sp1 c t s)))])) := by
      have := xg_app0 (X := X) (h := h5) [.inl (ci, [.int (nI n), .int (nI (numV c (sp1 c t s)))])]
      rw [en] at this
      exact this
    have ex : ∃ h6 : xH, h6 = h5 ++ [.inl (ci, [.int (nI n), .int (nI (numV c (sp1 c t s)))])] := ⟨_, rfl⟩
    obtain ⟨h6, hh6⟩ := ex
    rw [← hh6] at p2 G6 pl
    have l6 : h6.length = h5.length + 1 := by rw [hh6, List.length_append]; rfl
    have R6 : xRD X h6 r t tp (sp5 c t s) := ⟨xGr_g G6 (by omega) (fun e => e) k1.1, xGr_g G6 (by omega) (fun e => e) k1.2.1, k1.2.2⟩
    have P6 : xPB X h6 (r + 1) n m (r + 2) (r + 3) (r + 4) g u v := xPB_gr G6 k2 ⟨⟨by omega, fun e => e⟩, ⟨by omega, fun e => e⟩, ⟨by omega, fun e => e⟩, ⟨by omega, fun e => e⟩⟩
    have L6 : xLB X h6 (r + 5) (.ref (r + 1)) 0 d k a (fun _ => 0) := xLB_gr G6 k4 (fun c e1 e2 => e2)
    have B6 : xGB X h6 n g so dr := xGB_gr G6 k3 (fun j hj q hq => ⟨fun e => e, by rw [k5 j hj] at hq; cases hq; omega⟩)
    have ad := r_addPlace P6 ⟨by omega, by omega, by omega⟩ hn pl p1
    have ex7 : ∃ h7 : xH, h7 = xset (xset h6 (r + 2) (.inr ((4, 7), .inr (fun j => if j = n then some (r + 10 + n) else g j)))) (r + 1) (.inl (5, [.ref (r + 2), .int (nI (n + 1)), .ref (r + 3), .ref (r + 4), .int (nI m)])) := ⟨_, rfl⟩
    obtain ⟨h7, hh7⟩ := ex7
    rw [← hh7] at ad
    have F7 : xFr X (fun c => c = r + 1 ∨ c = r + 2) h6 h7 := by
      rw [hh7]
      exact xFr_tr (xFr_set (by omega) (Or.inr rfl)) (xFr_set (by omega) (Or.inl rfl))
    have lv1 := xg_live (by omega) P6.1
    have lv2 := xg_live (by omega) P6.2.1
    have P7 : xPB X h7 (r + 1) (n + 1) m (r + 2) (r + 3) (r + 4) (fun j => if j = n then some (r + 10 + n) else g j) u v := by
      obtain ⟨x0, x1, x2, x3, x4, x5⟩ := P6
      refine ⟨?_, ?_, (F7.2 _ (by omega)).trans x2, (F7.2 _ (by omega)).trans x3, by omega, x5⟩
      · rw [hh7]; exact xg_same (by omega) (by rw [xset_len]; omega)
      · rw [hh7, xg_ne (by omega) (by omega)]; exact xg_same (by omega) (by omega)
    have R7 : xRD X h7 r t tp (sp5 c t s) := ⟨(F7.2 _ (by omega)).trans R6.1, (F7.2 _ (by omega)).trans R6.2.1, R6.2.2⟩
    have L7 : xLB X h7 (r + 5) (.ref (r + 1)) 0 d k a (fun _ => 0) := xLB_fr L6 F7 (fun c e1 e2 => by have := e1.1; omega)
    have L8 := xLB_d (d' := upd d n (nI (numV c (sp2 c t s)))) L7
    have L9 := xLB_a (a' := upd a n (nI (numV c (sp3 c t s)))) L8
    have L10 := xLB_k (k' := upd k n (nI n)) L9
    have ex10 : ∃ h10 : xH, h10 = xset (xset (xset h7 (r + 5 + 1) (.inr ((0, 7), .inl (upd d n (nI (numV c (sp2 c t s))))))) (r + 5 + 3) (.inr ((0, 7), .inl (upd a n (nI (numV c (sp3 c t s))))))) (r + 5 + 2) (.inr ((0, 7), .inl (upd k n (nI n)))) := ⟨_, rfl⟩
    obtain ⟨h10, hh10⟩ := ex10
    rw [← hh10] at L10
    have F10 : xFr X (inL (r + 5)) h7 h10 := by
      rw [hh10]
      exact xFr_tr (xFr_tr (xFr_set (by omega) ⟨by omega, by omega⟩) (xFr_set (by omega) ⟨by omega, by omega⟩)) (xFr_set (by omega) ⟨by omega, by omega⟩)
    have nL : ∀ c, (c < r + 5 ∨ r + 9 < c) → ¬ inL (r + 5) c := fun c e1 e2 => by have := e2.1; have := e2.2; omega
    refine ⟨h10, n + 1, _, ?_, rfl, ⟨fun j => if j = n then some (r + 10 + n) else g j, upd so n (nI (kindN c s)), upd dr n (nI (numV c (sp1 c t s))), upd d n (nI (numV c (sp2 c t s))), upd k n (nI n), upd a n (nI (numV c (sp3 c t s))), u, v, ⟨(F10.2 _ (nL _ (by omega))).trans R7.1, (F10.2 _ (nL _ (by omega))).trans R7.2.1, R7.2.2⟩, ?_, ?_, L10, ?_, ?_, pR_spot k7 hn k8 ⟨q1, kl⟩ q2 q3, ?_⟩, ?_, ?_, by omega⟩
    · have r7 := R7.1
      have l70 := L7.1
      have l71 := L7.2.1
      have l80 := L8.1
      have l83 := L8.2.2.2.1
      have l90 := L9.1
      have l92 := L9.2.2.1
      refine P5.trans ?_
      have r5 := k1.1
      have r6 := R6.1
      have r8 : xget X (xset h7 (r + 5 + 1) (.inr ((0, 7), .inl (upd d n (nI (numV c (sp2 c t s))))))) r = _ := (xg_ne (by omega) (by omega)).trans r7
      have r9 : xget X (xset (xset h7 (r + 5 + 1) (.inr ((0, 7), .inl (upd d n (nI (numV c (sp2 c t s))))))) (r + 5 + 3) (.inr ((0, 7), .inl (upd a n (nI (numV c (sp3 c t s))))))) r = _ := (xg_ne (by omega) (by omega)).trans r8
      have x6 := P6.1
      rw [hh10]
      simp (disch := first | exact xnl_i _ | exact xnl_r _ | exact xnl_u _ | exact xnl_n | exact zI_2 | exact zI_24 | assumption | omega | (simp only [xset_len]; omega)) only [↓reduceIte, xbd_s, xpv_n, xpv_s, e_X7_readSpot_0, e_X7_readSpot_1, c_X7_readSpot_69_6_0, c_X7_readSpot_73_6_0, c_X7_readSpot_76_6_0, c_X7_readSpot_83_5_0, e_X7_readSpot_4, e_X7_readSpot_5, e_X7_readSpot_6, e_X7_readSpot_7, e_X7_readSpot_8, e_X7_readSpot_11, e_X7_readSpot_12, e_X7_readSpot_13, e_X7_readSpot_14, e_X7_readSpot_16, e_X7_readSpot_19, e_X7_readSpot_21, e_X7_readSpot_22, e_X7_readSpot_23, e_X7_readSpot_25, e_X7_readSpot_28, e_X7_readSpot_30, e_X7_readSpot_31, e_X7_readSpot_34, e_X7_readSpot_35, e_X7_readSpot_38, e_X7_readSpot_41, e_X7_readSpot_42, e_X7_readSpot_45, e_X7_readSpot_46, e_X7_readSpot_47, e_X7_readSpot_48, e_X7_readSpot_51, e_X7_readSpot_54, e_X7_readSpot_55, e_X7_readSpot_58, e_X7_readSpot_61, e_X7_readSpot_62, e_X7_readSpot_64, e_X7_readSpot_65, e_X7_readSpot_66, e_X7_readSpot_69, e_X7_readSpot_72, e_X7_readSpot_73, e_X7_readSpot_75, e_X7_readSpot_76, e_X7_readSpot_77, e_X7_readSpot_80, e_X7_readSpot_83, e_X7_readSpot_84, e_X7_readSpot_85, e_X7_readSpot_86, g_7_28_6, g_7_37_6, g_7_57_6, g_7_87_3, g_7_91_3, g_7_94_3, r5, if_pos z3, p2, x6, ad, r7, l70, l71, xs_i, r8, l80, l83, r9, l90, l92]
    · obtain ⟨x0, x1, x2, x3, x4, x5⟩ := P7
      exact ⟨(F10.2 _ (nL _ (by omega))).trans x0, (F10.2 _ (nL _ (by omega))).trans x1, (F10.2 _ (nL _ (by omega))).trans x2, (F10.2 _ (nL _ (by omega))).trans x3, x4, x5⟩
    · intro j hj
      by_cases e : j = n
      · subst e
        refine ⟨r + 10 + j, ci, if_pos rfl, ?_, ?_⟩
        · rw [upd_eq]
          exact (F10.2 _ (nL _ (by omega))).trans ((F7.2 _ (by omega)).trans pl)
        · rw [upd_eq]
          exact p1
      · obtain ⟨q, ci', w1, w2, w3⟩ := B6 j (by omega)
        have hq : q = r + 10 + j := by
          rw [k5 j (by omega)] at w1
          cases w1
          rfl
        refine ⟨q, ci', (if_neg e).trans w1, ?_, ?_⟩
        · rw [upd_ne e]
          exact (F10.2 _ (nL _ (by omega))).trans ((F7.2 _ (by omega)).trans w2)
        · rw [upd_ne e]
          exact w3
    · intro j hj
      dsimp only
      by_cases e : j = n
      · rw [if_pos e, e]
      · rw [if_neg e]
        exact k5 j (by omega)
    · rw [F10.1, F7.1, l6]
      omega
    · intro j hj
      show dSp f n _ _ _ _ (47 + j) = 0
      unfold dSp
      rw [upd_ne (by omega), upd_ne (by omega), upd_ne (by omega), upd_ne (by omega), upd_ne (by omega), upd_ne (by omega)]
      exact k8 j hj
    · exact xGr_tr (xGr_tr (xGr_tr (inR_ge F5) (xGr_mo G6 (fun c _ e => e.elim))) (xGr_mo (xGr_fr F7) (fun c _ e => by unfold geR; omega))) (xGr_mo (xGr_fr F10) (fun c _ e => by have := e.1; unfold geR; omega))
    · rw [F10.1, F7.1, l6, F5.1]
      omega
  · rw [if_neg k0]
    have z3 := z2 k0
    refine ⟨h5, n, f, ?_, rfl, K5, inR_ge F5, by rw [F5.1]; omega, Nat.le_refl _⟩
    refine P5.trans ?_
    have z4 : ¬ nI (endP c t (sp4 c t s)).2.2.2 = 0 := z3
    simp (disch := first | exact xnl_i _ | exact xnl_r _ | exact xnl_u _ | exact xnl_n | exact zI_2 | exact zI_24 | assumption | omega | (simp only [xset_len]; omega)) only [↓reduceIte, xbd_s, xpv_n, xpv_s, e_X7_readSpot_0, e_X7_readSpot_1, c_X7_readSpot_69_6_0, c_X7_readSpot_73_6_0, c_X7_readSpot_76_6_0, c_X7_readSpot_83_5_0, e_X7_readSpot_4, e_X7_readSpot_5, e_X7_readSpot_6, e_X7_readSpot_7, e_X7_readSpot_8, e_X7_readSpot_11, e_X7_readSpot_12, e_X7_readSpot_13, e_X7_readSpot_14, e_X7_readSpot_16, e_X7_readSpot_19, e_X7_readSpot_21, e_X7_readSpot_22, e_X7_readSpot_23, e_X7_readSpot_25, e_X7_readSpot_28, e_X7_readSpot_30, e_X7_readSpot_31, e_X7_readSpot_34, e_X7_readSpot_35, e_X7_readSpot_38, e_X7_readSpot_41, e_X7_readSpot_42, e_X7_readSpot_45, e_X7_readSpot_46, e_X7_readSpot_47, e_X7_readSpot_48, e_X7_readSpot_51, e_X7_readSpot_54, e_X7_readSpot_55, e_X7_readSpot_58, e_X7_readSpot_61, e_X7_readSpot_62, e_X7_readSpot_64, e_X7_readSpot_65, e_X7_readSpot_66, e_X7_readSpot_69, e_X7_readSpot_72, e_X7_readSpot_73, e_X7_readSpot_75, e_X7_readSpot_76, e_X7_readSpot_77, e_X7_readSpot_80, e_X7_readSpot_83, e_X7_readSpot_84, e_X7_readSpot_85, e_X7_readSpot_86, g_7_28_6, g_7_37_6, g_7_57_6, g_7_87_3, g_7_91_3, g_7_94_3, g5, if_neg z4]
end XRC
