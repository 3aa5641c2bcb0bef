/-! library(): both sides -/
section XOL
variable {X : xS} {h h' : xH} {fi ta lf : Int32} {lib ol un t len : Nat} {it : Nat → Nat → Int32} {la si tp tr : Nat → Int32} {S : Nat → Int32} {nm : Int64} {A : Nat → Nat → Int32} {B : Nat → Prop}
theorem xAn_gr {b : Nat} (G : xGr X B h h') (H : xAn X h b) (hB : ∀ c, inL b c → ¬ B c) : xAn X h' b := by
  obtain ⟨pv, hr, d, k, a, o, h1, h2⟩ := H
  exact ⟨pv, hr, d, k, a, o, h1, xLB_gr G h2 hB⟩
theorem xMB_gr (G : xGr X B h h') (H : xMB X h S nm A) (hB : ∀ c, 169 ≤ c → c ≤ 179 → ¬ B c) : xMB X h' S nm A := by
  obtain ⟨c, a0, a1, a2, a3, a4, a5, a6, a7, a8, a9⟩ := H
  exact ⟨xGr_g G (by omega) (hB _ (by omega) (by omega)) c, xGr_g G (by omega) (hB _ (by omega) (by omega)) a0, xGr_g G (by omega) (hB _ (by omega) (by omega)) a1, xGr_g G (by omega) (hB _ (by omega) (by omega)) a2, xGr_g G (by omega) (hB _ (by omega) (by omega)) a3, xGr_g G (by omega) (hB _ (by omega) (by omega)) a4, xGr_g G (by omega) (hB _ (by omega) (by omega)) a5, xGr_g G (by omega) (hB _ (by omega) (by omega)) a6, xGr_g G (by omega) (hB _ (by omega) (by omega)) a7, xGr_g G (by omega) (hB _ (by omega) (by omega)) a8, xGr_g G (by omega) (hB _ (by omega) (by omega)) a9⟩
theorem xPZ_gr {p n m pl fr to : Nat} {g : Nat → Option Nat} {so dr u v : Nat → Int32} {lib' : Nat} (G : xGr X B h h') (hB : ∀ c, 180 ≤ c → ¬ B c) (hl : lib' = lib ∨ h.length + 16 ≤ lib') (h1 : xPB X h p n m pl fr to g u v) (h2 : xGB X h n g so dr) (h3 : xZB (zL lib) p n pl fr to g) : xPB X h' p n m pl fr to g u v ∧ xGB X h' n g so dr ∧ xZB (zL lib') p n pl fr to g := by
  have Z : ∀ c v, zL lib c → xget X h c = some v → zL lib' c := by
    intro c v z e
    have lv := xg_live (by have := z.1; omega) e
    rcases hl with rfl | hl
    · exact z
    · exact ⟨z.1, fun i => by have := i.1; omega⟩
  obtain ⟨z1, z2, z3, z4, z5⟩ := h3
  have y1 := z1.1
  have y2 := z2.1
  have y3 := z3.1
  have y4 := z4.1
  refine ⟨xPB_gr G h1 ⟨⟨by omega, hB _ y1⟩, ⟨by omega, hB _ y2⟩, ⟨by omega, hB _ y3⟩, ⟨by omega, hB _ y4⟩⟩, xGB_gr G h2 ?_, Z _ _ z1 h1.1, Z _ _ z2 h1.2.1, Z _ _ z3 h1.2.2.1, Z _ _ z4 h1.2.2.2.1, ?_⟩
  · intro j hj q hq
    have := (z5 j hj q hq).1
    exact ⟨hB _ this, by omega⟩
  · intro j hj q hq
    obtain ⟨q', ci, w1, w2, w3⟩ := h2 j hj
    have e : q' = q := by
      rw [hq] at w1
      injection w1 with w1
      exact w1.symm
    rw [e] at w2
    exact Z _ _ (z5 j hj q hq) w2
theorem rlI_gr {lib' : Nat} (G : xGr X B h h') (hB : ∀ c, 180 ≤ c → ¬ B c) (hB2 : ∀ c, 157 ≤ c → c ≤ 166 → ¬ B c) (hl : lib' = lib ∨ (h.length + 16 ≤ lib' ∧ 180 ≤ lib')) (H : rlI X h lib A) : rlI X h' lib' A := by
  intro i hi
  have hd : ∀ c, inL (157 + 5 * i) c → ¬ B c := fun c hc => hB2 c (by have := hc.1; omega) (by have := hc.2; omega)
  rcases H i hi with ⟨h1, hr, d, k, a, o, h2⟩ | ⟨h1, h3, p, n, m, pl, fr, to, hr, d, k, a, o, g, u, v, so, dr, w1, w2, w3, w4, w5⟩
  · exact Or.inl ⟨h1, hr, d, k, a, o, xLB_gr G h2 hd⟩
  · obtain ⟨x1, x2, x3⟩ := xPZ_gr (lib' := lib') G hB (by rcases hl with hl | hl; exact Or.inl hl; exact Or.inr hl.1) w2 w3 w4
    exact Or.inr ⟨h1, by omega, p, n, m, pl, fr, to, hr, d, k, a, o, g, u, v, so, dr, xLB_gr G w1 hd, x1, x2, x3, w5⟩
theorem rlU_gr {p n m : Nat} {so dr u v f w : Nat → Int32} (G : xGr X B h h') (hB : ∀ c, 36 ≤ c → c ≤ 155 → ¬ B c) (H : rlU X h ol un p n m so dr u v f w) : rlU X h' ol un p n m so dr u v f w := by
  intro j hj
  obtain ⟨hr, d, k, a, o, h1, h2⟩ := H j hj
  exact ⟨hr, d, k, a, o, xLB_gr G h1 (fun c hc => hB c (by have := hc.1; omega) (by have := hc.2; have := Nat.mod_lt (ol + j) (show 24 > 0 by omega); omega)), h2⟩
theorem rlNY_gr (G : xGr X (fun c => c = 16) h h') (H : rlN X h lib un A ∨ rlY X h lib ol un A) : rlN X h' lib un A ∨ rlY X h' lib ol un A := by
  rcases H with ⟨rfl, h2, ⟨d, k, a, o, h3⟩, h4⟩ | ⟨p, n, m, pl, fr, to, hr, d, k, a, o, g, u, v, so, dr, h0, h1, h2, h3, h4, h5, h6⟩
  · exact Or.inl ⟨rfl, h2, ⟨d, k, a, o, xLB_gr G h3 (fun c e1 e2 => by have := e1.1; omega)⟩, h4⟩
  · obtain ⟨x1, x2, x3⟩ := xPZ_gr (lib' := lib) G (fun c e1 e2 => by omega) (Or.inl rfl) h2 h3 h4
    exact Or.inr ⟨p, n, m, pl, fr, to, hr, d, k, a, o, g, u, v, so, dr, h0, xLB_gr G h1 (fun c e1 e2 => by have := e1.1; omega), x1, x2, x3, h5, rlU_gr G (fun c e1 e2 e3 => by omega) h6⟩
theorem rlC_gr {fi' ta' lf' : Int32} {lib' un' : Nat} (G : xGr X (fun c => c = 16) h h') (H : rlC X h fi ta lf lib ol un len it la si tp tr) (hc : xCB X h' fi' ta' lf' lib' (nI ol) (nI un')) : rlC X h' fi' ta' lf' lib' ol un' len it la si tp tr := by
  obtain ⟨c1, c2, c3, ⟨⟨g1, c41, c42⟩, g2, c43, c44⟩, c5, c6⟩ := H
  exact ⟨hc, xRW_gr G c2 (fun c e1 e2 e3 => by omega), xGr_g G (by omega) (by omega) c3, ⟨⟨g1, xGr_g G (by omega) (by omega) c41, c42⟩, g2, xGr_g G (by omega) (by omega) c43, c44⟩, fun j hj => xAn_gr G (c5 j hj) (fun c e1 e2 => by have := e1.1; omega), ⟨xGr_g G (by omega) (by omega) c6.1, xGr_g G (by omega) (by omega) c6.2⟩⟩
theorem o_library (H : xREL X h) : opR X h m_X11_library m_X12_library [.ref 16, xU] [.ref 169, xU, xU] := by
  obtain ⟨fi, ta, lf, lib, ol, un, t, len, it, la, si, tp, tr, S, nm, A, hC, hM, hP, hI, hY, hx⟩ := H
  obtain ⟨p0, p1, p2, p3, p4, p5, p6, p7, p8, p9, p10, p11, p12⟩ := id hP
  subst p1
  have hT : tOk (fun k => (A 7 k).toNatClampNeg) tp t := by
    refine ⟨p5, fun k hk => ?_⟩
    obtain ⟨b, b1, b2, b3⟩ := p4 k hk
    dsimp only
    rw [b2, nat_nI (by omega)]
    exact ⟨b1, b3⟩
  have hT2 : mOk (fun k => (A 7 k).toNatClampNeg) (A 7) t := by
    refine ⟨p5, fun k hk => ?_⟩
    obtain ⟨b, b1, b2, b3⟩ := p4 k hk
    dsimp only
    rw [b2, nat_nI (by omega)]
    exact ⟨b1, rfl⟩
  generalize (fun k => (A 7 k).toNatClampNeg) = c at hT hT2
  have hlen : 164 ≤ h.length := by
    have := xg_live (by omega) hM.2.2.2.2.2.2.2.2.2.2
    omega
  have hl := rl_lib hY
  obtain ⟨h1, G, K1, R1⟩ := r_lib (X := X) hC.1 hC.2.2.1 hT hlen (f0A_0 A)
  have hM1 := xMB_gr G hM (fun c e1 e2 e3 => by omega)
  obtain ⟨h2, S2, nm2, A2, M2, F2, s1, s13, s2, sA, R2⟩ := m_lib hM1 hT2 p6
  obtain ⟨n7, m4, len1⟩ := xRK_n K1
  have sz := xRK_sz K1
  have lenE : h2.length ≤ h.length + 17 := by rw [F2.1]; omega
  have xm : ∀ {v : Option Value}, xR X m_X11_library 0 [.ref 16, xU] [] h = some (v, h1) → xmx 700 h1 := by
    intro v q
    refine xmx_kp hx (xR_kp q) ?_
    intro k e hk he
    have hk2 : k < h1.length := by
      rcases Nat.lt_or_ge k h1.length with g | g
      · exact g
      · rw [List.getElem?_eq_none g] at he
        cases he
    obtain ⟨e', w1, w2⟩ := sz (k + 16) (by omega) (by omega)
    rw [xget_16 (by omega), Nat.add_sub_cancel, he] at w1
    cases w1
    exact w2
  by_cases k0 : pFl (tx4 c t (f0A A)) = 0
  · rw [if_pos k0] at R1 R2
    obtain ⟨q1, c1⟩ := R1
    obtain ⟨q2, z0', z8, a00, a0q⟩ := R2
    have hx1 := xm q1
    have hx2 := xmx_fr hx1 q2 F2.1
    have hC1 : rlC X h1 fi (nI 0) lf (h.length + 16 + 5) ol 0 len it la si tp tr := rlC_gr G hC c1
    obtain ⟨g, so, dr, d, k, a, u, v, k1, k2, k3, k4, k5, k6, k7, k8⟩ := K1
    have hI1 : rlI X h1 (h.length + 16 + 5) A := rlI_gr G (fun c e1 e2 => by omega) (fun c e1 e2 e3 => by omega) (Or.inr ⟨by omega, by omega⟩) hI
    have hY1 : rlN X h1 (h.length + 16 + 5) 0 A2 ∨ rlY X h1 (h.length + 16 + 5) ol 0 A2 := by
      refine Or.inr ⟨h.length + 16 + 1, _, _, h.length + 16 + 2, h.length + 16 + 3, h.length + 16 + 4, 0, d, k, a, _, g, u, v, so, dr, by omega, k4, k2, k3, ⟨⟨by omega, fun i => by have := i.1; omega⟩, ⟨by omega, fun i => by have := i.1; omega⟩, ⟨by omega, fun i => by have := i.1; omega⟩, ⟨by omega, fun i => by have := i.1; omega⟩, ?_⟩, pR_f k7 ?_, fun j hj => by omega⟩
      · intro j hj q hq
        rw [k5 j hj] at hq
        cases hq
        exact ⟨by omega, fun i => by have := i.2; omega⟩
      · intro q hq
        by_cases e : q = 0
        · rw [e, upd_eq]; exact a00
        · rw [upd_ne e]; exact a0q q hq e
    have hI2 := rlI_fr hI1 F2 (fun c c1 c2 => inM_B c (by omega) (by omega)) inM_Z
    have hY2 := rlNY_fr hY1 F2 (inM_L (Or.inr (by omega))) inM_Z (fun c c1 c2 => inM_B c (by omega) (by omega))
    refine ⟨_, h1, h2, q1, q2, ⟨fi, nI 0, lf, h.length + 16 + 5, ol, 0, 0, len, it, la, si, tp, tr, S2, nm2, A2, rlC_fr hC1 F2 inM_B, M2, ⟨s1.trans p0, rfl, z8.trans p2, ?_, fun k hk => by omega, by omega, s2, p7, s13.trans p8, ?_, p10, by omega, z0'⟩, ?_, hY2, hx2⟩, lenE⟩
    · rw [sA 4 (by decide) (by decide), sA 5 (by decide) (by decide), sA 6 (by decide) (by decide)]; exact p3
    · rw [sA 9 (by decide) (by decide)]; exact p9
    · unfold rlI at hI2 ⊢
      rw [sA 1 (by decide) (by decide), sA 2 (by decide) (by decide)]
      exact hI2
  · rw [if_neg k0] at R1 R2
    obtain ⟨q1, c1⟩ := R1
    obtain ⟨q2, z0', z8, a00⟩ := R2
    have hx1 := xm q1
    have hx2 := xmx_fr hx1 q2 F2.1
    have hC1 : rlC X h1 fi (nI 0) (nI (pFl (tx4 c t (f0A A)))) lib ol un len it la si tp tr := rlC_gr G hC c1
    have hI1 : rlI X h1 lib A := rlI_gr G (fun c e1 e2 => by omega) (fun c e1 e2 e3 => by omega) (Or.inl rfl) hI
    have hY1 := rlNY_gr G hY
    have hI2 := rlI_fr hI1 F2 (fun c c1 c2 => inM_B c (by omega) (by omega)) inM_Z
    have hY2 := rlNY_fr hY1 F2 (inM_L hl) inM_Z (fun c c1 c2 => inM_B c (by omega) (by omega))
    refine ⟨_, h1, h2, q1, q2, ⟨fi, nI 0, nI (pFl (tx4 c t (f0A A))), lib, ol, un, 0, len, it, la, si, tp, tr, S2, nm2, A2, rlC_fr hC1 F2 inM_B, M2, ⟨s1.trans p0, rfl, z8, ?_, fun k hk => by omega, by omega, s2, p7, s13.trans p8, ?_, p10, p11, z0'.trans p12⟩, ?_, ?_, hx2⟩, lenE⟩
    · rw [sA 4 (by decide) (by decide), sA 5 (by decide) (by decide), sA 6 (by decide) (by decide)]; exact p3
    · rw [sA 9 (by decide) (by decide)]; exact p9
    · unfold rlI at hI2 ⊢
      rw [sA 1 (by decide) (by decide), sA 2 (by decide) (by decide)]
      exact hI2
    · unfold rlN rlY at hY2 ⊢
      rw [a00, sA 3 (by decide) (by decide)]
      exact hY2
end XOL
