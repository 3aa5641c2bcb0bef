/-! ops: hours, undo, image, restore -/
theorem atS_rng {x : Int32} (h : 0 ≤ x.toInt) : 0 ≤ (atS x).toInt ∧ (atS x).toInt ≤ 9999 := by
  unfold atS
  have b : (nI 9999).toInt = 9999 := by decide
  split
  · decide
  · rename_i g
    rw [xlt_i] at g
    omega
/-- one spot, one hour -/
theorem pR_hour1 {f : Nat → Int32} {n m hr : Nat} {so dr d k a o u v : Nat → Int32} (H : pR f n m hr so dr d k a o u v) {s : Nat} (hs : s < n) : pR (hmF hr s f) n m hr so dr (hrF so dr (nI hr) s (d, a, o)).1 k (hrF so dr (nI hr) s (d, a, o)).2.1 (hrF so dr (nI hr) s (d, a, o)).2.2 u v := by
  have hn := H.2.2.1
  obtain ⟨p0, p1, p2, p3, p4, p5, p6, p7, p8, p9⟩ := id H
  obtain ⟨⟨so', s0, s1, s1'⟩, s2, s3, s4, s5, s6, ⟨b, b1, b2, b3, b4⟩, ⟨c, c1, c2, c3⟩⟩ := p7 s hs
  have e0 : nI hr + nI 0 = nI hr := Int32.add_zero _
  unfold hrF dNx fNx
  dsimp only
  rw [e0]
  by_cases g : 0 < o s
  · have g2 : nI 0 < o s := g
    have hc1 : 1 ≤ c := by
      rw [c2, xlt_i, xti0, nI_toInt (by omega)] at g
      omega
    rw [if_pos g2, if_pos g2]
    have ed : upd d s (d s) = d := upd_id rfl
    have ea : upd a s (a s) = a := upd_id rfl
    have eo : (if o s - nI 1 < nI 0 then nI 0 else o s - nI 1) = nI (c - 1) := by
      rw [c2, nI_sub' hc1, if_neg (show ¬ nI (c - 1) < nI 0 from nI_nlt (by omega) (by omega))]
    rw [ed, ea, eo]
    unfold hmF
    rw [c3, if_pos (by rw [← c2]; exact g), nI_sub' hc1]
    refine ⟨(upd_ne (by omega)).trans p0, (upd_ne (by omega)).trans p1, p2, (upd_ne (by omega)).trans p3, p4, (upd_ne (by omega)).trans p5, p6, ?_, ?_, p9⟩
    · intro j hj
      obtain ⟨t1, t2, t3, t4, t5, t6, ⟨b, b1, b2, b3, b4⟩, ⟨c', d1, d2, d3⟩⟩ := p7 j hj
      refine ⟨t1, (upd_ne (by omega)).trans t2, t3, (upd_ne (by omega)).trans t4, t5, (upd_ne (by omega)).trans t6, ⟨b, b1, b2, (upd_ne (by omega)).trans b3, (upd_ne (by omega)).trans b4⟩, ?_⟩
      by_cases e : j = s
      · subst e
        rw [upd_eq, upd_eq]
        exact ⟨c - 1, by omega, rfl, rfl⟩
      · rw [upd_ne e, upd_ne (show 47 + j ≠ 47 + s by omega)]
        exact ⟨c', d1, d2, d3⟩
    · intro r hr
      exact ⟨(upd_ne (by omega)).trans (p8 r hr).1, (upd_ne (by omega)).trans (p8 r hr).2⟩
  · have g2 : ¬ nI 0 < o s := g
    have hc0 : c = 0 := by
      rw [c2, xlt_i, xti0, nI_toInt (by omega)] at g
      omega
    subst hc0
    rw [if_neg g2, if_neg g2]
    have eo : (if o s - nI 1 < nI 0 then nI 0 else o s - nI 1) = o s := by
      rw [c2]
      decide
    have eu : upd o s (o s) = o := upd_id rfl
    rw [eo, eu]
    unfold hmF
    rw [c3, if_neg (show ¬ 0 < nI 0 by decide), b3, nat_nI (by omega)]
    have fr := fall_rng (t := 0) s1 s1' s3 (nI hr)
    rw [← s0] at fr
    have ad := add_i (x := d s) (y := fallS (so s) (dr s) (nI hr)) (by omega) (by omega)
    have H1 : pR (hm1 hr s f) n m hr so dr (upd d s (atS (d s + fallS (so s) (dr s) (nI hr)))) k a o u v := by
      unfold hm1
      rw [s6, s2, s4]
      refine pR_dust H ?_ ?_
      · intro j hj
        by_cases e : j = s
        · subst e
          rw [upd_eq, upd_eq]
          exact ⟨rfl, atS_rng (by omega)⟩
        · rw [upd_ne e, upd_ne (by omega)]
          obtain ⟨_, _, _, _, t5, t6, _⟩ := p7 j hj
          exact ⟨t6, t5⟩
      · intro q hq
        exact upd_ne (by omega)
    obtain ⟨_, h2, _, _, _, _, ⟨b', b1', b2', b3', b4'⟩, _⟩ := H1.2.2.2.2.2.2.2.1 s hs
    have hbb : b' = b := by
      have := congrArg Int32.toInt (b2'.symm.trans b2)
      rw [nI_toInt (by omega), nI_toInt (by omega)] at this
      omega
    subst hbb
    unfold hm2
    rw [b4', h2]
    obtain ⟨q0, q1, q2, q3, q4, q5, q6, q7, q8, q9⟩ := H1
    refine ⟨(upd_ne (by omega)).trans q0, (upd_ne (by omega)).trans q1, q2, (upd_ne (by omega)).trans q3, q4, (upd_ne (by omega)).trans q5, q6, ?_, ?_, q9⟩
    · intro j hj
      obtain ⟨t1, t2, t3, t4, t5, t6, ⟨e, e1, e2, e3, e4⟩, ⟨c', d1, d2, d3⟩⟩ := q7 j hj
      refine ⟨t1, (upd_ne (by omega)).trans t2, t3, (upd_ne (by omega)).trans t4, t5, (upd_ne (by omega)).trans t6, ⟨e, e1, e2, (upd_ne (by omega)).trans e3, ?_⟩, c', d1, d2, (upd_ne (by omega)).trans d3⟩
      by_cases g : j = s
      · subst g
        have hee : e = b' := by
          have := congrArg Int32.toInt (e2.symm.trans b2')
          rw [nI_toInt (by omega), nI_toInt (by omega)] at this
          omega
        rw [hee, upd_eq, upd_eq]
      · have hne : e ≠ b' := by
          intro q
          subst q
          exact g (q9 j s hj hs (e2.trans b2'.symm))
        rw [upd_ne (by omega), upd_ne g]
        exact e4
    · intro r hr
      exact ⟨(upd_ne (by omega)).trans (q8 r hr).1, (upd_ne (by omega)).trans (q8 r hr).2⟩
theorem pR_hour {f : Nat → Int32} {n m hr : Nat} {so dr d k a o u v : Nat → Int32} (H : pR f n m hr so dr d k a o u v) (h9 : hr + 1 ≤ 999) : pR (upd (xfold (hmF hr) n f) 25 (nI (hr + 1))) n m (hr + 1) so dr (xfold (hrF so dr (nI hr)) n (d, a, o)).1 k (xfold (hrF so dr (nI hr)) n (d, a, o)).2.1 (xfold (hrF so dr (nI hr)) n (d, a, o)).2.2 u v ∧ ∀ q, q < 25 → upd (xfold (hmF hr) n f) 25 (nI (hr + 1)) q = f q := by
  have hn := H.2.2.1
  have key : ∀ c, c ≤ n → pR (xfold (hmF hr) c f) n m hr so dr (xfold (hrF so dr (nI hr)) c (d, a, o)).1 k (xfold (hrF so dr (nI hr)) c (d, a, o)).2.1 (xfold (hrF so dr (nI hr)) c (d, a, o)).2.2 u v ∧ ∀ q, q < 25 → xfold (hmF hr) c f q = f q := by
    intro c
    induction c with
    | zero => intro _; exact ⟨H, fun _ _ => rfl⟩
    | succ c ih =>
      intro hc
      obtain ⟨i1, i2⟩ := ih (by omega)
      have e1 : xfold (hmF hr) (c + 1) f = hmF hr c (xfold (hmF hr) c f) := rfl
      have e2 : xfold (hrF so dr (nI hr)) (c + 1) (d, a, o) = hrF so dr (nI hr) c (xfold (hrF so dr (nI hr)) c (d, a, o)) := rfl
      rw [e1, e2]
      refine ⟨pR_hour1 i1 (by omega), ?_⟩
      intro q hq
      rw [← i2 q hq]
      generalize xfold (hmF hr) c f = y
      unfold hmF
      split
      · exact upd_ne (by omega)
      · unfold hm2 hm1
        rw [upd_ne (by omega), upd_ne (by omega)]
  obtain ⟨i1, i2⟩ := key n (Nat.le_refl n)
  obtain ⟨p0, p1, p2, p3, p4, p5, p6, p7, p8, p9⟩ := i1
  refine ⟨⟨(upd_ne (by omega)).trans p0, (upd_ne (by omega)).trans p1, p2, (upd_ne (by omega)).trans p3, p4, upd_eq, h9, ?_, ?_, p9⟩, fun q hq => (upd_ne (by omega)).trans (i2 q hq)⟩
  · intro j hj
    obtain ⟨t1, t2, t3, t4, t5, t6, ⟨e, e1, e2, e3, e4⟩, ⟨c', d1, d2, d3⟩⟩ := p7 j hj
    exact ⟨t1, (upd_ne (by omega)).trans t2, t3, (upd_ne (by omega)).trans t4, t5, (upd_ne (by omega)).trans t6, ⟨e, e1, e2, (upd_ne (by omega)).trans e3, (upd_ne (by omega)).trans e4⟩, c', d1, d2, (upd_ne (by omega)).trans d3⟩
  · intro r hr
    exact ⟨(upd_ne (by omega)).trans (p8 r hr).1, (upd_ne (by omega)).trans (p8 r hr).2⟩
section XO8
variable {X : xS} {h : xH}
theorem o_hours (H : xREL X h) (x : Int32) : opR X h m_X11_hours m_X12_hours [.ref 16, .int x, xU] [.ref 169, .int x, xU, xU, xU] := by
  obtain ⟨fi, ta, lf, lib, ol, un, t, len, it, la, si, tp, tr, S, nm, A, hC, hM, hP, hI, hY, hx⟩ := H
  rcases hY with hN | hY
  · obtain ⟨rfl, n2, ⟨d, k, a, o, n3⟩, n4, n5, n6, n7⟩ := id hN
    exact op_look hC hP hI (Or.inl hN) hx (r_hoursN hC.1 n3 x) (m_hoursN hM (by rw [n4]; decide) x) hM kpt_rfl xFr_rfl
  · obtain ⟨p, n, m, pl, fr, to, hr, d, k, a, o, g, u, v, so, dr, y0, y1, y2, y3, y4, y5, y6⟩ := id hY
    have H := cmY_of hC hP y0 y1 y2 y3 y4 y5 y6
    obtain ⟨f0, f1, f2, f3, f4, f5, f6, f7, f8, f9⟩ := id y5
    by_cases c : x < nI 1 ∨ nI 24 < x
    · exact op_look hC hP hI (Or.inr hY) hx (r_hoursB hC.1 y1 c) (m_hoursB hM f0 c) hM kpt_rfl xFr_rfl
    have c1 : ¬ x < nI 1 := fun e => c (Or.inl e)
    have c2 : ¬ nI 24 < x := fun e => c (Or.inr e)
    by_cases c3 : nI 999 < nI hr + x
    · exact op_look hC hP hI (Or.inr hY) hx (r_hoursF hC.1 y1 c1 c2 c3) (m_hoursF hM f0 c1 c2 (by rw [f5]; exact c3)) hM kpt_rfl xFr_rfl
    have I1 := r_hoursI hC.1 y1 c1 c2 c3
    have I2 := fun hh (hM' : xMB X hh S nm A) => m_hoursI hM' f0 c1 c2 (by rw [f5]; exact c3)
    obtain ⟨cc, j1, j2, rfl⟩ := nI_w (by omega) c1 c2
    have hsum : hr + cc ≤ 999 := by
      rw [nI_add, xlt_i, nI_toInt (by omega), nI_toInt (by omega)] at c3
      omega
    have L : ∀ j, j ≤ cc → ∃ h1 ol' un' d' a' o' S' A', xR X m_X11_hours 47 [.ref 16, .int (nI cc), .int (nI 0)] [] h = xR X m_X11_hours 47 [.ref 16, .int (nI cc), .int (nI j)] [] h1 ∧ cmY X h1 fi ta lf lib ol' un' p n m pl fr to (hr + j) d' k a' o' g u v so dr S' A' ∧ xFr X (aB lib) h h1 ∧ (∀ i, i ≠ 0 → S' i = S i) ∧ (∀ i, i ≠ 0 → i ≠ 3 → A' i = A i) ∧ ∀ hh, xMB X hh S nm A → ∃ h2 w3 w4, xR X m_X12_hours 43 [.ref 169, .int (nI cc), .int (nI 0), xU, xU] [] hh = xR X m_X12_hours 43 [.ref 169, .int (nI cc), .int (nI j), w3, w4] [] h2 ∧ xnl w3 = true ∧ xnl w4 = true ∧ xMB X h2 S' nm A' ∧ xFr X inM hh h2 := by
      intro j
      induction j with
      | zero => intro _; exact ⟨h, ol, un, d, a, o, S, A, rfl, H, xFr_rfl, fun _ _ => rfl, fun _ _ _ => rfl, fun hh hM' => ⟨hh, xU, xU, rfl, rfl, rfl, hM', xFr_rfl⟩⟩
      | succ j ih =>
        intro hj
        obtain ⟨h1, ol', un', d', a', o', S', A', i1, i2, i3, i4, i5, i6⟩ := ih (by omega)
        have hi : (ol' + un') % 24 < 24 := Nat.mod_lt _ (by omega)
        obtain ⟨pv1, hr1, d1, k1, a1, o1', hpv, hB⟩ := i2.2.1 ((ol' + un') % 24) hi
        obtain ⟨h3, q1, q2, q3, q4⟩ := r_hours1 i2.1 hB (j := j) (c := cc) (by omega) j2
        obtain ⟨z1, z2⟩ := pR_hour i2.2.2.1 (by omega)
        refine ⟨h3, kOl ol' un', kUn un', _, _, _, upd S' 0 (nI (kUn un')), setA (setA A' 3 (rmS un' (A' 0) (A' 3))) 0 (upd (xfold (hmF (hr + j)) n (A' 0)) 25 (nI (hr + j + 1))), i1.trans q1, cmY_act i2 q2 q3 q4 z2 z1, xFr_tr i3 (xFr_mo q4 (inK_aB hi)), fun i e => by rw [upd_ne e]; exact i4 i e, fun i e1 e2 => by rw [setA_ne e1, setA_ne e2]; exact i5 i e1 e2, ?_⟩
        intro hh hM'
        obtain ⟨h4, w3, w4, s1, s2, s3, s4, s5⟩ := i6 hh hM'
        obtain ⟨h5, w5, w6, r1, r2, r3, r4, r5⟩ := m_hours1 s4 (pR_ST i2.2.2.1) i2.1.2.2.2.2.2.2.2.2.2 i2.2.2.2.2 (j := j) (c := cc) (by omega) j2 s2 s3
        exact ⟨h5, w5, w6, s1.trans r1, r2, r3, r4, xFr_tr s5 r5⟩
    obtain ⟨h1, ol', un', d', a', o', S', A', i1, i2, i3, i4, i5, i6⟩ := L cc (Nat.le_refl cc)
    have hM1 := xMB_fr hM i3 (fun c e1 e2 e3 => by unfold aB inL at e3; omega)
    obtain ⟨h2, w3, w4, s1, s2, s3, s4, s5⟩ := i6 h1 hM1
    have q1 := (I1.trans i1).trans (r_hoursE i2.1.1 i2.1.2.2.1 j2)
    have q2 := ((I2 h1 hM1).trans s1).trans (m_hoursE s4 j2)
    rw [i2.2.2.1.2.2.2.2.2.1] at q2
    have hx1 := xmx_fr hx q1 i3.1
    have hx2 := xmx_fr hx1 q2 s5.1
    exact ⟨_, h1, h2, q1, q2, cmY_rel hC hP hI i2 i3 s4 s5 i4 i5 hx2, by rw [s5.1, i3.1]; omega⟩
theorem mu_fold (w : Nat → Int32) (c : Nat) (f : Nat → Int32) : ∀ k, xfold (muF w c) k f = fun q => if 25 ≤ q ∧ q < 25 + k then w (29 * c + (q - 25)) else f q := by
  intro k
  induction k with
  | zero => funext q; rw [if_neg (by omega)]; rfl
  | succ k ih =>
    show muF w c k (xfold (muF w c) k f) = _
    rw [ih]
    unfold muF upd
    funext q
    by_cases e : q = 25 + k
    · rw [if_pos e, if_pos (by omega), e, Nat.add_sub_cancel_left]
    · rw [if_neg e]
      dsimp only
      by_cases e2 : 25 ≤ q ∧ q < 25 + k
      · rw [if_pos e2, if_pos (by omega)]
      · rw [if_neg e2, if_neg (by omega)]
theorem o_undo (H : xREL X h) : opR X h m_X11_undo m_X12_undo [.ref 16] [.ref 169, xU] := by
  obtain ⟨fi, ta, lf, lib, ol, un, t, len, it, la, si, tp, tr, S, nm, A, hC, hM, hP, hI, hY, hx⟩ := H
  rcases Nat.eq_zero_or_pos un with hu | hu
  · subst hu
    exact op_look hC hP hI hY hx (r_undoS hC.1) (m_undoS hM hP.2.2.2.2.2.2.2.2.2.2.2.2) hM kpt_rfl xFr_rfl
  rcases hY with hN | hY
  · exact absurd hN.2.1 (by omega)
  obtain ⟨p, n, m, pl, fr, to, hr, d, k, a, o, g, u, v, so, dr, y0, y1, y2, y3, y4, y5, y6⟩ := id hY
  have H := cmY_of hC hP y0 y1 y2 y3 y4 y5 y6
  obtain ⟨un, rfl⟩ := Nat.exists_eq_add_of_le' hu
  obtain ⟨hr1, d1, k1, a1, o1, u1, u2⟩ := y6 un (by omega)
  have hol := H.1.2.2.2.2.2.2.2.2.1
  have hun := H.1.2.2.2.2.2.2.2.2.2
  have hlib : 180 ≤ lib := y0
  obtain ⟨h1, d2, k2, a2, o2, q1, q2, q3, q4, q5⟩ := r_undo hC.1 H.1.2.1 hol (by omega) y1 (by omega) (by omega) u1
  have hF : xFr X (aB lib) h h1 := xFr_mo q5 (fun c e => by rcases e with e | e; exact Or.inl e; exact Or.inr (Or.inr e))
  have hM1 := xMB_fr hM hF (fun c e1 e2 e3 => by unfold aB inL at e3; omega)
  obtain ⟨h2, s1, s2, s3⟩ := m_undo hM1 (un := un) (by omega) H.2.2.2.2
  have hx1 := xmx_fr hx q1 q5.1
  have hx2 := xmx_fr hx1 s1 s3.1
  have hZ : ∀ c, zL lib c → ¬ (c = 16 ∨ inL lib c) := fun c e1 e2 => by have := e1.1; rcases e2 with e2 | e2; omega; exact e1.2 e2
  refine ⟨_, h1, h2, q1, s1, cmY_rel (ol' := ol) (un' := un) (hr := hr1) (d := d2) (k := k2) (a := a2) (o := o2) hC hP hI ⟨⟨q2, xPA_fr H.1.2.1 q5 (by unfold inL; omega) (by unfold inL; omega), q3, xPB_fr y2 y4 q5 hZ, xGB_fr y3 y4 q5 hZ, y4, fun c hc => hc, y0, hol, by omega⟩, ?_, ?_, ?_, upd_eq⟩ hF s2 s3 (fun i e => upd_ne e) (fun i e1 e2 => setA_ne e1) hx2, by rw [s3.1, q5.1]; omega⟩
  · intro j hj
    exact xAn_fr (H.2.1 j hj) q5 (fun c e1 e2 => by have := e1.1; have := e1.2; unfold inL at e2; omega)
  · rw [setA_eq]
    refine pR_d (pR_f u2 ?_) q4
    intro q hq
    rw [mu_fold]
    unfold mrg
    try dsimp only
    by_cases c : q < 25
    · rw [if_pos c, if_neg (by omega)]
    · rw [if_neg c, if_pos (by omega)]
  · rw [setA_eq, setA_ne (by decide), mu_fold]
    intro j hj
    obtain ⟨hr0, d0, k0, a0, o0, v1, v2⟩ := y6 j (by omega)
    have hm := Nat.mod_lt (ol + j) (show 24 > 0 by omega)
    refine ⟨hr0, d0, k0, a0, o0, xLB_fr v1 q5 (fun c e1 e2 => by have := e1.1; have := e1.2; unfold inL at e2; omega), pR_f v2 ?_⟩
    intro q hq
    unfold mrg
    try dsimp only
    by_cases c : q < 25
    · rw [if_pos c, if_pos c, if_neg (by omega)]
    · rw [if_neg c, if_neg c]
theorem mi_fold (st : Nat → Int32) (c : Nat) (y : Nat → Int32) : ∀ k, xfold (miF st c) k y = fun q => if 54 * c ≤ q ∧ q < 54 * c + k then st (q - 54 * c) else y q := by
  intro k
  induction k with
  | zero => funext q; rw [if_neg (by omega)]; rfl
  | succ k ih =>
    show miF st c k (xfold (miF st c) k y) = _
    rw [ih]
    unfold miF upd
    funext q
    by_cases e : q = 54 * c + k
    · rw [if_pos e, if_pos (by omega), e, Nat.add_sub_cancel_left]
    · rw [if_neg e]
      dsimp only
      by_cases e2 : 54 * c ≤ q ∧ q < 54 * c + k
      · rw [if_pos e2, if_pos (by omega)]
      · rw [if_neg e2, if_neg (by omega)]
theorem mrs_fold (kp : Nat → Int32) (c : Nat) (y : Nat → Int32) : ∀ k, xfold (mrsF kp c) k y = fun q => if q < k then kp (54 * c + q) else y q := by
  intro k
  induction k with
  | zero => funext q; rw [if_neg (by omega)]; rfl
  | succ k ih =>
    show mrsF kp c k (xfold (mrsF kp c) k y) = _
    rw [ih]
    unfold mrsF upd
    funext q
    by_cases e : q = k
    · rw [if_pos e, if_pos (by omega), e]
    · rw [if_neg e]
      dsimp only
      by_cases e2 : q < k
      · rw [if_pos e2, if_pos (by omega)]
      · rw [if_neg e2, if_neg (by omega)]
theorem img_cases (x : Int32) : ((x < 0 ∨ ¬ x < nI 2) ∧ (x < 0 ∨ 1 < x)) ∨ ∃ i, i < 2 ∧ x = nI i := by
  rcases spot_cases 2 (by omega) x with c | c
  · refine Or.inl ⟨c, ?_⟩
    have b2 : (nI 2).toInt = 2 := by decide
    have b1 : (1 : Int32).toInt = 1 := by decide
    rcases c with c | c
    · exact Or.inl c
    · refine Or.inr ?_
      rw [xlt_i] at c ⊢
      omega
  · exact Or.inr c
theorem rlI_any {lib : Nat} {A : Nat → Nat → Int32} (hI : rlI X h lib A) {i : Nat} (hi : i < 2) : ∃ pv hr d k a o, xLB X h (157 + 5 * i) pv hr d k a o := by
  rcases hI i hi with ⟨_, hr, d, k, a, o, h2⟩ | ⟨_, _, p, n, m, pl, fr, to, hr, d, k, a, o, g, u, v, so, dr, h1, _⟩
  · exact ⟨_, hr, d, k, a, o, h2⟩
  · exact ⟨_, _, d, k, a, o, h1⟩
theorem o_image (H : xREL X h) (x : Int32) : opR X h m_X11_image m_X12_image [.ref 16, .int x] [.ref 169, .int x, xU] := by
  obtain ⟨fi, ta, lf, lib, ol, un, t, len, it, la, si, tp, tr, S, nm, A, hC, hM, hP, hI, hY, hx⟩ := H
  rcases img_cases x with ⟨c1, c2⟩ | ⟨i, hi, rfl⟩
  · exact op_look hC hP hI hY hx (r_imageB hC.1 hC.2.2.2.1 c1) (m_imageB hM c2) hM kpt_rfl xFr_rfl
  have n1 : ¬ nI i < 0 := nI_pos (by omega)
  have n2 : nI i < nI 2 := nI_lt hi (by omega)
  have n3 : ¬ 1 < nI i := by
    show ¬ nI 1 < nI i
    exact nI_nlt (by omega) (by omega)
  rcases hY with hN | hY
  · obtain ⟨rfl, _, ⟨d, k, a, o, n3'⟩, n4, n5, n6, n7⟩ := id hN
    exact op_look hC hP hI (Or.inl hN) hx (r_imageN hC.1 hC.2.2.2.1 n3' n1 n2) (m_imageN hM (by rw [n4]; decide) n1 n3) hM kpt_rfl xFr_rfl
  obtain ⟨p, n, m, pl, fr, to, hr, d, k, a, o, g, u, v, so, dr, y0, y1, y2, y3, y4, y5, y6⟩ := id hY
  obtain ⟨pv1, hr1, d1, k1, a1, o1, hB⟩ := rlI_any hI hi
  obtain ⟨h1, d2, k2, a2, o2, q1, q2, q3, q4⟩ := r_image hC.1 hC.2.2.2.1 y1 (by omega) hi hB
  have hM1 := xMB_fr hM q4 (fun c e1 e2 e3 => by unfold inL at e3; omega)
  obtain ⟨h2, s1, s2, s3⟩ := m_image hM1 y5.1 hi
  have hx1 := xmx_fr hx q1 q4.1
  have hx2 := xmx_fr hx1 s1 s3.1
  have hZ : ∀ c, zL lib c → ¬ inL (157 + 5 * i) c := fun c e1 e2 => by have := e1.1; have := e2.2; omega
  have hC1 : rlC X h1 fi ta lf lib ol un len it la si tp tr := by
    obtain ⟨e1, e2, e3, e4, e5, e6⟩ := hC
    exact ⟨(q4.2 16 (by unfold inL; omega)).trans e1, xRW_fr e2 q4 (fun c g1 g2 g3 => by unfold inL at g3; omega), (q4.2 29 (by unfold inL; omega)).trans e3, xPA_fr e4 q4 (by unfold inL; omega) (by unfold inL; omega), fun j hj => xAn_fr (e5 j hj) q4 (fun c g1 g2 => by have := g1.2; have := g2.1; omega), xTB_fr e6 q4 ⟨by unfold inL; omega, by unfold inL; omega⟩⟩
  have hY1 := rlNY_fr (un := un) (ol := ol) (Or.inr hY) q4 (fun c g1 g2 => by have := g1.1; have := g2.2; omega) hZ (fun c g1 g2 g3 => by have := g3.1; omega)
  have hI1 : rlI X h1 lib (setA (setA A 1 (xfold (miF (A 0) i) 54 (A 1))) 2 (upd (A 2) i 1)) := by
    rw [mi_fold]
    intro j hj
    rw [setA_eq, setA_ne (show 1 ≠ 2 by decide), setA_eq]
    by_cases e : j = i
    · subst e
      rw [upd_eq]
      refine Or.inr ⟨rfl, y0, p, n, m, pl, fr, to, hr, d2, k2, a2, o2, g, u, v, so, dr, q2, xPB_fr y2 y4 q4 hZ, xGB_fr y3 y4 q4 hZ, y4, pR_d (pR_f y5 ?_) q3⟩
      intro q hq
      try dsimp only
      rw [if_pos (by omega), Nat.add_sub_cancel_left]
    · rw [upd_ne e]
      have hd : ∀ c, inL (157 + 5 * j) c → ¬ inL (157 + 5 * i) c := fun c g1 g2 => by have := g1.1; have := g1.2; have := g2.1; have := g2.2; omega
      rcases hI j hj with ⟨z1, zh, zd, zk, za, zo, z2⟩ | ⟨z1, z2, z3⟩
      · exact Or.inl ⟨z1, zh, zd, zk, za, zo, xLB_fr z2 q4 hd⟩
      · obtain ⟨p', n', m', pl', fr', to', hr', d', k', a', o', g', u', v', so', dr', w1, w2, w3, w4, w5⟩ := xLR_fr z3 q4 hd hZ
        refine Or.inr ⟨z1, z2, p', n', m', pl', fr', to', hr', d', k', a', o', g', u', v', so', dr', w1, w2, w3, w4, pR_f w5 ?_⟩
        intro q hq
        try dsimp only
        rw [if_neg (by omega)]
  have hI2 := rlI_fr hI1 s3 (fun c c1 c2 => inM_B c (by omega) (by omega)) inM_Z
  have hY2 := rlNY_fr hY1 s3 (inM_L (Or.inr y0)) inM_Z (fun c c1 c2 => inM_B c (by omega) (by omega))
  obtain ⟨p0, p1, p2, p3, p4, p5, p6, p7, p8, p9, p10, p11, p12⟩ := hP
  refine ⟨_, h1, h2, q1, s1, ⟨fi, ta, lf, lib, ol, un, t, len, it, la, si, tp, tr, S, nm, _, rlC_fr hC1 s3 inM_B, s2, ⟨p0, p1, p2, ?_, ?_, p5, p6, p7, p8, ?_, p10, p11, p12⟩, hI2, ?_, hx2⟩, by rw [s3.1, q4.1]; omega⟩
  · rw [setA_ne (by decide), setA_ne (by decide), setA_ne (by decide), setA_ne (by decide), setA_ne (by decide), setA_ne (by decide)]; exact p3
  · rw [setA_ne (by decide), setA_ne (by decide)]; exact p4
  · rw [setA_ne (by decide), setA_ne (by decide)]; exact p9
  · unfold rlN rlY at hY2 ⊢
    rw [setA_ne (show 0 ≠ 2 by decide), setA_ne (show 0 ≠ 1 by decide), setA_ne (show 3 ≠ 2 by decide), setA_ne (show 3 ≠ 1 by decide)]
    exact hY2
theorem o_restore (H : xREL X h) (x : Int32) : opR X h m_X11_restore m_X12_restore [.ref 16, .int x] [.ref 169, .int x, xU] := by
  obtain ⟨fi, ta, lf, lib, ol, un, t, len, it, la, si, tp, tr, S, nm, A, hC, hM, hP, hI, hY, hx⟩ := H
  rcases img_cases x with ⟨c1, c2⟩ | ⟨i, hi, rfl⟩
  · exact op_look hC hP hI hY hx (r_restoreB hC.1 hC.2.2.2.1 c1) (m_restoreB hM c2) hM kpt_rfl xFr_rfl
  rcases hI i hi with ⟨z1, zh, zd, zk, za, zo, z2⟩ | ⟨z1, z2, z3⟩
  · exact op_look hC hP hI hY hx (r_restoreN hC.1 hC.2.2.2.1 hi z2) (m_restoreN hM hi z1) hM kpt_rfl xFr_rfl
  rcases hY with hN | hY
  · have := hN.1
    omega
  obtain ⟨p, n, m, pl, fr, to, hr, d, k, a, o, g, u, v, so, dr, y0, y1, y2, y3, y4, y5, y6⟩ := id hY
  obtain ⟨p', n', m', pl', fr', to', hr', d', k', a', o', g', u', v', so', dr', w1, w2, w3, w4, w5⟩ := z3
  have H := cmY_of hC hP y0 y1 y2 y3 y4 y5 y6
  have hol := H.1.2.2.2.2.2.2.2.2.1
  obtain ⟨h1, d2, k2, a2, o2, q1, q2, q3, q4, q5⟩ := r_restore hC.1 hC.2.2.2.1 y1 (by omega) (by omega) hi w1
  have hF : xFr X (aB lib) h h1 := xFr_mo q5 (fun c e => by rcases e with e | e; exact Or.inl e; exact Or.inr (Or.inr e))
  have hM1 := xMB_fr hM hF (fun c e1 e2 e3 => by unfold aB inL at e3; omega)
  obtain ⟨h2, s1, s2, s3⟩ := m_restore hM1 hi z1
  have hx1 := xmx_fr hx q1 q5.1
  have hx2 := xmx_fr hx1 s1 s3.1
  have hZ : ∀ c, zL lib c → ¬ (c = 16 ∨ inL lib c) := fun c e1 e2 => by have := e1.1; rcases e2 with e2 | e2; omega; exact e1.2 e2
  refine ⟨_, h1, h2, q1, s1, cmY_rel (ol' := ol) (un' := 0) (hr := hr') (d := d2) (k := k2) (a := a2) (o := o2) hC hP hI ⟨⟨q2, xPA_fr H.1.2.1 q5 (by unfold inL; omega) (by unfold inL; omega), q3, xPB_fr w2 w4 q5 hZ, xGB_fr w3 w4 q5 hZ, w4, fun c hc => hc, y0, hol, by omega⟩, ?_, ?_, fun j hj => by omega, upd_eq⟩ hF s2 s3 (fun i e => upd_ne e) (fun i e1 e2 => setA_ne e1) hx2, by rw [s3.1, q5.1]; omega⟩
  · intro j hj
    exact xAn_fr (H.2.1 j hj) q5 (fun c e1 e2 => by have := e1.1; have := e1.2; unfold inL at e2; omega)
  · rw [setA_eq, mrs_fold]
    refine pR_d (pR_f w5 ?_) q4
    intro q hq
    try dsimp only
    rw [if_pos hq]
end XO8
