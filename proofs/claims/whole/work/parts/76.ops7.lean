/-! ops: take, change, dusts, hours -/
theorem nI_w {x : Int32} {c : Nat} (hc : c < 2 ^ 31) (h1 : ¬ x < nI 1) (h2 : ¬ nI c < x) : ∃ j, 1 ≤ j ∧ j ≤ c ∧ x = nI j := by
  have c0 : ¬ x < 0 := by
    intro e
    rw [xlt_i] at e h1
    have b1 : (nI 1).toInt = 1 := by decide
    rw [xti0] at e
    omega
  obtain ⟨j, hj, rfl⟩ := xb_toInt c0
  rw [xlt_i, nI_toInt hj, nI_toInt (by omega)] at h1 h2
  exact ⟨j, by omega, by omega, rfl⟩
/-- DUST is another, the rest stands -/
theorem pR_dust {f f' : Nat → Int32} {n m hr : Nat} {so dr d d' k a o u v : Nat → Int32} (H : pR f n m hr so dr d k a o u v) (h1 : ∀ j, j < n → f' (26 + j) = d' j ∧ 0 ≤ (d' j).toInt ∧ (d' j).toInt ≤ 9999) (h2 : ∀ q, q < 26 ∨ 33 ≤ q → f' q = f q) : pR f' n m hr so dr d' k a o u v := by
  obtain ⟨p0, p1, p2, p3, p4, p5, p6, p7, p8, p9⟩ := H
  refine ⟨(h2 0 (by omega)).trans p0, (h2 1 (by omega)).trans p1, p2, (h2 2 (by omega)).trans p3, p4, (h2 25 (by omega)).trans p5, p6, ?_, ?_, p9⟩
  · intro s hs
    obtain ⟨s1, s2, s3, s4, s5, s6, ⟨b, b1, b2, b3, b4⟩, ⟨c, c1, c2, c3⟩⟩ := p7 s hs
    obtain ⟨e1, e2⟩ := h1 s hs
    exact ⟨s1, (h2 _ (by omega)).trans s2, s3, (h2 _ (by omega)).trans s4, e2, e1, ⟨b, b1, b2, (h2 _ (by omega)).trans b3, (h2 _ (by omega)).trans b4⟩, c, c1, c2, (h2 _ (by omega)).trans c3⟩
  · intro r hr
    exact ⟨(h2 _ (by omega)).trans (p8 r hr).1, (h2 _ (by omega)).trans (p8 r hr).2⟩
theorem pR_take {f : Nat → Int32} {n m hr : Nat} {so dr d k a o u v : Nat → Int32} (H : pR f n m hr so dr d k a o u v) {s c : Nat} (hs : s < n) (hc : c ≤ 48) : pR (upd (upd f (26 + s) (nI 0)) (47 + s) (nI c)) n m hr so dr (upd d s (nI 0)) k a (upd o s (nI c)) u v := by
  have H1 : pR (upd f (26 + s) (nI 0)) n m hr so dr (upd d s (nI 0)) k a o u v := by
    refine pR_dust H ?_ ?_
    · intro j hj
      by_cases e : j = s
      · subst e
        rw [upd_eq, upd_eq]
        exact ⟨rfl, by decide, by decide⟩
      · rw [upd_ne e, upd_ne (by omega)]
        obtain ⟨_, _, _, _, s5, s6, _⟩ := H.2.2.2.2.2.2.2.1 j hj
        exact ⟨s6, s5⟩
    · intro q hq
      have := H.2.2.1
      exact upd_ne (by omega)
  obtain ⟨p0, p1, p2, p3, p4, p5, p6, p7, p8, p9⟩ := H1
  refine ⟨(upd_ne (by omega)).trans p0, (upd_ne (by omega)).trans p1, p2, (upd_ne (by omega)).trans p3, p4, (upd_ne (by omega)).trans p5, p6, ?_, ?_, p9⟩
  · intro j hj
    obtain ⟨s1, s2, s3, s4, s5, s6, ⟨b, b1, b2, b3, b4⟩, ⟨c', c1, c2, c3⟩⟩ := p7 j hj
    refine ⟨s1, (upd_ne (by omega)).trans s2, s3, (upd_ne (by omega)).trans s4, s5, (upd_ne (by omega)).trans s6, ⟨b, b1, b2, (upd_ne (by omega)).trans b3, (upd_ne (by omega)).trans b4⟩, ?_⟩
    by_cases e : j = s
    · subst e
      rw [upd_eq, upd_eq]
      exact ⟨c, hc, rfl, rfl⟩
    · rw [upd_ne e, upd_ne (show 47 + j ≠ 47 + s by omega)]
      exact ⟨c', c1, c2, c3⟩
  · intro r hr
    exact ⟨(upd_ne (by omega)).trans (p8 r hr).1, (upd_ne (by omega)).trans (p8 r hr).2⟩
theorem pR_change {f : Nat → Int32} {n m hr : Nat} {so dr d k a o u v : Nat → Int32} (H : pR f n m hr so dr d k a o u v) {s t : Nat} (hs : s < n) (ht : t < n) (hst : s ≠ t) : pR (upd (upd (upd (upd f (33 + s) (f (33 + t))) (33 + t) (f (33 + s))) (26 + s) (nI 0)) (26 + t) (nI 0)) n m hr so dr (upd (upd d s (nI 0)) t (nI 0)) (upd (upd k s (k t)) t (k s)) (upd (upd a s (a t)) t (a s)) o u v := by
  have hn := H.2.2.1
  have H1 : pR (upd (upd f (33 + s) (f (33 + t))) (33 + t) (f (33 + s))) n m hr so dr d (upd (upd k s (k t)) t (k s)) (upd (upd a s (a t)) t (a s)) o u v := by
    obtain ⟨p0, p1, p2, p3, p4, p5, p6, p7, p8, p9⟩ := H
    have U : ∀ q, q ≠ 33 + s → q ≠ 33 + t → upd (upd f (33 + s) (f (33 + t))) (33 + t) (f (33 + s)) q = f q := fun q q1 q2 => by rw [upd_ne q2, upd_ne q1]
    have Us : upd (upd f (33 + s) (f (33 + t))) (33 + t) (f (33 + s)) (33 + s) = f (33 + t) := by rw [upd_ne (by omega), upd_eq]
    have Ut : upd (upd f (33 + s) (f (33 + t))) (33 + t) (f (33 + s)) (33 + t) = f (33 + s) := upd_eq
    have ks : upd (upd k s (k t)) t (k s) s = k t := by rw [upd_ne hst, upd_eq]
    have kt : upd (upd k s (k t)) t (k s) t = k s := upd_eq
    have ko : ∀ j, j ≠ s → j ≠ t → upd (upd k s (k t)) t (k s) j = k j := fun j j1 j2 => by rw [upd_ne j2, upd_ne j1]
    have as : upd (upd a s (a t)) t (a s) s = a t := by rw [upd_ne hst, upd_eq]
    have at' : upd (upd a s (a t)) t (a s) t = a s := upd_eq
    have ao : ∀ j, j ≠ s → j ≠ t → upd (upd a s (a t)) t (a s) j = a j := fun j j1 j2 => by rw [upd_ne j2, upd_ne j1]
    refine ⟨(U 0 (by omega) (by omega)).trans p0, (U 1 (by omega) (by omega)).trans p1, p2, (U 2 (by omega) (by omega)).trans p3, p4, (U 25 (by omega) (by omega)).trans p5, p6, ?_, ?_, ?_⟩
    · intro j hj
      obtain ⟨s1, s2, s3, s4, s5, s6, _, ⟨c', c1, c2, c3⟩⟩ := p7 j hj
      refine ⟨s1, (U _ (by omega) (by omega)).trans s2, s3, (U _ (by omega) (by omega)).trans s4, s5, (U _ (by omega) (by omega)).trans s6, ?_, c', c1, c2, (U _ (by omega) (by omega)).trans c3⟩
      by_cases e1 : j = s
      · subst e1
        obtain ⟨_, _, _, _, _, _, ⟨b, b1, b2, b3, b4⟩, _⟩ := p7 t ht
        exact ⟨b, b1, ks.trans b2, Us.trans b3, (U _ (by omega) (by omega)).trans (b4.trans as.symm)⟩
      · by_cases e2 : j = t
        · subst e2
          obtain ⟨_, _, _, _, _, _, ⟨b, b1, b2, b3, b4⟩, _⟩ := p7 s hs
          exact ⟨b, b1, kt.trans b2, Ut.trans b3, (U _ (by omega) (by omega)).trans (b4.trans at'.symm)⟩
        · obtain ⟨_, _, _, _, _, _, ⟨b, b1, b2, b3, b4⟩, _⟩ := p7 j hj
          exact ⟨b, b1, (ko j e1 e2).trans b2, (U _ (by omega) (by omega)).trans b3, (U _ (by omega) (by omega)).trans (b4.trans (ao j e1 e2).symm)⟩
    · intro r hr
      exact ⟨(U _ (by omega) (by omega)).trans (p8 r hr).1, (U _ (by omega) (by omega)).trans (p8 r hr).2⟩
    · intro i j hi hj e
      by_cases i1 : i = s
      · subst i1
        rw [ks] at e
        by_cases j1 : j = i
        · exact j1.symm
        · by_cases j2 : j = t
          · subst j2
            rw [kt] at e
            exact p9 _ _ hi hj e.symm
          · rw [ko j j1 j2] at e
            exact absurd (p9 _ _ ht hj e) (fun q => j2 q.symm)
      · by_cases i2 : i = t
        · subst i2
          rw [kt] at e
          by_cases j1 : j = s
          · subst j1
            rw [ks] at e
            exact p9 _ _ hi hj e.symm
          · by_cases j2 : j = i
            · exact j2.symm
            · rw [ko j j1 j2] at e
              exact absurd (p9 _ _ hs hj e) (fun q => j1 q.symm)
        · rw [ko i i1 i2] at e
          by_cases j1 : j = s
          · subst j1
            rw [ks] at e
            exact absurd (p9 _ _ hi ht e) i2
          · by_cases j2 : j = t
            · subst j2
              rw [kt] at e
              exact absurd (p9 _ _ hi hs e) i1
            · rw [ko j j1 j2] at e
              exact p9 _ _ hi hj e
  refine pR_dust H1 ?_ ?_
  · intro j hj
    by_cases e1 : j = t
    · subst e1
      rw [upd_eq, upd_eq]
      exact ⟨rfl, by decide, by decide⟩
    · rw [upd_ne e1, upd_ne (show 26 + j ≠ 26 + t by omega)]
      by_cases e2 : j = s
      · subst e2
        rw [upd_eq, upd_eq]
        exact ⟨rfl, by decide, by decide⟩
      · rw [upd_ne e2, upd_ne (show 26 + j ≠ 26 + s by omega)]
        obtain ⟨_, _, _, _, s5, s6, _⟩ := H1.2.2.2.2.2.2.2.1 j hj
        exact ⟨s6, s5⟩
  · intro q hq
    rw [upd_ne (by omega), upd_ne (by omega)]
theorem dust_fold {f : Nat → Int32} {n m hr : Nat} {so dr d k a o u v : Nat → Int32} (H : pR f n m hr so dr d k a o u v) (x : Int32) : (xfold (duF x) n (nI 0, d)).1 = (xfold (mduF x) n (nI 0, f)).1 ∧ pR (xfold (mduF x) n (nI 0, f)).2 n m hr so dr (xfold (duF x) n (nI 0, d)).2 k a o u v ∧ ∀ q, q < 26 ∨ 33 ≤ q → (xfold (mduF x) n (nI 0, f)).2 q = f q := by
  have hn := H.2.2.1
  have key : ∀ c, c ≤ n → (xfold (duF x) c (nI 0, d)).1 = (xfold (mduF x) c (nI 0, f)).1 ∧ (∀ j, j < n → (xfold (mduF x) c (nI 0, f)).2 (26 + j) = (xfold (duF x) c (nI 0, d)).2 j ∧ 0 ≤ ((xfold (duF x) c (nI 0, d)).2 j).toInt ∧ ((xfold (duF x) c (nI 0, d)).2 j).toInt ≤ 9999) ∧ ∀ q, q < 26 ∨ 33 ≤ q → (xfold (mduF x) c (nI 0, f)).2 q = f q := by
    intro c
    induction c with
    | zero =>
      intro _
      refine ⟨rfl, ?_, fun _ _ => rfl⟩
      intro j hj
      obtain ⟨_, _, _, _, s5, s6, _⟩ := H.2.2.2.2.2.2.2.1 j hj
      exact ⟨s6, s5⟩
    | succ c ih =>
      intro hc
      obtain ⟨i1, i2, i3⟩ := ih (by omega)
      have e1 : xfold (duF x) (c + 1) (nI 0, d) = duF x c (xfold (duF x) c (nI 0, d)) := rfl
      have e2 : xfold (mduF x) (c + 1) (nI 0, f) = mduF x c (xfold (mduF x) c (nI 0, f)) := rfl
      rw [e1, e2]
      generalize xfold (duF x) c (nI 0, d) = y at i1 i2 ⊢
      generalize xfold (mduF x) c (nI 0, f) = z at i1 i2 i3 ⊢
      obtain ⟨y1, y2⟩ := y
      obtain ⟨z1, z2⟩ := z
      dsimp only at i1 i2 i3
      unfold duF mduF
      by_cases g : (x >>> (nI c &&& 31)) &&& nI 1 = nI 1
      · rw [if_pos g, if_pos g]
        dsimp only
        refine ⟨by rw [i1, (i2 c (by omega)).1], ?_, ?_⟩
        · intro j hj
          by_cases e : j = c
          · subst e
            rw [upd_eq, upd_eq]
            exact ⟨rfl, by decide, by decide⟩
          · rw [upd_ne e, upd_ne (by omega)]
            exact i2 j hj
        · intro q hq
          rw [upd_ne (by omega)]
          exact i3 q hq
      · rw [if_neg g, if_neg g]
        exact ⟨i1, i2, i3⟩
  obtain ⟨i1, i2, i3⟩ := key n (Nat.le_refl n)
  exact ⟨i1, pR_dust H i2 i3, i3⟩
section XO7
variable {X : xS} {h : xH}
theorem o_take (H : xREL X h) (x y : Int32) : opR X h m_X11_take m_X12_take [.ref 16, .int x, .int y] [.ref 169, .int x, .int y, xU] := by
  obtain ⟨fi, ta, lf, lib, ol, un, t, len, it, la, si, tp, tr, S, nm, A, hC, hM, hP, hI, hY, hx⟩ := H
  rcases hY with hN | hY
  · obtain ⟨rfl, n2, ⟨d, k, a, o, n3⟩, n4, n5, n6, n7⟩ := id hN
    exact op_look hC hP hI (Or.inl hN) hx (r_takeN hC.1 n3 x y) (m_takeX hM (n := 0) (by omega) n5 y (x_or x)) hM kpt_rfl xFr_rfl
  · obtain ⟨p, n, m, pl, fr, to, hr, d, k, a, o, g, u, v, so, dr, y0, y1, y2, y3, y4, y5, y6⟩ := id hY
    have H := cmY_of hC hP y0 y1 y2 y3 y4 y5 y6
    obtain ⟨f0, f1, f2, f3, f4, f5, f6, f7, f8, f9⟩ := id y5
    rcases spot_cases n (by omega) x with c | ⟨s, hs, rfl⟩
    · exact op_look hC hP hI (Or.inr hY) hx (r_takeX hC.1 y1 y2 y c) (m_takeX hM f2 f1 y c) hM kpt_rfl xFr_rfl
    by_cases c : y < nI 1 ∨ nI 48 < y
    · exact op_look hC hP hI (Or.inr hY) hx (r_takeB hC.1 y1 y2 hs c) (m_takeB hM f2 f1 hs c) hM kpt_rfl xFr_rfl
    have c1 : ¬ y < nI 1 := fun e => c (Or.inl e)
    have c2 : ¬ nI 48 < y := fun e => c (Or.inr e)
    obtain ⟨_, _, _, _, _, s6, _, ⟨oc, o1, o2, o3⟩⟩ := f7 s hs
    by_cases ho : 0 < o s
    · exact op_look hC hP hI (Or.inr hY) hx (r_takeS hC.1 y1 y2 hs c1 c2 ho) (m_takeS hM f2 f1 hs c1 c2 (by rw [o3, ← o2]; exact ho)) hM kpt_rfl xFr_rfl
    have ho2 : ¬ 0 < A 0 (47 + s) := by rw [o3, ← o2]; exact ho
    obtain ⟨pv1, hr1, d1, k1, a1, o1', hpv, hB⟩ := H.2.1 ((ol + un) % 24) (Nat.mod_lt _ (by omega))
    obtain ⟨h1, q1, q2, q3, q4⟩ := r_take H.1 hB hs c1 c2 ho
    obtain ⟨j, j1, j2, rfl⟩ := nI_w (by omega) c1 c2
    refine op_act hC hM hP hI hx H q1 q2 q3 q4 (f' := upd (upd (A 0) (26 + s) (nI 0)) (47 + s) (nI j)) ?_ (fun q hq => by rw [upd_ne (by omega), upd_ne (by omega)]) (pR_take y5 hs j2)
    intro hh hM'
    have := m_take hM' f2 f1 H.1.2.2.2.2.2.2.2.2.2 H.2.2.2.2 hs c1 c2 ho2
    rw [s6] at this
    exact this
theorem o_change (H : xREL X h) (x y : Int32) : opR X h m_X11_change m_X12_change [.ref 16, .int x, .int y] [.ref 169, .int x, .int y, xU] := by
  obtain ⟨fi, ta, lf, lib, ol, un, t, len, it, la, si, tp, tr, S, nm, A, hC, hM, hP, hI, hY, hx⟩ := H
  rcases hY with hN | hY
  · obtain ⟨rfl, n2, ⟨d, k, a, o, n3⟩, n4, n5, n6, n7⟩ := id hN
    exact op_look hC hP hI (Or.inl hN) hx (r_changeN hC.1 n3 x y) (m_changeB hM (n := 0) (by omega) n5 (Or.inl (x_or x))) hM kpt_rfl xFr_rfl
  · obtain ⟨p, n, m, pl, fr, to, hr, d, k, a, o, g, u, v, so, dr, y0, y1, y2, y3, y4, y5, y6⟩ := id hY
    have H := cmY_of hC hP y0 y1 y2 y3 y4 y5 y6
    obtain ⟨f0, f1, f2, f3, f4, f5, f6, f7, f8, f9⟩ := id y5
    by_cases c : (x < 0 ∨ ¬ x < nI n) ∨ (y < 0 ∨ ¬ y < nI n) ∨ x = y
    · exact op_look hC hP hI (Or.inr hY) hx (r_changeB hC.1 y1 y2 c) (m_changeB hM f2 f1 c) hM kpt_rfl xFr_rfl
    rcases spot_cases n (by omega) x with e | ⟨s, hs, rfl⟩
    · exact absurd (Or.inl e) c
    rcases spot_cases n (by omega) y with e | ⟨j, hj, rfl⟩
    · exact absurd (Or.inr (Or.inl e)) c
    have hne : s ≠ j := fun e => c (Or.inr (Or.inr (by rw [e])))
    obtain ⟨_, _, _, _, _, _, _, ⟨oc, o1, o2, o3⟩⟩ := f7 s hs
    obtain ⟨_, _, _, _, _, _, ⟨bj, _, bj2, bj3, _⟩, ⟨od, o4, o5, o6⟩⟩ := f7 j hj
    by_cases ho : 0 < o s ∨ 0 < o j
    · exact op_look hC hP hI (Or.inr hY) hx (r_changeS hC.1 y1 y2 hs hj hne ho) (m_changeS hM f2 f1 hs hj hne (by rw [o3, o6, ← o2, ← o5]; exact ho)) hM kpt_rfl xFr_rfl
    have ho1 : ¬ 0 < o s := fun e => ho (Or.inl e)
    have ho2 : ¬ 0 < o j := fun e => ho (Or.inr e)
    obtain ⟨pv1, hr1, d1, k1, a1, o1', hpv, hB⟩ := H.2.1 ((ol + un) % 24) (Nat.mod_lt _ (by omega))
    obtain ⟨h1, q1, q2, q3, q4⟩ := r_change H.1 hB hs hj hne ho1 ho2
    refine op_act hC hM hP hI hx H q1 q2 q3 q4 (f' := upd (upd (upd (upd (A 0) (33 + s) (A 0 (33 + j))) (33 + j) (A 0 (33 + s))) (26 + s) (nI 0)) (26 + j) (nI 0)) ?_ (fun q hq => by rw [upd_ne (by omega), upd_ne (by omega), upd_ne (by omega), upd_ne (by omega)]) (pR_change y5 hs hj hne)
    intro hh hM'
    have := m_change hM' f2 f1 H.1.2.2.2.2.2.2.2.2.2 H.2.2.2.2 hs hj hne (by rw [o3, ← o2]; exact ho1) (by rw [o6, ← o5]; exact ho2)
    rw [bj2, ← bj3]
    exact this
theorem o_dusts (H : xREL X h) (x : Int32) : opR X h m_X11_dusts m_X12_dusts [.ref 16, .int x, xU, xU] [.ref 169, .int x, xU, xU] := by
  obtain ⟨fi, ta, lf, lib, ol, un, t, len, it, la, si, tp, tr, S, nm, A, hC, hM, hP, hI, hY, hx⟩ := H
  rcases hY with hN | hY
  · obtain ⟨rfl, n2, ⟨d, k, a, o, n3⟩, n4, n5, n6, n7⟩ := id hN
    exact op_look hC hP hI (Or.inl hN) hx (r_dustsN hC.1 n3 x) (m_dustsN hM (by rw [n4]; decide) x) hM kpt_rfl xFr_rfl
  · obtain ⟨p, n, m, pl, fr, to, hr, d, k, a, o, g, u, v, so, dr, y0, y1, y2, y3, y4, y5, y6⟩ := id hY
    have H := cmY_of hC hP y0 y1 y2 y3 y4 y5 y6
    obtain ⟨f0, f1, f2, f3, f4, f5, f6, f7, f8, f9⟩ := id y5
    by_cases c : x &&& (allS n ^^^ (-1)) = 0
    · obtain ⟨pv1, hr1, d1, k1, a1, o1', hpv, hB⟩ := H.2.1 ((ol + un) % 24) (Nat.mod_lt _ (by omega))
      obtain ⟨h1, q1, q2, q3, q4⟩ := r_dusts H.1 hB c
      obtain ⟨z1, z2, z3⟩ := dust_fold y5 x
      refine op_act hC hM hP hI hx H q1 q2 q3 q4 (f' := (xfold (mduF x) n (nI 0, A 0)).2) ?_ (fun q hq => z3 q (by omega)) z2
      intro hh hM'
      rw [z1]
      exact m_dusts hM' f2 f1 f0 H.1.2.2.2.2.2.2.2.2.2 H.2.2.2.2 c
    · exact op_look hC hP hI (Or.inr hY) hx (r_dustsB hC.1 y1 y2 c) (m_dustsB hM f2 f1 f0 c) hM kpt_rfl xFr_rfl
end XO7
