/-! ops that only look: when, who, oneHand, hide, count -/
theorem x_len (x : Int32) : (x < 0 ∨ nI 9999 < x) ∨ (¬ x < 0 ∧ ¬ nI 9999 < x) := by
  by_cases c : x < 0
  · exact Or.inl (Or.inl c)
  · by_cases c1 : nI 9999 < x
    · exact Or.inl (Or.inr c1)
    · exact Or.inr ⟨c, c1⟩
theorem mfl_eq {f : Nat → Int32} {n : Nat} {so dr d k a o : Nat → Int32} {s : Nat} (hs : pS f n so dr d k a o s) : mfl f s = fun t => fallS (so s) (dr s) (nI t) := by
  funext t
  unfold mfl
  rw [hs.2.1, hs.2.2.2.1]
theorem mfl_rng {f : Nat → Int32} {n : Nat} {so dr d k a o : Nat → Int32} {s : Nat} (hs : pS f n so dr d k a o s) (t : Nat) : 0 ≤ (mfl f s t).toInt ∧ (mfl f s t).toInt ≤ 10 := by
  obtain ⟨⟨so', s0, s1, s1'⟩, s2, s3, s4, _⟩ := hs
  unfold mfl
  rw [s2, s4, s0]
  exact fall_rng (t := 0) s1 s1' s3 (nI t)
theorem cmS_eq {f u v : Nat → Int32} {m : Nat} (h : ∀ r, r < m → f (17 + r) = u r ∧ f (21 + r) = v r) : cmS m (fun r => f (17 + r)) (fun r => f (21 + r)) = cmS m u v := by
  funext t
  unfold cmS
  refine xfold_congr m (nI 0) ?_
  intro r hr y
  simp only [(h r hr).1, (h r hr).2]
theorem fwP_1 (l : Option Nat) (F : Nat → Int32) : (fwP l F).1 = xO (l.map (fTS F)) := by cases l <;> rfl
theorem fwP_2 (l : Option Nat) (F : Nat → Int32) : (fwP l F).2 = xO l := by cases l <;> rfl
section XO2
variable {X : xS} {h h' : xH}
theorem o_when (H : xREL X h) (x y w : Int32) : opR X h m_X11_when m_X12_when [.ref 16, .int x, .int y, .int w] [.ref 169, .int x, .int y, .int w] := by
  obtain ⟨fi, ta, lf, lib, ol, un, t, len, it, la, si, tp, tr, S, nm, A, hC, hM, hP, hI, hY, hx⟩ := H
  rcases hY with hN | hY
  · obtain ⟨rfl, n2, ⟨d, k, a, o, n3⟩, n4, n5, n6, n7⟩ := id hN
    exact op_look hC hP hI (Or.inl hN) hx (r_whenB hC.1 (r_canLieN hC.1 n3 x y)) (m_whenX hM (n := 0) (by omega) n5 y w (x_or x)) hM kpt_rfl xFr_rfl
  · obtain ⟨p, n, m, pl, fr, to, hr, d, k, a, o, g, u, v, so, dr, y0, y1, y2, y3, y4, y5, y6⟩ := id hY
    have T := pR_ST y5
    obtain ⟨f0, f1, f2, f3, f4, f5, f6, f7, f8, f9⟩ := y5
    rcases spot_cases n (by omega) x with c | ⟨s, hs, rfl⟩
    · exact op_look hC hP hI (Or.inr hY) hx (r_whenB hC.1 (r_canLieF hC.1 y1 y2 (Or.inl c))) (m_whenX hM f2 f1 y w c) hM kpt_rfl xFr_rfl
    · rcases x_len y with c | ⟨c1, c2⟩
      · exact op_look hC hP hI (Or.inr hY) hx (r_whenB hC.1 (r_canLieF hC.1 y1 y2 (Or.inr c))) (m_whenB hM T hs (by rcases c with c | c; exact Or.inl c; exact Or.inr (Or.inl c))) hM kpt_rfl xFr_rfl
      · have q0 := r_canLieT hC.1 y1 y2 hs c1 c2
        rcases w_or w with c3 | c3
        · obtain ⟨h1, S', q1, q2, q3, q4⟩ := m_when hM T hs c1 c2 (mfl_rng (f7 s hs)) c3
          rw [fwP_1, fwP_2, mfl_eq (f7 s hs)] at q1
          exact op_look hC hP hI (Or.inr hY) hx (r_when hC.1 (by omega) y1 y2 y3 hs c1 c2 c3) q1 q2 q3 q4
        · exact op_look hC hP hI (Or.inr hY) hx (r_whenE hC.1 q0 c3.1 c3.2) (m_whenB hM T hs (Or.inr (Or.inr c3))) hM kpt_rfl xFr_rfl
theorem o_who (H : xREL X h) (x y w : Int32) : opR X h m_X11_who m_X12_who [.ref 16, .int x, .int y, .int w] [.ref 169, .int x, .int y, .int w] := by
  obtain ⟨fi, ta, lf, lib, ol, un, t, len, it, la, si, tp, tr, S, nm, A, hC, hM, hP, hI, hY, hx⟩ := H
  rcases hY with hN | hY
  · obtain ⟨rfl, n2, ⟨d, k, a, o, n3⟩, n4, n5, n6, n7⟩ := id hN
    exact op_look hC hP hI (Or.inl hN) hx (r_whoB hC.1 (r_canLieN hC.1 n3 x y)) (m_whoX hM (n := 0) (by omega) n5 y w (x_or x)) hM kpt_rfl xFr_rfl
  · obtain ⟨p, n, m, pl, fr, to, hr, d, k, a, o, g, u, v, so, dr, y0, y1, y2, y3, y4, y5, y6⟩ := id hY
    have T := pR_ST y5
    obtain ⟨f0, f1, f2, f3, f4, f5, f6, f7, f8, f9⟩ := y5
    rcases spot_cases n (by omega) x with c | ⟨s, hs, rfl⟩
    · exact op_look hC hP hI (Or.inr hY) hx (r_whoB hC.1 (r_canLieF hC.1 y1 y2 (Or.inl c))) (m_whoX hM f2 f1 y w c) hM kpt_rfl xFr_rfl
    · rcases x_len y with c | ⟨c1, c2⟩
      · exact op_look hC hP hI (Or.inr hY) hx (r_whoB hC.1 (r_canLieF hC.1 y1 y2 (Or.inr c))) (m_whoB hM T hs (by rcases c with c | c; exact Or.inl c; exact Or.inr (Or.inl c))) hM kpt_rfl xFr_rfl
      · have q0 := r_canLieT hC.1 y1 y2 hs c1 c2
        rcases w_or w with c3 | c3
        · obtain ⟨h1, S', q1, q2, q3, q4⟩ := m_who hM T hs c1 c2 (mfl_rng (f7 s hs)) c3
          rw [cmS_eq f8, mfl_eq (f7 s hs)] at q1
          exact op_look hC hP hI (Or.inr hY) hx (r_who hC.1 (by omega) y1 y2 y3 hs c1 c2 c3) q1 q2 q3 q4
        · exact op_look hC hP hI (Or.inr hY) hx (r_whoE hC.1 q0 c3.1 c3.2) (m_whoB hM T hs (Or.inr (Or.inr c3))) hM kpt_rfl xFr_rfl
theorem o_oneHand (H : xREL X h) (x : Int32) : opR X h m_X11_oneHand m_X12_oneHand [.ref 16, .int x, xU, xU, xU] [.ref 169, .int x, xU, xU] := by
  obtain ⟨fi, ta, lf, lib, ol, un, t, len, it, la, si, tp, tr, S, nm, A, hC, hM, hP, hI, hY, hx⟩ := H
  rcases hY with hN | hY
  · obtain ⟨rfl, n2, ⟨d, k, a, o, n3⟩, n4, n5, n6, n7⟩ := id hN
    exact op_look hC hP hI (Or.inl hN) hx (r_oneHandN hC.1 n3 x) (m_oneHandN hM (by rw [n4]; decide) x) hM kpt_rfl xFr_rfl
  · obtain ⟨p, n, m, pl, fr, to, hr, d, k, a, o, g, u, v, so, dr, y0, y1, y2, y3, y4, y5, y6⟩ := id hY
    have T := pR_ST y5
    obtain ⟨f0, f1, f2, f3, f4, f5, f6, f7, f8, f9⟩ := y5
    by_cases c : x &&& (allS n ^^^ (-1)) = 0
    · obtain ⟨h1, S', q1, q2, q3, q4⟩ := m_oneHand hM T c (fun s hs => by
        obtain ⟨_, _, _, _, s5, s6, _⟩ := f7 s hs
        rw [s6, xlt_i, xlt_i, xti0, nI_toInt (by omega)]
        omega) (fun s hs => mfl_rng (f7 s hs))
      rw [cmS_eq f8] at q1
      rw [xfold_congr n (allS m) (G := ohF so dr d (cmS m u v) m hr x)] at q1
      · exact op_look hC hP hI (Or.inr hY) hx (r_oneHand hC.1 (by omega) y1 y2 y3 c) q1 q2 q3 q4
      · intro s hs y
        obtain ⟨_, s2, _, s4, _, s6, _⟩ := f7 s hs
        unfold ohF
        simp only [s2, s4, s6]
    · exact op_look hC hP hI (Or.inr hY) hx (r_oneHandB hC.1 y1 y2 c) (m_oneHandB hM f2 f1 f0 c) hM kpt_rfl xFr_rfl
theorem o_count (H : xREL X h) (w : Int32) : opR X h m_X11_count m_X12_count [.ref 16, .int w] [.ref 169, .int w, xU, xU] := by
  obtain ⟨fi, ta, lf, lib, ol, un, t, len, it, la, si, tp, tr, S, nm, A, hC, hM, hP, hI, hY, hx⟩ := H
  have hrow : xfold (fun r x => x + if A 4 r = -1000000 then nI 0 else nI 1) 8 (nI 0) = xfold (fun r x => x + if si r < 0 then nI 0 else nI 1) 8 (nI 0) := by
    refine xfold_congr 8 (nI 0) ?_
    intro r hr y
    obtain ⟨r1, r2⟩ := hP.2.2.2.1 r hr
    rcases r1 with ⟨e1, e2⟩ | ⟨c, e1, e2, e3, e4, l, e5, e6⟩
    · rw [e1, e2, if_pos rfl, if_pos (by decide)]
    · rw [e2, e4, e6, if_neg (nI_neNO (by omega)), if_neg (nI_pos (by omega))]
  obtain ⟨p0, p1, p2, p3, p4, p5, p6, p7, p8, p9, p10, p11, p12⟩ := id hP
  rcases hY with hN | hY
  · obtain ⟨rfl, rfl, ⟨d, k, a, o, n3⟩, n4, n5, n6, n7⟩ := id hN
    refine op_look hC hP hI (Or.inl hN) hx (r_count hC.1 n3 hC.2.1 (r_spotsN n3) (r_readersN n3) (r_howManyOutN n3) w) ?_ hM kpt_rfl xFr_rfl
    rw [m_count hM (n := 0) (by omega) n5, hrow, n6, n7, p12, p6, p1]
    rfl
  · obtain ⟨p, n, m, pl, fr, to, hr, d, k, a, o, g, u, v, so, dr, y0, y1, y2, y3, y4, y5, y6⟩ := id hY
    obtain ⟨f0, f1, f2, f3, f4, f5, f6, f7, f8, f9⟩ := y5
    refine op_look hC hP hI (Or.inr hY) hx (r_count hC.1 y1 hC.2.1 (r_spots y1 y2) (r_readers y1 y2) (r_howManyOut y1 y2) w) ?_ hM kpt_rfl xFr_rfl
    rw [m_count hM f2 f1, hrow, f3, f5, p12, p6, p1]
    rw [xfold_congr n (nI 0) (F := fun s x => x + if 0 < A 0 (47 + s) then nI 1 else nI 0) (G := fun s x => x + if 0 < o s then nI 1 else nI 0)]
    intro s hs y
    obtain ⟨_, _, _, _, _, _, _, c, c1, c2, c3⟩ := f7 s hs
    rw [c3, c2]
end XO2
