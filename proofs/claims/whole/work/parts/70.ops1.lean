/-! ops that only look -/
def opR (X : xS) (h : xH) (m1 m2 : xMd) (as1 as2 : List Value) : Prop := ∃ v h1 h2, xR X m1 0 as1 [] h = some (some (.int v), h1) ∧ xR X m2 0 as2 [] h1 = some (some (.int v), h2) ∧ xREL X h2 ∧ h2.length ≤ h.length + 17
theorem xfold_congr {α : Type} {F G : Nat → α → α} : ∀ (n : Nat) (x : α), (∀ s, s < n → ∀ y, F s y = G s y) → xfold F n x = xfold G n x := by
  intro n
  induction n with
  | zero => intro x _; rfl
  | succ n ih =>
    intro x H
    show F n (xfold F n x) = G n (xfold G n x)
    rw [ih x (fun s hs => H s (by omega)), H n (by omega)]
theorem spot_cases (n : Nat) (hn : n ≤ 40) (x : Int32) : (x < 0 ∨ ¬ x < nI n) ∨ ∃ s, s < n ∧ x = nI s := by
  by_cases c : x < 0
  · exact Or.inl (Or.inl c)
  · obtain ⟨s, h1, rfl⟩ := xb_toInt c
    by_cases c2 : nI s < nI n
    · refine Or.inr ⟨s, ?_, rfl⟩
      rw [xlt_i, nI_toInt h1, nI_toInt (by omega)] at c2
      omega
    · exact Or.inl (Or.inr c2)
theorem x_or (x : Int32) : x < 0 ∨ ¬ x < nI 0 := by
  by_cases c : x < 0
  · exact Or.inl c
  · exact Or.inr c
theorem w_or (w : Int32) : (w = 0 ∨ w = 1) ∨ (¬ w = 0 ∧ ¬ w = 1) := by
  by_cases c : w = 0
  · exact Or.inl (Or.inl c)
  · by_cases c1 : w = 1
    · exact Or.inl (Or.inr c1)
    · exact Or.inr ⟨c, c1⟩
section XO1
variable {X : xS} {h h' : xH}
theorem op_look {fi ta lf : Int32} {lib ol un t len : Nat} {it : Nat → Nat → Int32} {la si tp tr : Nat → Int32} {S S' : Nat → Int32} {nm' : Int64} {A : Nat → Nat → Int32} {m1 m2 : xMd} {as1 as2 : List Value} {v : Int32} (hC : rlC X h fi ta lf lib ol un len it la si tp tr) (hP : rlP fi ta lf ol un t len it la si tp tr S A) (hI : rlI X h lib A) (hY : rlN X h lib un A ∨ rlY X h lib ol un A) (hx : xmx 700 h) (q1 : xR X m1 0 as1 [] h = some (some (.int v), h)) (q2 : xR X m2 0 as2 [] h = some (some (.int v), h')) (hM' : xMB X h' S' nm' A) (hk : kpt S S') (hF : xFr X inM h h') : opR X h m1 m2 as1 as2 := ⟨v, h, h', q1, q2, rl_look hC hP hI hY (xmx_fr hx q2 hF.1) hM' hk hF, by rw [hF.1]; omega⟩
theorem o_fault (H : xREL X h) : opR X h m_X11_fault m_X12_fault [.ref 16] [.ref 169] := by
  obtain ⟨fi, ta, lf, lib, ol, un, t, len, it, la, si, tp, tr, S, nm, A, hC, hM, hP, hI, hY, hx⟩ := H
  refine op_look hC hP hI hY hx (r_fault hC.1) ?_ hM kpt_rfl xFr_rfl
  rw [m_fault hM, hP.2.2.1]
theorem o_status (H : xREL X h) : opR X h m_X11_status m_X12_status [.ref 16] [.ref 169] := by
  obtain ⟨fi, ta, lf, lib, ol, un, t, len, it, la, si, tp, tr, S, nm, A, hC, hM, hP, hI, hY, hx⟩ := H
  refine op_look hC hP hI hY hx (r_status hC.1) ?_ hM kpt_rfl xFr_rfl
  rw [m_status hM, hP.1]
theorem o_trace (H : xREL X h) (x : Int32) : opR X h m_X11_trace m_X12_trace [.ref 16, .int x] [.ref 169, .int x] := by
  obtain ⟨fi, ta, lf, lib, ol, un, t, len, it, la, si, tp, tr, S, nm, A, hC, hM, hP, hI, hY, hx⟩ := H
  obtain ⟨p0, p1, p2, p3, p4, p5, p6, p7, p8, p9, p10⟩ := hP
  refine op_look hC ⟨p0, p1, p2, p3, p4, p5, p6, p7, p8, p9, p10⟩ hI hY hx (r_trace hC.1 hC.2.2.2.2.2 p7 x) ?_ hM kpt_rfl xFr_rfl
  rw [m_trace hM p7 p8]
  rcases spot_cases len (by omega) x with c | ⟨s, hs, rfl⟩
  · by_cases c1 : x < 0
    · rw [if_pos c1, if_pos c1]
    · rw [if_neg c1, if_neg c1, if_neg (c.resolve_left c1), if_neg (c.resolve_left c1)]
  · rw [nat_nI (by omega), p9 s hs]
theorem o_kind (H : xREL X h) (x : Int32) : opR X h m_X11_kind m_X12_kind [.ref 16, .int x, xU] [.ref 169, .int x] := by
  obtain ⟨fi, ta, lf, lib, ol, un, t, len, it, la, si, tp, tr, S, nm, A, hC, hM, hP, hI, hY, hx⟩ := H
  rcases hY with hN | hY
  · obtain ⟨rfl, n2, ⟨d, k, a, o, n3⟩, n4, n5, n6, n7⟩ := id hN
    exact op_look hC hP hI (Or.inl hN) hx (r_kindN hC.1 n3 x) (m_kindX hM (n := 0) (by omega) n5 (x_or x)) hM kpt_rfl xFr_rfl
  · obtain ⟨p, n, m, pl, fr, to, hr, d, k, a, o, g, u, v, so, dr, y0, y1, y2, y3, y4, y5, y6⟩ := id hY
    obtain ⟨f0, f1, f2, f3, f4, f5, f6, f7, f8, f9⟩ := y5
    rcases spot_cases n (by omega) x with c | ⟨s, hs, rfl⟩
    · exact op_look hC hP hI (Or.inr hY) hx (r_kindX hC.1 y1 y2 c) (m_kindX hM f2 f1 c) hM kpt_rfl xFr_rfl
    · refine op_look hC hP hI (Or.inr hY) hx (r_kind hC.1 y1 y2 y3 hs) ?_ hM kpt_rfl xFr_rfl
      rw [m_kind hM f2 f1 hs, (f7 s hs).2.1]
theorem o_spot (H : xREL X h) (x w : Int32) : opR X h m_X11_spot m_X12_spot [.ref 16, .int x, .int w, xU] [.ref 169, .int x, .int w, xU] := by
  obtain ⟨fi, ta, lf, lib, ol, un, t, len, it, la, si, tp, tr, S, nm, A, hC, hM, hP, hI, hY, hx⟩ := H
  rcases hY with hN | hY
  · obtain ⟨rfl, n2, ⟨d, k, a, o, n3⟩, n4, n5, n6, n7⟩ := id hN
    exact op_look hC hP hI (Or.inl hN) hx (r_spotN hC.1 n3 x w) (m_spotX hM (n := 0) (by omega) n5 w (x_or x)) hM kpt_rfl xFr_rfl
  · obtain ⟨p, n, m, pl, fr, to, hr, d, k, a, o, g, u, v, so, dr, y0, y1, y2, y3, y4, y5, y6⟩ := id hY
    obtain ⟨f0, f1, f2, f3, f4, f5, f6, f7, f8, f9⟩ := y5
    rcases spot_cases n (by omega) x with c | ⟨s, hs, rfl⟩
    · exact op_look hC hP hI (Or.inr hY) hx (r_spotX hC.1 y1 y2 w c) (m_spotX hM f2 f1 w c) hM kpt_rfl xFr_rfl
    · obtain ⟨s1, s2, s3, s4, s5, s6, ⟨b, b1, b2, b3, b4⟩, ⟨oc, o1, o2, o3⟩⟩ := f7 s hs
      refine op_look hC hP hI (Or.inr hY) hx (r_spot hC.1 y1 y2 y3 hs w) ?_ hM kpt_rfl xFr_rfl
      rw [m_spot hM f2 f1 hs (by omega) b3 w]
      unfold spS
      dsimp only
      rw [s4, s6, b4, o3, b3, b2, o2]
theorem o_fall (H : xREL X h) (x y w : Int32) : opR X h m_X11_fall m_X12_fall [.ref 16, .int x, .int y, .int w, xU] [.ref 169, .int x, .int y, .int w] := by
  obtain ⟨fi, ta, lf, lib, ol, un, t, len, it, la, si, tp, tr, S, nm, A, hC, hM, hP, hI, hY, hx⟩ := H
  rcases hY with hN | hY
  · obtain ⟨rfl, n2, ⟨d, k, a, o, n3⟩, n4, n5, n6, n7⟩ := id hN
    exact op_look hC hP hI (Or.inl hN) hx (r_fallN hC.1 n3 x y w) (m_fallX hM (n := 0) (by omega) n5 y w (x_or x)) hM kpt_rfl xFr_rfl
  · obtain ⟨p, n, m, pl, fr, to, hr, d, k, a, o, g, u, v, so, dr, y0, y1, y2, y3, y4, y5, y6⟩ := id hY
    obtain ⟨f0, f1, f2, f3, f4, f5, f6, f7, f8, f9⟩ := y5
    rcases spot_cases n (by omega) x with c | ⟨s, hs, rfl⟩
    · exact op_look hC hP hI (Or.inr hY) hx (r_fallX hC.1 y1 y2 y w c) (m_fallX hM f2 f1 y w c) hM kpt_rfl xFr_rfl
    · obtain ⟨⟨so', s0, s1, s1'⟩, s2, s3, s4, s5, s6, ⟨b, b1, b2, b3, b4⟩, ⟨oc, o1, o2, o3⟩⟩ := f7 s hs
      refine op_look hC hP hI (Or.inr hY) hx (r_fall hC.1 y1 y2 y3 hs y w) ?_ hM kpt_rfl xFr_rfl
      rw [m_fall hM f2 f1 hs (s2.trans s0) s1 s1' y w, s4, s0]
theorem o_moved (H : xREL X h) : opR X h m_X11_moved m_X12_moved [.ref 16, xU, xU] [.ref 169, xU, xU] := by
  obtain ⟨fi, ta, lf, lib, ol, un, t, len, it, la, si, tp, tr, S, nm, A, hC, hM, hP, hI, hY, hx⟩ := H
  rcases hY with hN | hY
  · obtain ⟨rfl, n2, ⟨d, k, a, o, n3⟩, n4, n5, n6, n7⟩ := id hN
    exact op_look hC hP hI (Or.inl hN) hx (r_movedN hC.1 n3) (m_movedN hM (by rw [n4]; decide)) hM kpt_rfl xFr_rfl
  · obtain ⟨p, n, m, pl, fr, to, hr, d, k, a, o, g, u, v, so, dr, y0, y1, y2, y3, y4, y5, y6⟩ := id hY
    obtain ⟨f0, f1, f2, f3, f4, f5, f6, f7, f8, f9⟩ := y5
    refine op_look hC hP hI (Or.inr hY) hx (r_moved hC.1 y1 y2) ?_ hM kpt_rfl xFr_rfl
    rw [m_moved hM f2 f1 f0]
    rw [xfold_congr n (nI 0) (F := fun s x => if A 0 (33 + s) = nI s then x else x ||| (nI 1 <<< (nI s &&& 31))) (G := fun s x => if k s = nI s then x else x ||| (nI 1 <<< (nI s &&& 31)))]
    intro s hs y
    obtain ⟨s1, s2, s3, s4, s5, s6, ⟨b, b1, b2, b3, b4⟩, s8⟩ := f7 s hs
    rw [b3, b2]
theorem dNx_eq {f : Nat → Int32} {n hr : Nat} {so dr d k a o : Nat → Int32} {s : Nat} (h25 : f 25 = nI hr) (hs : pS f n so dr d k a o s) : dNx (fun s => f (3 + s)) (fun s => f (10 + s)) (fun s => f (47 + s)) (f 25) s = dNx so dr o (nI hr) s := by
  obtain ⟨s1, s2, s3, s4, s5, s6, ⟨b, b1, b2, b3, b4⟩, ⟨oc, o1, o2, o3⟩⟩ := hs
  funext x y
  unfold dNx
  simp only [s2, s4, o3, o2, h25]
theorem goD_eq {f : Nat → Int32} {n hr : Nat} {so dr d k a o : Nat → Int32} {s : Nat} (h25 : f 25 = nI hr) (hs : pS f n so dr d k a o s) (c : Nat) : goD f s c = xfold (fun j x => dNx so dr o (nI hr) s x (nI j)) c (d s) := by
  unfold goD
  rw [dNx_eq h25 hs, hs.2.2.2.2.2.1]
theorem goA_eq {f : Nat → Int32} {n hr : Nat} {so dr d k a o : Nat → Int32} {s b : Nat} (h25 : f 25 = nI hr) (hs : pS f n so dr d k a o s) (hb : f (40 + b) = a s) (c : Nat) : goA f s b c = xfold (fun j x => fNx so o (nI hr) s x (nI j)) c (a s) := by
  obtain ⟨s1, s2, s3, s4, s5, s6, _, ⟨oc, o1, o2, o3⟩⟩ := hs
  unfold goA fNx
  simp only [hb, s2, o3, o2, h25]
theorem o_ahead (H : xREL X h) (x y w : Int32) : opR X h m_X11_ahead m_X12_ahead [.ref 16, .int x, .int y, .int w] [.ref 169, .int x, .int y, .int w] := by
  obtain ⟨fi, ta, lf, lib, ol, un, t, len, it, la, si, tp, tr, S, nm, A, hC, hM, hP, hI, hY, hx⟩ := H
  rcases hY with hN | hY
  · obtain ⟨rfl, n2, ⟨d, k, a, o, n3⟩, n4, n5, n6, n7⟩ := id hN
    exact op_look hC hP hI (Or.inl hN) hx (r_aheadN hC.1 n3 x y w) (m_aheadX hM (n := 0) (by omega) n5 y w (x_or x)) hM kpt_rfl xFr_rfl
  · obtain ⟨p, n, m, pl, fr, to, hr, d, k, a, o, g, u, v, so, dr, y0, y1, y2, y3, y4, y5, y6⟩ := id hY
    have T := pR_ST y5
    obtain ⟨f0, f1, f2, f3, f4, f5, f6, f7, f8, f9⟩ := y5
    rcases spot_cases n (by omega) x with c | ⟨s, hs, rfl⟩
    · exact op_look hC hP hI (Or.inr hY) hx (r_aheadX hC.1 y1 y2 y w c) (m_aheadX hM f2 f1 y w c) hM kpt_rfl xFr_rfl
    · by_cases c : y < 0 ∨ nI 99 < y ∨ (¬ w = 0 ∧ ¬ w = 1)
      · exact op_look hC hP hI (Or.inr hY) hx (r_aheadB hC.1 y1 y2 hs c) (m_aheadB hM T hs c) hM kpt_rfl xFr_rfl
      · have c1 : ¬ y < 0 := fun e => c (Or.inl e)
        have c2 : ¬ nI 99 < y := fun e => c (Or.inr (Or.inl e))
        have c3 : w = 0 ∨ w = 1 := by
          rcases w_or w with e | e
          · exact e
          · exact absurd (Or.inr (Or.inr e)) c
        obtain ⟨j, hj, rfl⟩ := xb_toInt c1
        have hj99 : j ≤ 99 := by
          rw [xlt_i, nI_toInt hj, nI_toInt (by omega)] at c2
          omega
        have hs7 := f7 s hs
        obtain ⟨s1, s2, s3, s4, s5, s6, ⟨b, b1, b2, b3, b4⟩, s8⟩ := id hs7
        obtain ⟨h1, S', q1, q2, q3, q4⟩ := m_ahead hM T hs b3 (by omega) hj99 c3
        rw [goD_eq f5 hs7, goA_eq f5 hs7 b4] at q1
        exact op_look hC hP hI (Or.inr hY) hx (r_ahead hC.1 y1 y2 y3 hs hj99 c3) q1 q2 q3 q4
theorem o_like (H : xREL X h) (x y : Int32) : opR X h m_X11_like m_X12_like [.ref 16, .int x, .int y, xU, xU, xU] [.ref 169, .int x, .int y, xU, xU] := by
  obtain ⟨fi, ta, lf, lib, ol, un, t, len, it, la, si, tp, tr, S, nm, A, hC, hM, hP, hI, hY, hx⟩ := H
  rcases hY with hN | hY
  · obtain ⟨rfl, n2, ⟨d, k, a, o, n3⟩, n4, n5, n6, n7⟩ := id hN
    exact op_look hC hP hI (Or.inl hN) hx (r_likeN hC.1 n3 x y) (m_likeB hM (n := 0) (by omega) n5 (Or.inl (x_or x))) hM kpt_rfl xFr_rfl
  · obtain ⟨p, n, m, pl, fr, to, hr, d, k, a, o, g, u, v, so, dr, y0, y1, y2, y3, y4, y5, y6⟩ := id hY
    have T := pR_ST y5
    obtain ⟨f0, f1, f2, f3, f4, f5, f6, f7, f8, f9⟩ := y5
    by_cases c : (x < 0 ∨ ¬ x < nI n) ∨ (y < 0 ∨ ¬ y < nI n) ∨ x = y
    · exact op_look hC hP hI (Or.inr hY) hx (r_likeB hC.1 y1 y2 c) (m_likeB hM f2 f1 c) hM kpt_rfl xFr_rfl
    · rcases spot_cases n (by omega) x with e | ⟨s, hs, rfl⟩
      · exact absurd (Or.inl e) c
      · rcases spot_cases n (by omega) y with e | ⟨j, hj, rfl⟩
        · exact absurd (Or.inr (Or.inl e)) c
        · have hne : s ≠ j := fun e => c (Or.inr (Or.inr (by rw [e])))
          have h1 := f7 s hs
          have h2 := f7 j hj
          obtain ⟨_, _, _, _, _, s6, ⟨b, b1, b2, b3, b4⟩, _⟩ := id h1
          obtain ⟨_, _, _, _, _, j6, ⟨e, e1, e2, e3, e4⟩, _⟩ := id h2
          obtain ⟨h1', S', q1, q2, q3, q4⟩ := m_like hM T hs hj hne b3 (by omega) e3 (by omega)
          rw [dNx_eq f5 h1, dNx_eq f5 h2, s6, j6] at q1
          exact op_look hC hP hI (Or.inr hY) hx (r_like hC.1 y1 y2 y3 hs hj hne) q1 q2 q3 q4
end XO1
