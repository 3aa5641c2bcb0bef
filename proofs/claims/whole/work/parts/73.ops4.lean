/-! ops on rows; as, feed -/
section XO4
variable {X : xS} {h h1 h2 h' : xH} {fi ta lf fi' ta' lf' : Int32} {lib ol un t len t' len' : Nat} {it it' : Nat → Nat → Int32} {la si tp tr la' si' tp' tr' : Nat → Int32} {S S' : Nat → Int32} {nm nm' : Int64} {A A' : Nat → Nat → Int32} {B : Nat → Prop}
/-- after a call that leaves the libraries alone -/
theorem rl_rows (hI : rlI X h lib A) (hY : rlN X h lib un A ∨ rlY X h lib ol un A) (hC1 : rlC X h1 fi' ta' lf' lib ol un len' it' la' si' tp' tr') (hF1 : xFr X B h h1) (hB : ∀ c, B c → c ≤ 29 ∨ c = 167 ∨ c = 168) (hM2 : xMB X h2 S' nm' A') (hF2 : xFr X inM h1 h2) (hP2 : rlP fi' ta' lf' ol un t' len' it' la' si' tp' tr' S' A') (hA : A' 0 = A 0 ∧ A' 1 = A 1 ∧ A' 2 = A 2 ∧ A' 3 = A 3) (hx : xmx 700 h2) : xREL X h2 := by
  have hl := rl_lib hY
  have hBL : ∀ c, inL lib c → ¬ B c := fun c c1 c2 => by have := hB c c2; have := c1.1; have := c1.2; omega
  have hBZ : ∀ c, zL lib c → ¬ B c := fun c c1 c2 => by have := hB c c2; have := c1.1; omega
  have hI1 := rlI_fr hI hF1 (fun c c1 c2 c3 => by have := hB c c3; omega) hBZ
  have hY1 := rlNY_fr hY hF1 hBL hBZ (fun c c1 c2 c3 => by have := hB c c3; omega)
  have hI2 := rlI_fr hI1 hF2 (fun c c1 c2 => inM_B c (by omega) (by omega)) inM_Z
  have hY2 := rlNY_fr hY1 hF2 (inM_L hl) inM_Z (fun c c1 c2 => inM_B c (by omega) (by omega))
  obtain ⟨a0, a1, a2, a3⟩ := hA
  refine ⟨_, _, _, lib, ol, un, t', len', it', la', si', tp', tr', S', nm', A', rlC_fr hC1 hF2 inM_B, hM2, hP2, ?_, ?_, hx⟩
  · unfold rlI at hI2 ⊢
    rw [a1, a2]
    exact hI2
  · unfold rlN rlY at hY2 ⊢
    rw [a0, a3]
    exact hY2
theorem rlC_fi (hC : rlC X h fi ta lf lib ol un len it la si tp tr) (f : Int32) : rlC X (xset h 16 (xCc f ta lf lib (nI ol) (nI un))) f ta lf lib ol un len it la si tp tr := by
  have hF : xFr X (fun c => c = 16) h (xset h 16 (xCc f ta lf lib (nI ol) (nI un))) := xFr_set (by omega) rfl
  obtain ⟨c1, c2, c3, c4, c5, c6⟩ := hC
  exact ⟨xCB_set c1, xRW_fr c2 hF (fun c e1 e2 e3 => by omega), (hF.2 29 (by omega)).trans c3, xPA_fr c4 hF (by omega) (by omega), fun j hj => xAn_fr (c5 j hj) hF (fun c e1 e2 => by have := e1.1; omega), xTB_fr c6 hF ⟨by omega, by omega⟩⟩
/-- a call refused with a finding: both tell it -/
theorem op_find {m1 m2 : xMd} {as1 as2 : List Value} {v f : Int32} (hC : rlC X h fi ta lf lib ol un len it la si tp tr) (hM : xMB X h S nm A) (hP : rlP fi ta lf ol un t len it la si tp tr S A) (hI : rlI X h lib A) (hY : rlN X h lib un A ∨ rlY X h lib ol un A) (hx : xmx 700 h) (q1 : xR X m1 0 as1 [] h = some (some (.int v), xset h 16 (xCc f ta lf lib (nI ol) (nI un)))) (q2 : ∀ hh, xMB X hh S nm A → xR X m2 0 as2 [] hh = some (some (.int v), xset hh 169 (xMc (upd S 1 f) nm))) : opR X h m1 m2 as1 as2 := by
  have hF : xFr X (fun c => c = 16) h (xset h 16 (xCc f ta lf lib (nI ol) (nI un))) := xFr_set (by omega) rfl
  have hM1 := xMB_fr hM hF (fun c e1 e2 e3 => by omega)
  have q3 := q2 _ hM1
  have hx1 := xmx_fr hx q1 (by rw [xset_len])
  have hx2 := xmx_fr hx1 q3 (by rw [xset_len])
  refine ⟨v, _, _, q1, q3, rl_rows (t' := t) hI hY (rlC_fi hC f) hF (fun c e => by omega) (xMB_S (S' := upd S 1 f) (nm' := nm) hM1) (xFr_set (by omega) ⟨by omega, by omega⟩) ?_ ⟨rfl, rfl, rfl, rfl⟩ hx2, by rw [xset_len, xset_len]; omega⟩
  obtain ⟨p0, p1, p2, p3, p4, p5, p6, p7, p8, p9, p10, p11, p12⟩ := hP
  refine ⟨upd_eq, p1, ?_, p3, p4, p5, ?_, p7, ?_, p9, p10, p11, ?_⟩
  · rw [upd_ne (by decide)]; exact p2
  · rw [upd_ne (by decide)]; exact p6
  · rw [upd_ne (by decide)]; exact p8
  · rw [upd_ne (by decide)]; exact p12
theorem rlP_fi {f : Int32} {it2 : Nat → Nat → Int32} {la2 si2 : Nat → Int32} {A2 : Nat → Nat → Int32} (hP : rlP fi ta lf ol un t len it la si tp tr S A) (hR : rwR it2 la2 si2 (A2 4) (A2 5) (A2 6)) (h7 : A2 7 = A 7) (h9 : A2 9 = A 9) : rlP f ta lf ol un t len it2 la2 si2 tp tr (upd S 1 f) A2 := by
  obtain ⟨p0, p1, p2, p3, p4, p5, p6, p7, p8, p9, p10, p11, p12⟩ := hP
  refine ⟨upd_eq, p1, ?_, hR, by rw [h7]; exact p4, p5, ?_, p7, ?_, by rw [h9]; exact p9, p10, p11, ?_⟩
  · rw [upd_ne (by decide)]; exact p2
  · rw [upd_ne (by decide)]; exact p6
  · rw [upd_ne (by decide)]; exact p8
  · rw [upd_ne (by decide)]; exact p12
theorem mr_fold (r : Nat) (y : Nat → Int32) : ∀ c, xfold (mrF r) c y = fun q => if 40 * r ≤ q ∧ q < 40 * r + c then nI 0 else y q := by
  intro c
  induction c with
  | zero => funext q; rw [if_neg (by omega)]; rfl
  | succ c ih =>
    show mrF r c (xfold (mrF r) c y) = _
    rw [ih]
    unfold mrF upd
    funext q
    by_cases e : q = 40 * r + c
    · rw [if_pos e, if_pos (by omega)]
    · rw [if_neg e]
      dsimp only
      by_cases e2 : 40 * r ≤ q ∧ q < 40 * r + c
      · rw [if_pos e2, if_pos (by omega)]
      · rw [if_neg e2, if_neg (by omega)]
theorem inFr_rows {h h' : xH} (e : xFr X (fun c => 16 ≤ c ∧ c ≤ 28) h h') (hC : rlC X h fi ta lf lib ol un len it la si tp tr) (c1 : xCB X h' fi' ta' lf' lib (nI ol) (nI un)) (c2 : xRW X h' it' la' si') : rlC X h' fi' ta' lf' lib ol un len it' la' si' tp tr := by
  obtain ⟨_, _, c3, c4, c5, c6⟩ := hC
  exact ⟨c1, c2, (e.2 29 (by omega)).trans c3, xPA_fr c4 e (by omega) (by omega), fun j hj => xAn_fr (c5 j hj) e (fun c e1 e2 => by have := e1.1; omega), xTB_fr c6 e ⟨by omega, by omega⟩⟩
theorem o_row (H : xREL X h) (x l n : Int32) : opR X h m_X11_row m_X12_row [.ref 16, .int x, .int l, .int n] [.ref 169, .int x, .int l, .int n, xU] := by
  obtain ⟨fi, ta, lf, lib, ol, un, t, len, it, la, si, tp, tr, S, nm, A, hC, hM, hP, hI, hY, hx⟩ := H
  have b3 : (nI 3).toInt = 3 := by decide
  have b2 : (nI 2).toInt = 2 := by decide
  have b0 : (nI 0).toInt = 0 := by decide
  have lx : ¬ l < 0 → ¬ nI 2 < l → l < nI 3 := by
    intro e1 e2
    rw [xlt_i] at e1 e2 ⊢
    omega
  by_cases c : (x < 0 ∨ ¬ x < nI 8) ∨ (l < nI 0 ∨ nI 2 < l) ∨ nI 40 < n
  · refine op_look hC hP hI hY hx (r_rowX hC.1 hC.2.1 ?_) (m_rowX hM c) hM kpt_rfl xFr_rfl
    rcases c with c | (c | c) | c
    · exact Or.inl c
    · exact Or.inr (Or.inl c)
    · refine Or.inr (Or.inr (Or.inl ?_))
      rw [xlt_i] at c ⊢
      omega
    · exact Or.inr (Or.inr (Or.inr c))
  · rcases spot_cases 8 (by omega) x with e | ⟨r, hr, rfl⟩
    · exact absurd (Or.inl e) c
    have c1 : ¬ l < 0 := fun e => c (Or.inr (Or.inl (Or.inl e)))
    have c2 : ¬ nI 2 < l := fun e => c (Or.inr (Or.inl (Or.inr e)))
    have c3 : ¬ nI 40 < n := fun e => c (Or.inr (Or.inr e))
    by_cases c4 : n < 0
    · exact op_find hC hM hP hI hY hx (r_rowN hC.1 hC.2.1 hr c1 (lx c1 c2) c4) (fun hh hM' => m_rowN hM' hr c1 c2 c4)
    · obtain ⟨h1, f', q1, q2, q3, q4, q5⟩ := r_rowG hC.1 hC.2.1 hr c1 (lx c1 c2) c4 c3
      have hM1 := xMB_fr hM q5 (fun c e1 e2 e3 => by omega)
      obtain ⟨h2, s1, s2, s3⟩ := m_rowG hM1 hr c1 c2 c4 c3
      have hx1 := xmx_fr hx q1 q5.1
      have hx2 := xmx_fr hx1 s1 s3.1
      have a0 : ∀ i, i ≠ 4 → i ≠ 5 → i ≠ 6 → setA (setA (setA A 4 (upd (A 4) r l)) 5 (upd (A 5) r n)) 6 (xfold (mrF r) 40 (A 6)) i = A i := by
        intro i i4 i5 i6
        rw [setA_ne i6, setA_ne i5, setA_ne i4]
      refine ⟨n, h1, h2, q1, s1, rl_rows hI hY (inFr_rows q5 hC q2 q3) q5 (fun c e => by omega) s2 s3 (rlP_fi hP ?_ (a0 7 (by decide) (by decide) (by decide)) (a0 9 (by decide) (by decide) (by decide))) ⟨a0 0 (by decide) (by decide) (by decide), a0 1 (by decide) (by decide) (by decide), a0 2 (by decide) (by decide) (by decide), a0 3 (by decide) (by decide) (by decide)⟩ hx2, by rw [s3.1, q5.1]; omega⟩
      rw [setA_ne (show 4 ≠ 6 by decide), setA_ne (show 4 ≠ 5 by decide), setA_eq, setA_ne (show 5 ≠ 6 by decide), setA_eq, setA_eq, mr_fold]
      intro k hk
      obtain ⟨r1, r2⟩ := hP.2.2.2.1 k hk
      by_cases e : k = r
      · subst e
        rw [upd_eq, upd_eq, upd_eq, upd_eq]
        obtain ⟨cn, hcn, rfl⟩ := xb_toInt c4
        obtain ⟨j, hj, rfl⟩ := xb_toInt c1
        rw [xlt_i, nI_toInt hcn, nI_toInt (by omega)] at c3
        rw [xlt_i, nI_toInt hj, nI_toInt (by omega)] at c2
        refine ⟨Or.inr ⟨cn, by omega, rfl, rfl, rfl, j, by omega, rfl⟩, ?_⟩
        intro i hi
        try dsimp only
        rw [if_pos rfl, q4 i hi, if_pos (by omega)]
      · rw [upd_ne e, upd_ne e, upd_ne e, upd_ne e]
        refine ⟨r1, ?_⟩
        intro i hi
        try dsimp only
        rw [if_neg e, if_neg (by omega)]
        exact r2 i hi
theorem rw_si {L Z I : Nat → Int32} (hR : rwR it la si L Z I) {r : Nat} (hr : r < 8) : (si r < 0 ∧ L r = -1000000) ∨ (∃ c, c ≤ 40 ∧ si r = nI c ∧ Z r = nI c ∧ L r = la r ∧ ¬ L r = -1000000 ∧ ¬ si r < 0 ∧ 0 ≤ (Z r).toInt) := by
  rcases (hR r hr).1 with ⟨e1, e2⟩ | ⟨c, e1, e2, e3, e4, l, e5, e6⟩
  · exact Or.inl ⟨by rw [e1]; decide, e2⟩
  · exact Or.inr ⟨c, e1, e2, e3, e4, by rw [e4, e6]; exact nI_neNO (by omega), by rw [e2]; exact nI_pos (by omega), by rw [e3, nI_toInt (by omega)]; omega⟩
theorem o_set (H : xREL X h) (x i w : Int32) : opR X h m_X11_set m_X12_set [.ref 16, .int x, .int i, .int w] [.ref 169, .int x, .int i, .int w, xU] := by
  obtain ⟨fi, ta, lf, lib, ol, un, t, len, it, la, si, tp, tr, S, nm, A, hC, hM, hP, hI, hY, hx⟩ := H
  rcases spot_cases 8 (by omega) x with c | ⟨r, hr, rfl⟩
  · exact op_look hC hP hI hY hx (r_setX hC.1 hC.2.1 c) (m_setX hM c) hM kpt_rfl xFr_rfl
  have hR := hP.2.2.2.1
  rcases rw_si hR hr with ⟨e1, e2⟩ | ⟨c, e1, e2, e3, e4, e5, e6, e7⟩
  · have ef : fiA (si r) i (nI 1) = nI 1 := if_pos e1
    have q := r_setF hC.1 hC.2.1 (i := i) (v := w) hr (by rw [ef]; decide)
    rw [ef] at q
    exact op_find hC hM hP hI hY hx q (fun hh hM' => m_setN hM' hr e2)
  · by_cases k : i < 0 ∨ nI c - nI 1 < i
    · have ef : fiA (si r) i (nI 1) = nI 2 := by
        unfold fiA wiS
        rw [e2, if_neg (nI_pos (by omega))]
        by_cases k1 : i < 0
        · rw [if_pos k1]; rfl
        · rw [if_neg k1, if_neg (show ¬ nI 1 < 0 by decide), if_pos (k.resolve_left k1)]; rfl
      have q := r_setF hC.1 hC.2.1 (i := i) (v := w) hr (by rw [ef]; decide)
      rw [ef] at q
      exact op_find hC hM hP hI hY hx q (fun hh hM' => m_setF hM' hr e5 (by rw [e3]; exact k))
    · have k1 : ¬ i < 0 := fun e => k (Or.inl e)
      have k2 : ¬ nI c - nI 1 < i := fun e => k (Or.inr e)
      have ef : fiA (si r) i (nI 1) = 0 := by
        unfold fiA wiS
        rw [e2, if_neg (nI_pos (by omega)), if_neg k1, if_neg (show ¬ nI 1 < 0 by decide), if_neg k2]; rfl
      obtain ⟨j, hj, rfl⟩ := xb_toInt k1
      have hj40 : j < 40 := by
        have r1 := i_rng (nI c)
        rw [nI_toInt (by omega)] at r1
        have := sub_i (x := nI c) (y := nI 1) (by rw [nI_toInt (by omega), nI_toInt (by omega)]; omega) (by rw [nI_toInt (by omega), nI_toInt (by omega)]; omega)
        rw [xlt_i, this, nI_toInt (by omega), nI_toInt (by omega), nI_toInt hj] at k2
        omega
      obtain ⟨h1, q1, q2, q3, q4⟩ := r_setG hC.1 hC.2.1 (v := w) hr hj40 ef
      have hM1 := xMB_fr hM q4 (fun c e1 e2 e3 => by omega)
      obtain ⟨h2, s1, s2, s3⟩ := m_setG hM1 (v := w) hr hj40 e5 (by rw [e3]; exact k2)
      rw [e4] at s1 s2
      have hx1 := xmx_fr hx q1 q4.1
      have hx2 := xmx_fr hx1 s1 s3.1
      refine ⟨_, h1, h2, q1, s1, rl_rows hI hY (inFr_rows q4 hC q2 q3) q4 (fun c e => by omega) s2 s3 (rlP_fi hP ?_ (setA_ne (by decide)) (setA_ne (by decide))) ⟨setA_ne (by decide), setA_ne (by decide), setA_ne (by decide), setA_ne (by decide)⟩ hx2, by rw [s3.1, q4.1]; omega⟩
      rw [setA_ne (show 4 ≠ 6 by decide), setA_ne (show 5 ≠ 6 by decide), setA_eq]
      intro k hk
      obtain ⟨r1, r2⟩ := hR k hk
      refine ⟨r1, ?_⟩
      intro i hi
      try dsimp only
      by_cases e : k = r
      · subst e
        rw [if_pos rfl]
        by_cases g : i = j
        · subst g
          rw [upd_eq, upd_eq]
        · rw [upd_ne g, upd_ne (by omega)]
          exact r2 i hi
      · rw [if_neg e, upd_ne (by omega)]
        exact r2 i hi
theorem o_drop (H : xREL X h) (x : Int32) : opR X h m_X11_drop m_X12_drop [.ref 16, .int x] [.ref 169, .int x] := by
  obtain ⟨fi, ta, lf, lib, ol, un, t, len, it, la, si, tp, tr, S, nm, A, hC, hM, hP, hI, hY, hx⟩ := H
  rcases spot_cases 8 (by omega) x with c | ⟨r, hr, rfl⟩
  · exact op_look hC hP hI hY hx (r_dropX hC.1 hC.2.1 c) (m_dropX hM c) hM kpt_rfl xFr_rfl
  have hR := hP.2.2.2.1
  rcases rw_si hR hr with ⟨e1, e2⟩ | ⟨c, e1, e2, e3, e4, e5, e6, e7⟩
  · exact op_find (f := 1) hC hM hP hI hY hx (r_dropF hC.1 hC.2.1 hr e1) (fun hh hM' => m_dropF hM' hr e2)
  · obtain ⟨h1, q1, q2, q3, q4⟩ := r_dropG hC.1 hC.2.1 hr e6
    have hM1 := xMB_fr hM q4 (fun c e1 e2 e3 => by omega)
    obtain ⟨h2, s1, s2, s3⟩ := m_dropG hM1 hr e5
    rw [e3, ← e2] at s1
    have hx1 := xmx_fr hx q1 q4.1
    have hx2 := xmx_fr hx1 s1 s3.1
    refine ⟨_, h1, h2, q1, s1, rl_rows hI hY (inFr_rows q4 hC q2 q3) q4 (fun c e => by omega) s2 s3 (rlP_fi hP ?_ (setA_ne (by decide)) (setA_ne (by decide))) ⟨setA_ne (by decide), setA_ne (by decide), setA_ne (by decide), setA_ne (by decide)⟩ hx2, by rw [s3.1, q4.1]; omega⟩
    rw [setA_eq, setA_ne (show 5 ≠ 4 by decide), setA_ne (show 6 ≠ 4 by decide)]
    intro k hk
    obtain ⟨r1, r2⟩ := hR k hk
    refine ⟨?_, r2⟩
    by_cases e : k = r
    · subst e
      rw [upd_eq, upd_eq]
      exact Or.inl ⟨rfl, rfl⟩
    · rw [upd_ne e, upd_ne e]
      exact r1
theorem wiS_n {c : Nat} (hc : c ≤ 40) {i n : Int32} (hw : ¬ wiS (nI c) i n = 0) : ∃ i' n', i' + n' ≤ 40 ∧ i = nI i' ∧ n = nI n' := by
  unfold wiS at hw
  by_cases k1 : i < 0
  · rw [if_pos k1] at hw
    exact absurd rfl hw
  by_cases k2 : n < 0
  · rw [if_neg k1, if_pos k2] at hw
    exact absurd rfl hw
  by_cases k3 : nI c - n < i
  · rw [if_neg k1, if_neg k2, if_pos k3] at hw
    exact absurd rfl hw
  obtain ⟨i', hi, rfl⟩ := xb_toInt k1
  obtain ⟨n', hn, rfl⟩ := xb_toInt k2
  refine ⟨i', n', ?_, rfl, rfl⟩
  have := sub_i (x := nI c) (y := nI n') (by rw [nI_toInt (by omega), nI_toInt hn]; omega) (by rw [nI_toInt (by omega), nI_toInt hn]; omega)
  rw [xlt_i, this, nI_toInt (by omega), nI_toInt hn, nI_toInt hi] at k3
  omega
theorem o_copy (H : xREL X h) (x i y j n : Int32) : opR X h m_X11_copy m_X12_copy [.ref 16, .int x, .int i, .int y, .int j, .int n] [.ref 169, .int x, .int i, .int y, .int j, .int n, xU, xU] := by
  obtain ⟨fi, ta, lf, lib, ol, un, t, len, it, la, si, tp, tr, S, nm, A, hC, hM, hP, hI, hY, hx⟩ := H
  rcases spot_cases 8 (by omega) x with c | ⟨r, hr, rfl⟩
  · exact op_look hC hP hI hY hx (r_copyX hC.1 hC.2.1 (Or.inl c)) (m_copyX hM (Or.inl c)) hM kpt_rfl xFr_rfl
  rcases spot_cases 8 (by omega) y with c | ⟨s, hs, rfl⟩
  · exact op_look hC hP hI hY hx (r_copyX hC.1 hC.2.1 (Or.inr c)) (m_copyX hM (Or.inr c)) hM kpt_rfl xFr_rfl
  have hR := hP.2.2.2.1
  have F : ∀ f : Int32, ¬ f = 0 → fiB (si r) (si s) (la r) (la s) i j n = f → (∀ hh, xMB X hh S nm A → xR X m_X12_copy 0 [.ref 169, .int (nI r), .int i, .int (nI s), .int j, .int n, xU, xU] [] hh = some (some (.int (cFIND - f)), xset hh 169 (xMc (upd S 1 f) nm))) → opR X h m_X11_copy m_X12_copy [.ref 16, .int (nI r), .int i, .int (nI s), .int j, .int n] [.ref 169, .int (nI r), .int i, .int (nI s), .int j, .int n, xU, xU] := by
    intro f f0 ef q2
    have q := r_copyF hC.1 hC.2.1 (i := i) (j := j) (n := n) hr hs (by rw [ef]; exact f0)
    rw [ef] at q
    exact op_find hC hM hP hI hY hx q q2
  rcases rw_si hR hr with ⟨e1, e2⟩ | ⟨c, e1, e2, e3, e4, e5, e6, e7⟩
  · exact F (nI 1) (by decide) (if_pos e1) (fun hh hM' => m_copyN hM' hr hs (Or.inl e2))
  rcases rw_si hR hs with ⟨g1, g2⟩ | ⟨e, g1, g2, g3, g4, g5, g6, g7⟩
  · refine F (nI 1) (by decide) ?_ (fun hh hM' => m_copyN hM' hr hs (Or.inr g2))
    unfold fiB
    rw [if_neg e6, if_pos g1]
  by_cases k : la r = la s
  · have k' : A 4 r = A 4 s := by rw [e4, g4, k]
    by_cases w : wiS (nI c) i n = 0 ∨ wiS (nI e) j n = 0
    · refine F (nI 2) (by decide) ?_ (fun hh hM' => m_copyP hM' hr hs e5 g5 k' e7 g7 (by rw [e3, g3]; exact w))
      unfold fiB
      rw [if_neg e6, if_neg g6, if_pos k, e2, g2]
      by_cases w1 : wiS (nI c) i n = 0
      · rw [if_pos w1]
      · rw [if_neg w1, if_pos (w.resolve_left w1)]
    · have w1 : ¬ wiS (nI c) i n = 0 := fun e => w (Or.inl e)
      have w2 : ¬ wiS (nI e) j n = 0 := fun e => w (Or.inr e)
      obtain ⟨i', n', hin, rfl, rfl⟩ := wiS_n e1 w1
      obtain ⟨j', n2, hjn, rfl, hn2⟩ := wiS_n g1 w2
      have hnn : n' = n2 := by
        have := congrArg Int32.toInt hn2
        rw [nI_toInt (by omega), nI_toInt (by omega)] at this
        omega
      subst hnn
      have ef : fiB (si r) (si s) (la r) (la s) (nI i') (nI j') (nI n') = 0 := by
        unfold fiB
        rw [if_neg e6, if_neg g6, if_pos k, e2, g2, if_neg w1, if_neg w2]
        rfl
      obtain ⟨h1, q1, q2, q3, q4⟩ := r_copyG hC.1 hC.2.1 hr hs hin hjn ef
      have hM1 := xMB_fr hM q4 (fun c e1 e2 e3 => by omega)
      obtain ⟨h2, s1, s2, s3⟩ := m_copyG hM1 hr hs hin hjn e5 g5 k' e7 g7 (by rw [e3]; exact w1) (by rw [g3]; exact w2)
      have hx1 := xmx_fr hx q1 q4.1
      have hx2 := xmx_fr hx1 s1 s3.1
      refine ⟨_, h1, h2, q1, s1, rl_rows hI hY (inFr_rows q4 hC q2 q3) q4 (fun c e => by omega) s2 s3 (rlP_fi hP ?_ (setA_ne (by decide)) (setA_ne (by decide))) ⟨setA_ne (by decide), setA_ne (by decide), setA_ne (by decide), setA_ne (by decide)⟩ hx2, by rw [s3.1, q4.1]; omega⟩
      rw [setA_ne (show 4 ≠ 6 by decide), setA_ne (show 5 ≠ 6 by decide), setA_eq]
      intro k hk
      obtain ⟨r1, r2⟩ := hR k hk
      refine ⟨r1, ?_⟩
      intro a ha
      try dsimp only
      by_cases g : k = s
      · subst g
        rw [if_pos rfl]
        by_cases g2 : j' ≤ a ∧ a < j' + n'
        · rw [if_pos g2, if_pos (by omega), (hR r hr).2 _ (by omega)]
          congr 1
          omega
        · rw [if_neg g2, if_neg (by omega)]
          exact r2 a ha
      · rw [if_neg g, if_neg (by omega)]
        exact r2 a ha
  · refine F (nI 5) (by decide) ?_ (fun hh hM' => m_copyS hM' hr hs e5 g5 (by rw [e4, g4]; exact k))
    unfold fiB
    rw [if_neg e6, if_neg g6, if_neg k]
theorem o_as (H : xREL X h) (x w : Int32) : opR X h m_X11_as m_X12_as [.ref 16, .int x, .int w, xU] [.ref 169, .int x, .int w] := by
  obtain ⟨fi, ta, lf, lib, ol, un, t, len, it, la, si, tp, tr, S, nm, A, hC, hM, hP, hI, hY, hx⟩ := H
  rcases hY with hN | hY
  · obtain ⟨rfl, n2, ⟨d, k, a, o, n3⟩, n4, n5, n6, n7⟩ := id hN
    exact op_look hC hP hI (Or.inl hN) hx (r_asN hC.1 n3 x w) (m_asX hM (n := 0) (by omega) n5 w (x_or x)) hM kpt_rfl xFr_rfl
  · obtain ⟨p, n, m, pl, fr, to, hr, d, k, a, o, g, u, v, so, dr, y0, y1, y2, y3, y4, y5, y6⟩ := id hY
    obtain ⟨f0, f1, f2, f3, f4, f5, f6, f7, f8, f9⟩ := y5
    rcases spot_cases n (by omega) x with c | ⟨s, hs, rfl⟩
    · exact op_look hC hP hI (Or.inr hY) hx (r_asX hC.1 y1 y2 w c) (m_asX hM f2 f1 w c) hM kpt_rfl xFr_rfl
    rcases spot_cases 6 (by omega) w with c | ⟨j, hj, rfl⟩
    · refine op_look hC hP hI (Or.inr hY) hx (r_asB hC.1 y1 y2 y3 hs c) (m_asB hM f2 f1 hs ?_) hM kpt_rfl xFr_rfl
      have b6 : (nI 6).toInt = 6 := by decide
      have b5 : (nI 5).toInt = 5 := by decide
      rcases c with c | c
      · exact Or.inl c
      · refine Or.inr ?_
        rw [xlt_i] at c ⊢
        omega
    · obtain ⟨⟨so', s0, s1, s1'⟩, s2, _⟩ := f7 s hs
      obtain ⟨f, ef, q⟩ := r_as hC.1 y1 y2 y3 hs hj
      by_cases kd : kdS (so s) (nI j) = nI 1
      · rw [if_pos kd] at ef q
        subst ef
        exact op_find hC hM hP hI (Or.inr hY) hx q (fun hh hM' => m_asT hM' f2 f1 hs (s2.trans s0) s1 s1' (by omega) (by rw [s2]; exact kd))
      · rw [if_neg kd] at ef q
        subst ef
        refine op_find hC hM hP hI (Or.inr hY) hx q (fun hh hM' => m_asF hM' f2 f1 hs (s2.trans s0) s1 s1' (by omega) ?_)
        rw [s2]
        revert kd
        unfold kdS
        repeat' split
        all_goals first | exact fun e => absurd rfl e | exact fun _ => rfl
end XO4
