/-! ops: feed, learnt, ask -/
theorem md_bit (w : Int64) : ∀ c, c < 8 → ∀ i, i < 32 → (mdB w c).toBitVec.getLsbD i = (decide (i < 8) && w.toBitVec.getLsbD (8 * c + i)) := by
  intro c hc i hi
  have e1 : (mdB w c).toBitVec = ((w.toBitVec.sshiftRight' (((nI 8 * nI c).toInt64 &&& 63).toBitVec.smod 64)) &&& 255#64).signExtend 32 := rfl
  have e2 : ∀ c, c < 8 → (((nI 8 * nI c).toInt64 &&& 63).toBitVec.smod 64).toNat = 8 * c := by decide
  have e3 : (255#64).getLsbD i = decide (i < 8) := by
    have h : ∀ i, i < 32 → (255#64).getLsbD i = decide (i < 8) := by decide
    exact h i hi
  rw [e1, BitVec.getLsbD_signExtend, if_pos (by omega), BitVec.getLsbD_and, e3, BitVec.sshiftRight', e2 c hc, BitVec.getLsbD_sshiftRight]
  have d1 : decide (i < 32) = true := decide_eq_true hi
  have d2 : decide (64 ≤ i) = false := decide_eq_false (by omega)
  by_cases c1 : i < 8
  · rw [if_pos (by omega), d1, d2, decide_eq_true c1]
    simp
  · rw [decide_eq_false c1]
    simp
theorem fd_bit (w : Int64) : ∀ c, c < 8 → ∀ i, i < 8 → ((w.toUInt64 >>> ((nI 8 * nI c).toInt64.toUInt64 &&& Int64.toUInt64 63)).toInt64).toInt32.toBitVec.getLsbD i = w.toBitVec.getLsbD (8 * c + i) := by
  intro c hc i hi
  have e1 : ((w.toUInt64 >>> ((nI 8 * nI c).toInt64.toUInt64 &&& Int64.toUInt64 63)).toInt64).toInt32.toBitVec = (w.toBitVec >>> (((nI 8 * nI c).toInt64.toUInt64 &&& Int64.toUInt64 63).toBitVec % 64)).signExtend 32 := rfl
  have e2 : ∀ c, c < 8 → (((nI 8 * nI c).toInt64.toUInt64 &&& Int64.toUInt64 63).toBitVec % 64).toNat = 8 * c := by decide
  rw [e1, BitVec.getLsbD_signExtend, if_pos (by omega), decide_eq_true (show i < 32 by omega), Bool.true_and, BitVec.ushiftRight_eq', BitVec.getLsbD_ushiftRight, e2 c hc]
theorem i8_bits {x y : Int32} (h : ∀ i, i < 8 → x.toBitVec.getLsbD i = y.toBitVec.getLsbD i) : x.toInt8 = y.toInt8 := by
  rw [← Int8.toBitVec_inj]
  show x.toBitVec.signExtend 8 = y.toBitVec.signExtend 8
  refine BitVec.eq_of_getLsbD_eq ?_
  intro i hi
  rw [BitVec.getLsbD_signExtend, BitVec.getLsbD_signExtend, if_pos (by omega), if_pos (by omega), h i hi]
theorem i8_i32 (x : Int8) : x.toInt32.toInt8 = x := by
  rw [← Int8.toBitVec_inj]
  show (x.toBitVec.signExtend 32).signExtend 8 = x.toBitVec
  refine BitVec.eq_of_getLsbD_eq ?_
  intro i hi
  rw [BitVec.getLsbD_signExtend, BitVec.getLsbD_signExtend, if_pos (by omega), if_pos (by omega), decide_eq_true hi, decide_eq_true (show i < 32 by omega), Bool.true_and, Bool.true_and]
theorem fd_md (w : Int64) {c : Nat} (hc : c < 8) : fdB w c = (mdB w c).toInt8.toInt32 := by
  unfold fdB
  rw [i8_i32]
  rw [i8_bits (y := mdB w c)]
  intro i hi
  rw [fd_bit w c hc i hi, md_bit w c hc i (by omega), decide_eq_true hi, Bool.true_and]
theorem md_nI (w : Int64) {c : Nat} (hc : c < 8) : ∃ b, b < 256 ∧ mdB w c = nI b := by
  refine ⟨(mdB w c).toBitVec.toNat, ?_, ?_⟩
  · refine Nat.lt_pow_two_of_testBit (n := 8) _ ?_
    intro i hi
    by_cases c2 : i < 32
    · have := md_bit w c hc i c2
      rw [decide_eq_false (show ¬ i < 8 by omega), Bool.false_and] at this
      exact this
    · exact BitVec.getLsbD_of_ge _ _ (by omega)
  · rw [← Int32.toBitVec_inj]
    show (mdB w c).toBitVec = BitVec.ofNat 32 (mdB w c).toBitVec.toNat
    rw [BitVec.ofNat_toNat, BitVec.setWidth_eq]
theorem tpR_feed (w : Int64) : ∀ n t tp T, n ≤ 8 → tpR tp T t → tpR (fdS w n t tp) (mdS w n t T) (t + n) := by
  intro n
  induction n with
  | zero => intro t tp T _ h; exact h
  | succ n ih =>
    intro t tp T hn h
    unfold fdS mdS
    rw [show t + (n + 1) = t + 1 + n by omega]
    refine ih (t + 1) _ _ (by omega) ?_
    intro k hk
    by_cases e : k = t
    · subst e
      rw [upd_eq, upd_eq]
      obtain ⟨b, b1, b2⟩ := md_nI w (c := n) (by omega)
      exact ⟨b, b1, b2, by rw [fd_md w (by omega), b2]⟩
    · rw [upd_ne e, upd_ne e]
      exact h k (by omega)
section XO5
variable {X : xS} {h : xH}
theorem o_feed (H : xREL X h) (w : Int64) (x : Int32) : opR X h m_X11_feed m_X12_feed [.ref 16, .long w, xU, .int x, xU] [.ref 169, .long w, xU, .int x, xU] := by
  obtain ⟨fi, ta, lf, lib, ol, un, t, len, it, la, si, tp, tr, S, nm, A, hC, hM, hP, hI, hY, hx⟩ := H
  by_cases c : x < nI 1 ∨ nI 8 < x
  · exact op_look hC hP hI hY hx (r_feedB x w c) (m_feedB x w c) hM kpt_rfl xFr_rfl
  have c1 : ¬ x < nI 1 := fun e => c (Or.inl e)
  have c2 : ¬ nI 8 < x := fun e => c (Or.inr e)
  have c0 : ¬ x < 0 := by
    intro e
    rw [xlt_i] at e c1
    have b1 : (nI 1).toInt = 1 := by decide
    rw [xti0] at e
    omega
  obtain ⟨n, hn, rfl⟩ := xb_toInt c0
  rw [xlt_i, nI_toInt hn, nI_toInt (by omega)] at c1 c2
  obtain ⟨p0, p1, p2, p3, p4, p5, p6, p7, p8, p9, p10, p11, p12⟩ := id hP
  subst p1
  by_cases c3 : t + n ≤ 400
  · obtain ⟨h1, q1, q2, q3, q4⟩ := r_feedG hC.1 hC.2.2.1 w (n := n) (by omega) (by omega) c3
    have hM1 := xMB_fr hM q4 (fun c e1 e2 e3 => by unfold inF at e3; omega)
    obtain ⟨h2, s1, s2, s3⟩ := m_feedG hM1 p6 w (n := n) (by omega) (by omega) c3
    have hx1 := xmx_fr hx q1 q4.1
    have hx2 := xmx_fr hx1 s1 s3.1
    have hC1 : rlC X h1 fi (nI (t + n)) lf lib ol un len it la si (fdS w n t tp) tr := by
      obtain ⟨d1, d2, d3, d4, d5, d6⟩ := hC
      exact ⟨q2, xRW_fr d2 q4 (fun c e1 e2 e3 => by unfold inF at e3; omega), q3, xPA_fr d4 q4 (by unfold inF; omega) (by unfold inF; omega), fun j hj => xAn_fr (d5 j hj) q4 (fun c e1 e2 => by have := e1.1; unfold inF at e2; omega), xTB_fr d6 q4 ⟨by unfold inF; omega, by unfold inF; omega⟩⟩
    refine ⟨_, h1, h2, q1, s1, rl_rows (t' := t + n) hI hY hC1 q4 (fun c e => by unfold inF at e; omega) s2 s3 ?_ ⟨setA_ne (by decide), setA_ne (by decide), setA_ne (by decide), setA_ne (by decide)⟩ hx2, by rw [s3.1, q4.1]; omega⟩
    refine ⟨?_, rfl, ?_, ?_, ?_, c3, upd_eq, p7, ?_, ?_, p10, p11, ?_⟩
    · rw [upd_ne (by decide)]; exact p0
    · rw [upd_ne (by decide)]; exact p2
    · rw [setA_ne (by decide), setA_ne (by decide), setA_ne (by decide)]; exact p3
    · rw [setA_eq]
      exact tpR_feed w n t tp (A 7) (by omega) p4
    · rw [upd_ne (by decide)]; exact p8
    · rw [setA_ne (by decide)]; exact p9
    · rw [upd_ne (by decide)]; exact p12
  · exact op_look hC hP hI hY hx (r_feedF hC.1 hC.2.2.1 w p5 (n := n) (by omega) (by omega) (by omega)) (m_feedF hM p6 w p5 (n := n) (by omega) (by omega) (by omega)) hM kpt_rfl xFr_rfl
theorem lvS_eq {f g : Nat → Int32} : ∀ (bs : List Int32) (n : Nat), (∀ i, i < n → f i = g i) → ∀ i, i < n + bs.length → lvS bs n f i = lvS bs n g i := by
  intro bs
  induction bs generalizing f g with
  | nil => intro n hfg i hi; exact hfg i hi
  | cons b bs ih =>
    intro n hfg i hi
    unfold lvS
    refine ih (n + 1) ?_ i (by rw [List.length_cons] at hi; omega)
    intro j hj
    by_cases e : j = n
    · rw [e, upd_eq, upd_eq]
    · rw [upd_ne e, upd_ne e]
      exact hfg j (by omega)
theorem op_ask {fi ta lf : Int32} {lib ol un t len : Nat} {it : Nat → Nat → Int32} {la si tp tr : Nat → Int32} {S : Nat → Int32} {nm : Int64} {A : Nat → Nat → Int32} {m1 m2 : xMd} {as1 as2 : List Value} {v : Int32} {bs : List Int32} {h1 : xH} (hC : rlC X h fi ta lf lib ol un len it la si tp tr) (hM : xMB X h S nm A) (hP : rlP fi ta lf ol un t len it la si tp tr S A) (hI : rlI X h lib A) (hY : rlN X h lib un A ∨ rlY X h lib ol un A) (hx : xmx 700 h) (hb : bs.length ≤ 16) (q1 : xR X m1 0 as1 [] h = some (some (.int v), h1)) (k1 : xAk X h h1 0 tr bs) (q2 : ∀ hh, xMB X hh S nm A → ∃ h2, xR X m2 0 as2 [] hh = some (some (.int v), h2) ∧ mAk X hh h2 (upd S 13 (nI 0)) nm A 0 bs) : opR X h m1 m2 as1 as2 := by
  obtain ⟨k2, k3⟩ := k1
  have hM1 := xMB_fr hM k3 (fun c e1 e2 e3 => by unfold inT at e3; omega)
  obtain ⟨h2, s1, s2, s3⟩ := q2 _ hM1
  have hx1 := xmx_fr hx q1 k3.1
  have hx2 := xmx_fr hx1 s1 s3.1
  rw [Nat.zero_add] at k2 s2
  have hC1 : rlC X h1 fi ta lf lib ol un bs.length it la si tp (lvS bs 0 tr) := by
    obtain ⟨d1, d2, d3, d4, d5, d6⟩ := hC
    exact ⟨(k3.2 16 (by unfold inT; omega)).trans d1, xRW_fr d2 k3 (fun c e1 e2 e3 => by unfold inT at e3; omega), (k3.2 29 (by unfold inT; omega)).trans d3, xPA_fr d4 k3 (by unfold inT; omega) (by unfold inT; omega), fun j hj => xAn_fr (d5 j hj) k3 (fun c e1 e2 => by have := e1.1; have := e1.2; unfold inT at e2; omega), k2⟩
  refine ⟨_, h1, h2, q1, s1, rl_rows (t' := t) hI hY hC1 k3 (fun c e => by unfold inT at e; omega) s2 s3 ?_ ⟨setA_ne (by decide), setA_ne (by decide), setA_ne (by decide), setA_ne (by decide)⟩ hx2, by rw [s3.1, k3.1]; omega⟩
  obtain ⟨p0, p1, p2, p3, p4, p5, p6, p7, p8, p9, p10, p11, p12⟩ := hP
  rw [upd_upd]
  refine ⟨?_, p1, ?_, ?_, ?_, p5, ?_, hb, upd_eq, ?_, p10, p11, ?_⟩
  · rw [upd_ne (by decide)]; exact p0
  · rw [upd_ne (by decide)]; exact p2
  · rw [setA_ne (by decide), setA_ne (by decide), setA_ne (by decide)]; exact p3
  · rw [setA_ne (by decide)]; exact p4
  · rw [upd_ne (by decide)]; exact p6
  · rw [setA_eq]
    intro i hi
    exact lvS_eq bs 0 (fun i hi => by omega) i (by omega)
  · rw [upd_ne (by decide)]; exact p12
theorem o_ask (H : xREL X h) (x w : Int32) : opR X h m_X11_ask m_X12_ask [.ref 16, .int x, .int w, xU, xU] [.ref 169, .int x, .int w] := by
  obtain ⟨fi, ta, lf, lib, ol, un, t, len, it, la, si, tp, tr, S, nm, A, hC, hM, hP, hI, hY, hx⟩ := H
  rcases hY with hN | hY
  · obtain ⟨rfl, n2, ⟨d, k, a, o, n3⟩, n4, n5, n6, n7⟩ := id hN
    exact op_look hC hP hI (Or.inl hN) hx (r_askN hC.1 n3 x w) (m_askX hM (n := 0) (by omega) n5 w (x_or x)) hM kpt_rfl xFr_rfl
  · obtain ⟨p, n, m, pl, fr, to, hr, d, k, a, o, g, u, v, so, dr, y0, y1, y2, y3, y4, y5, y6⟩ := id hY
    obtain ⟨f0, f1, f2, f3, f4, f5, f6, f7, f8, f9⟩ := y5
    have hlt : ∀ c, inL lib c → ¬ inT c := fun c e1 e2 => by have := e1.1; unfold inT at e2; omega
    rcases spot_cases n (by omega) x with c | ⟨s, hs, rfl⟩
    · exact op_look hC hP hI (Or.inr hY) hx (r_askX hC.1 y1 y2 w c) (m_askX hM f2 f1 w c) hM kpt_rfl xFr_rfl
    · obtain ⟨⟨so', s0, s1, s1'⟩, s2, s3, s4, s5, s6, _⟩ := f7 s hs
      rcases w_or w with c | c
      · rcases c with rfl | rfl
        · obtain ⟨h1, q1, k1⟩ := r_askZ (by omega) hlt hC.1 hC.2.2.2.2.2 y1 y2 y3 hs
          refine op_ask hC hM hP hI (Or.inr hY) hx (by rw [s0]; exact azB_len s1 s1') q1 k1 ?_
          intro hh hM'
          have := m_askZ hM' f2 f1 hs (s2.trans s0) s1 s1'
          rw [s2, s4, s6] at this
          exact this
        · obtain ⟨h1, q1, k1⟩ := r_askM (by omega) hlt hC.1 hC.2.2.2.2.2 y1 y2 y3 hs
          refine op_ask hC hM hP hI (Or.inr hY) hx (by rw [s0]; exact amB_len s1 s1') q1 k1 ?_
          intro hh hM'
          have := m_askM hM' f2 f1 hs (s2.trans s0) s1 s1'
          rw [s2, s4, s6] at this
          exact this
      · exact op_look hC hP hI (Or.inr hY) hx (r_askE hC.1 y1 y2 y3 hs c.1 c.2) (m_askE hM f2 f1 hs c.1 c.2) hM kpt_rfl xFr_rfl
theorem wtS_congr {F G : Int32 → Int32} {i1 i2 : Nat → Int32} (hF : ∀ t, F t = G t) : ∀ c j y, (∀ k, j ≤ k → k < j + c → i1 k = i2 k) → wtS F i1 c j y = wtS G i2 c j y := by
  intro c
  induction c with
  | zero => intro j y _; rfl
  | succ c ih =>
    intro j y hi
    unfold wtS
    rw [hF, hi j (Nat.le_refl _) (by omega), ih (j + 1) _ (fun k h1 h2 => hi k (by omega) (by omega))]
theorem lnS_congr {V W : Nat → Int32} (h : ∀ j, V j = W j) : ∀ c j, lnS V c j = lnS W c j := by
  intro c
  induction c with
  | zero => intro j; rfl
  | succ c ih =>
    intro j
    unfold lnS
    rw [h, ih]
theorem o_learnt (H : xREL X h) (x i e s : Int32) : opR X h m_X11_learnt m_X12_learnt [.ref 16, .int x, .int i, .int e, .int s, xU, xU] [.ref 169, .int x, .int i, .int e, .int s, xU, xU, xU, xU, xU] := by
  obtain ⟨fi, ta, lf, lib, ol, un, t, len, it, la, si, tp, tr, S, nm, A, hC, hM, hP, hI, hY, hx⟩ := H
  rcases hY with hN | hY
  · obtain ⟨rfl, n2, ⟨d, k, a, o, n3⟩, n4, n5, n6, n7⟩ := id hN
    have q := r_placeAtN (x := s) n3
    exact op_look hC hP hI (Or.inl hN) hx (r_learntB hC.1 n3 hC.2.1 (Or.inl q) (Or.inr (Or.inr (Or.inr q)))) (m_learntB hM (n := 0) (by omega) n5 (Or.inr (Or.inr (x_or s)))) hM kpt_rfl xFr_rfl
  · obtain ⟨p, n, m, pl, fr, to, hr, d, k, a, o, g, u, v, so, dr, y0, y1, y2, y3, y4, y5, y6⟩ := id hY
    have T := pR_ST y5
    obtain ⟨f0, f1, f2, f3, f4, f5, f6, f7, f8, f9⟩ := y5
    have q : (xR X m_X3_placeAt 0 [.ref lib, .int s] [] h = some (some .null, h) ∧ (s < 0 ∨ ¬ s < nI n)) ∨ (∃ q, xR X m_X3_placeAt 0 [.ref lib, .int s] [] h = some (some (.ref q), h)) := by
      rcases spot_cases n (by omega) s with c | ⟨j, hj, rfl⟩
      · exact Or.inl ⟨r_placeAtX y1 y2 c, c⟩
      · obtain ⟨q, ci, g1, g2, g3⟩ := y3 j hj
        exact Or.inr ⟨q, r_placeAt y1 y2 hj g1⟩
    by_cases c : (x < 0 ∨ ¬ x < nI 8) ∨ (e < nI 1 ∨ nI 20 < e) ∨ (s < 0 ∨ ¬ s < nI n)
    · refine op_look hC hP hI (Or.inr hY) hx (r_learntB hC.1 y1 hC.2.1 ?_ ?_) (m_learntB hM f2 f1 c) hM kpt_rfl xFr_rfl
      · rcases q with q | q
        · exact Or.inl q.1
        · exact Or.inr q
      · rcases c with c | (c | c) | c
        · exact Or.inl c
        · exact Or.inr (Or.inl c)
        · exact Or.inr (Or.inr (Or.inl c))
        · exact Or.inr (Or.inr (Or.inr (r_placeAtX y1 y2 c)))
    · rcases spot_cases 8 (by omega) x with c0 | ⟨r, hr8, rfl⟩
      · exact absurd (Or.inl c0) c
      rcases spot_cases n (by omega) s with c0 | ⟨s, hs, rfl⟩
      · exact absurd (Or.inr (Or.inr c0)) c
      have c1 : ¬ e < nI 1 := fun k => c (Or.inr (Or.inl (Or.inl k)))
      have c2 : ¬ nI 20 < e := fun k => c (Or.inr (Or.inl (Or.inr k)))
      obtain ⟨⟨so', s0, s1, s1'⟩, s2, s3, s4, s5, s6, _, ⟨oc, o1, o2, o3⟩⟩ := f7 s hs
      by_cases ho : 0 < o s
      · exact op_look hC hP hI (Or.inr hY) hx (r_learntS hC.1 y1 y2 y3 hC.2.1 hr8 c1 c2 hs ho) (m_learntS hM f2 f1 hr8 c1 c2 hs (by rw [o3, ← o2]; exact ho)) hM kpt_rfl xFr_rfl
      have ho2 : ¬ 0 < A 0 (47 + s) := by rw [o3, ← o2]; exact ho
      have hR := hP.2.2.2.1
      rcases rw_si hR hr8 with ⟨e1, e2⟩ | ⟨cc, e1, e2, e3, e4, e5, e6, e7⟩
      · have ef : fiA (si r) i e = nI 1 := if_pos e1
        have q1 := r_learntF hC.1 y1 y2 y3 hC.2.1 (i := i) hr8 c1 c2 hs ho (by rw [ef]; decide)
        rw [ef] at q1
        exact op_find hC hM hP hI (Or.inr hY) hx q1 (fun hh hM' => m_learntN hM' f2 f1 hr8 c1 c2 hs ho2 e2)
      · by_cases w : wiS (nI cc) i e = 0
        · have ef : fiA (si r) i e = nI 2 := by
            unfold fiA
            rw [if_neg e6, e2, if_pos w]
          have q1 := r_learntF hC.1 y1 y2 y3 hC.2.1 (i := i) hr8 c1 c2 hs ho (by rw [ef]; decide)
          rw [ef] at q1
          exact op_find hC hM hP hI (Or.inr hY) hx q1 (fun hh hM' => m_learntF hM' f2 f1 hr8 c1 c2 hs ho2 e5 e7 (by rw [e3]; exact w))
        · have ef : fiA (si r) i e = 0 := by
            unfold fiA
            rw [if_neg e6, e2, if_neg w]
            rfl
          obtain ⟨i', e', hie, rfl, rfl⟩ := wiS_n e1 w
          rw [xlt_i, nI_toInt (by omega), nI_toInt (by omega)] at c1 c2
          have q1 := r_learnt (by omega) hC.1 y1 y2 y3 hC.2.1 hr8 (i := i') (e := e') (by omega) (by omega) hs ho ef hie
          refine op_find (f := 0) hC hM hP hI (Or.inr hY) hx q1 ?_
          intro hh hM'
          rw [m_learnt hM' T hr8 (by omega) (by omega) hs ho2 e5 e7 (by rw [e3]; exact w) hie]
          rw [lnS_congr (W := fun j => wtS (fun t => fallS (so s) (nI j) (nI hr + t)) (fun j => it r (i' + j)) e' 0 (d s))]
          · rfl
          · intro j
            rw [s2, s6]
            refine wtS_congr (fun t => rfl) e' 0 (d s) ?_
            intro k h1 h2
            rw [(hR r hr8).2 _ (by omega), Nat.add_assoc]
end XO5
