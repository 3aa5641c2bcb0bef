/-! the start: both made -/
section XIN
variable {X : xS} {h : xH}
theorem r_CinitL1 (H : xS0 X h (.ref 29) (.ref 30) (.ref 35) .null .null) (hl : h.length = 20) {g : Nat → Option Nat} (hg : xget X h 35 = some (.inr ((5, 24), .inr g))) : ∀ k, k ≤ 24 → ∃ h' g', xR X m_X11_init 47 [.ref 16, .int (nI 0)] [] h = xR X m_X11_init 47 [.ref 16, .int (nI k)] [] h' ∧ xS0 X h' (.ref 29) (.ref 30) (.ref 35) .null .null ∧ h'.length = 20 + 5 * k ∧ xget X h' 35 = some (.inr ((5, 24), .inr g')) ∧ (∀ j, j < k → g' j = some (36 + 5 * j)) ∧ xLs X h' 36 k ∧ xGr X (fun c => c = 35) h h' := by
  intro k
  induction k with
  | zero => intro _; exact ⟨h, g, rfl, H, hl, hg, fun j hj => by omega, fun j hj => by omega, Nat.le_refl _, fun _ _ _ => rfl⟩
  | succ k ih =>
    intro hk
    obtain ⟨h1, g1, i1, i2, i3, i4, i5, i6, i7⟩ := ih (by omega)
    obtain ⟨h2, g2, j1, j2, j3, j4, j5, j6, j7⟩ := r_CinitE i2 (by omega) i3 i4 i5 i6
    exact ⟨h2, g2, i1.trans j1, j2, j3, j4, j5, j6, xGr_tr i7 j7⟩
theorem r_CinitL2 (H : xS0 X h (.ref 29) (.ref 30) (.ref 35) (.ref 156) .null) (hl : h.length = 141) {g : Nat → Option Nat} (hg : xget X h 156 = some (.inr ((5, 2), .inr g))) : ∀ k, k ≤ 2 → ∃ h' g', xR X m_X11_init 86 [.ref 16, .int (nI 0)] [] h = xR X m_X11_init 86 [.ref 16, .int (nI k)] [] h' ∧ xS0 X h' (.ref 29) (.ref 30) (.ref 35) (.ref 156) .null ∧ h'.length = 141 + 5 * k ∧ xget X h' 156 = some (.inr ((5, 2), .inr g')) ∧ (∀ j, j < k → g' j = some (157 + 5 * j)) ∧ xLs X h' 157 k ∧ xGr X (fun c => c = 156) h h' := by
  intro k
  induction k with
  | zero => intro _; exact ⟨h, g, rfl, H, hl, hg, fun j hj => by omega, fun j hj => by omega, Nat.le_refl _, fun _ _ _ => rfl⟩
  | succ k ih =>
    intro hk
    obtain ⟨h1, g1, i1, i2, i3, i4, i5, i6, i7⟩ := ih (by omega)
    obtain ⟨h2, g2, j1, j2, j3, j4, j5, j6, j7⟩ := r_CinitG i2 (by omega) i3 i4 i5 i6
    exact ⟨h2, g2, i1.trans j1, j2, j3, j4, j5, j6, xGr_tr i7 j7⟩
theorem xLs_gr {b N : Nat} {A : Nat → Prop} {h' : xH} (H : xLs X h b N) (hG : xGr X A h h') (hA : ∀ c, b ≤ c → c < b + 5 * N → ¬ A c) : xLs X h' b N := fun k hk => xLB_gr hG (H k hk) (fun c h1 h2 => hA c (by have := h1.1; omega) (by have := h1.2; omega) h2)
theorem r_Cinit (hl : h.length = 1) (hc : xget X h 16 = some (xC0 .null .null .null .null .null .null)) : ∃ h', xR X m_X11_init 0 [.ref 16, xU] [] h = some (none, h') ∧ h'.length = 153 ∧ xS0 X h' (.ref 29) (.ref 30) (.ref 35) (.ref 156) (.ref 167) ∧ xget X h' 29 = some (.inr ((1, 400), .inl (fun _ => 0))) ∧ xLB X h' 30 .null 0 (fun _ => 0) (fun _ => 0) (fun _ => 0) (fun _ => 0) ∧ xPA X h' ∧ xLs X h' 36 24 ∧ xLs X h' 157 2 ∧ xTB X h' 0 (fun _ => 0) := by
  obtain ⟨hA, si, a1, a2, a3, a4, a5⟩ := r_CinitA hl hc
  obtain ⟨hB, b1, b2, b3, b4⟩ := r_CinitB ⟨⟨si, a2, a3⟩, a5⟩ a4
  obtain ⟨hC, c1, c2, c3, c4, c5⟩ := r_CinitC b2 b3
  obtain ⟨hD, d1, d2, d3, d4, d5⟩ := r_CinitD c2 c3
  obtain ⟨hE, gE, e1, e2, e3, e4, e5, e6, e7⟩ := r_CinitL1 d2 d3 d4 24 (Nat.le_refl _)
  obtain ⟨hF, f1, f2, f3, f4, f5⟩ := r_CinitF e2 e3 e4
  obtain ⟨hG, gG, g1, g2, g3, g4, g5, g6, g7⟩ := r_CinitL2 f2 f3 f4 2 (Nat.le_refl _)
  obtain ⟨hH, i1, i2, i3, i4, i5⟩ := r_CinitH g2 g3 g4
  have GE : xGr X (fun c => c = 16 ∨ c = 156) hE hH := xGr_tr (xGr_tr (xGr_mo f5 (fun c _ e => Or.inl e)) (xGr_mo g7 (fun c _ e => Or.inr e))) (xGr_mo i5 (fun c _ e => Or.inl e))
  have GC : xGr X (fun c => c = 16 ∨ c = 35 ∨ c = 156) hC hH := xGr_tr (xGr_tr (xGr_mo d5 (fun c _ e => Or.inl e)) (xGr_mo e7 (fun c _ e => Or.inr (Or.inl e)))) (xGr_mo GE (fun c _ e => by rcases e with e | e; exact Or.inl e; exact Or.inr (Or.inr e)))
  have GB : xGr X (fun c => c = 16 ∨ c = 35 ∨ c = 156) hB hH := xGr_tr (xGr_mo c5 (fun c _ e => Or.inl e)) GC
  refine ⟨hH, ((((((a1.trans b1).trans c1).trans d1).trans e1).trans f1).trans g1).trans i1, i3, i2, xGr_g GB (by omega) (by omega) b4, xLB_gr GC c4 (fun c q1 q2 => by have := q1.1; have := q1.2; omega), ⟨⟨gE, xGr_g GE (by omega) (by omega) e4, e5⟩, gG, xGr_g i5 (by omega) (by omega) g4, g5⟩, xLs_gr e6 GE (fun c q1 q2 q3 => by omega), xLs_gr g6 i5 (fun c q1 q2 q3 => by omega), i4⟩
def xM0 : xE := .inl (11, [.null, .null, .null, .null, .int 0, .null, .null, .null, .int 0, .null, .int 0, .int 0, .int 0, .int 0, .int 0, .long 0, .int 0, .int 0, .null, .int 0, .int 0, .int 0, .int 0, .null, .int 0])
theorem r_MinitA (hl : h.length = 153) : ∃ h', xR X m_X12_init 0 [.ref 169, xU] [] (h ++ [xM0]) = xR X m_X12_init 88 [.ref 169, .int (nI 0)] [] h' ∧ xMB X h' (fun _ => 0) 0 (fun _ _ => 0) ∧ h'.length = 164 ∧ xGr X (fun _ => False) h h' := by
  have en : xnw h = 169 := by unfold xnw; omega
  have cn : ∀ l : xH, xget X (h ++ l) 169 = l[0]? := fun l => by have := xg_app0 (X := X) (h := h) l; rw [en] at this; exact this
  have ck : ∀ (l : xH) (k : Nat), xget X (h ++ l) (169 + k) = l[k]? := fun l k => by have := xg_app2 (X := X) (h := h) l k; rw [en] at this; exact this
  have cs : ∀ (l : xH) (e : xE), xset (h ++ l) 169 e = h ++ l.set 0 e := fun l e => by have := xset_app0 (h := h) l e; rw [en] at this; exact this
  refine ⟨h ++ [xMc (fun _ => 0) 0, .inr ((0, 54), .inl (fun _ => 0)), .inr ((0, 108), .inl (fun _ => 0)), .inr ((2, 2), .inl (fun _ => 0)), .inr ((0, 696), .inl (fun _ => 0)), .inr ((0, 8), .inl (fun _ => 0)), .inr ((0, 8), .inl (fun _ => 0)), .inr ((0, 320), .inl (fun _ => 0)), .inr ((0, 400), .inl (fun _ => 0)), .inr ((0, 54), .inl (fun _ => 0)), .inr ((0, 16), .inl (fun _ => 0))], ?_, ?_, by rw [List.length_append, hl]; rfl, xGr_app⟩
  · unfold xM0
    simp (disch := first | exact xnl_i _ | exact xnl_r _ | exact xnl_u _ | exact xnl_n | exact zI_2 | exact zI_24 | assumption | omega | (simp only [xset_len]; omega)) only [↓reduceIte, xbd_s, xpv_n, xpv_s, e_X12_init_0, e_X12_init_1, e_X12_init_4, e_X12_init_5, e_X12_init_7, e_X12_init_9, e_X12_init_12, e_X12_init_13, e_X12_init_15, e_X12_init_17, e_X12_init_20, e_X12_init_21, e_X12_init_22, e_X12_init_24, e_X12_init_27, e_X12_init_28, e_X12_init_31, e_X12_init_33, e_X12_init_36, e_X12_init_37, e_X12_init_39, e_X12_init_41, e_X12_init_44, e_X12_init_45, e_X12_init_47, e_X12_init_49, e_X12_init_52, e_X12_init_53, e_X12_init_56, e_X12_init_58, e_X12_init_61, e_X12_init_62, e_X12_init_65, e_X12_init_67, e_X12_init_70, e_X12_init_71, e_X12_init_73, e_X12_init_75, e_X12_init_78, e_X12_init_79, e_X12_init_81, e_X12_init_83, e_X12_init_86, e_X12_init_87, e_X12_init_89, e_X12_init_91, e_X12_init_94, e_X12_init_95, e_X12_init_98, e_X12_init_99, e_X12_init_101, e_X12_init_102, e_X12_init_105, e_X12_init_108, g_12_23_11, ini_X12_init, p_12_13_11, p_12_13_11n, p_12_16_11, p_12_16_11n, p_12_20_11, p_12_20_11n, p_12_23_11, p_12_23_11n, p_12_26_11, p_12_26_11n, p_12_29_11, p_12_29_11n, p_12_32_11, p_12_32_11n, p_12_35_11, p_12_35_11n, p_12_38_11, p_12_38_11n, p_12_7_11, p_12_7_11n, cn, cs, en, xn_app, List.length_cons, List.length_nil, Nat.reduceAdd, List.getElem?_cons_zero, List.getElem?_cons_succ, List.set_cons_zero, List.set_cons_succ, List.append_assoc, List.cons_append, List.nil_append]
    rfl
  · exact ⟨ck _ 0, ck _ 1, ck _ 2, ck _ 3, ck _ 4, ck _ 5, ck _ 6, ck _ 7, ck _ 8, ck _ 9, ck _ 10⟩
theorem r_Minit (hl : h.length = 153) : ∃ h', xR X m_X12_init 0 [.ref 169, xU] [] (h ++ [xM0]) = some (none, h') ∧ (∃ A, xMB X h' (fun _ => 0) 0 A ∧ (∀ r, r < 8 → A 4 r = -1000000) ∧ ∀ i q, i ≠ 4 → A i q = 0) ∧ h'.length = 164 ∧ xGr X (fun c => inM c) h h' := by
  obtain ⟨h1, a1, a2, a3, a4⟩ := r_MinitA (X := X) hl
  have L := x_loopH (X := X) (A := inM) (fun k (y : Nat → Int32) h => xR X m_X12_init 88 [.ref 169, .int (nI k)] [] h) (fun y h => xMB X h (fun _ => 0) 0 (setA (fun _ _ => 0) 4 y)) (fun k y => upd y k (-1000000)) 8 (by
    intro k hk y h hM
    have hc := hM.1
    have b4 := hM.2.2.2.2.2.1
    rw [setA_eq] at b4
    have e1 : nI k < nI 8 := nI_lt hk (by omega)
    have hM1 := xMB_4 (f := upd y k (-1000000)) hM
    rw [setA_setA] at hM1
    refine ⟨_, ?_, hM1, xFr_set (by omega) ⟨by omega, by omega⟩⟩
    rw [e_X12_init_88]
    simp (disch := first | exact xnl_i _ | exact xnl_r _ | exact xnl_u _ | exact xnl_n | exact zI_2 | exact zI_24 | assumption | omega | (simp only [xset_len]; omega)) only [↓reduceIte, xbd_s, xpv_n, xpv_s, e_X12_init_0, e_X12_init_1, e_X12_init_4, e_X12_init_5, e_X12_init_7, e_X12_init_9, e_X12_init_12, e_X12_init_13, e_X12_init_15, e_X12_init_17, e_X12_init_20, e_X12_init_21, e_X12_init_22, e_X12_init_24, e_X12_init_27, e_X12_init_28, e_X12_init_31, e_X12_init_33, e_X12_init_36, e_X12_init_37, e_X12_init_39, e_X12_init_41, e_X12_init_44, e_X12_init_45, e_X12_init_47, e_X12_init_49, e_X12_init_52, e_X12_init_53, e_X12_init_56, e_X12_init_58, e_X12_init_61, e_X12_init_62, e_X12_init_65, e_X12_init_67, e_X12_init_70, e_X12_init_71, e_X12_init_73, e_X12_init_75, e_X12_init_78, e_X12_init_79, e_X12_init_81, e_X12_init_83, e_X12_init_86, e_X12_init_87, e_X12_init_89, e_X12_init_91, e_X12_init_94, e_X12_init_95, e_X12_init_98, e_X12_init_99, e_X12_init_101, e_X12_init_102, e_X12_init_105, e_X12_init_108, g_12_23_11, ini_X12_init, p_12_13_11, p_12_13_11n, p_12_16_11, p_12_16_11n, p_12_20_11, p_12_20_11n, p_12_23_11, p_12_23_11n, p_12_26_11, p_12_26_11n, p_12_29_11, p_12_29_11n, p_12_32_11, p_12_32_11n, p_12_35_11, p_12_35_11n, p_12_38_11, p_12_38_11n, p_12_7_11, p_12_7_11n, hc, b4, if_pos e1, xs_i, nI_inc]) (fun _ => 0) h1 (by
      have e : setA (fun _ _ => (0 : Int32)) 4 (fun _ => 0) = fun _ _ => 0 := setA_id (A := fun _ _ => (0 : Int32)) (i := 4)
      rw [e]; exact a2)
  obtain ⟨h2, b1, b2, b3⟩ := L
  have e9 : ¬ nI 8 < nI 8 := by decide
  refine ⟨h2, ?_, ⟨_, b2, ?_, ?_⟩, b3.1.trans a3, xGr_tr (xGr_mo a4 (fun c _ e => e.elim)) (xGr_fr b3)⟩
  · refine a1.trans (b1.trans ?_)
    simp (disch := first | exact xnl_i _ | exact xnl_r _ | exact xnl_u _ | exact xnl_n | exact zI_2 | exact zI_24 | assumption | omega | (simp only [xset_len]; omega)) only [↓reduceIte, xbd_s, xpv_n, xpv_s, e_X12_init_0, e_X12_init_1, e_X12_init_4, e_X12_init_5, e_X12_init_7, e_X12_init_9, e_X12_init_12, e_X12_init_13, e_X12_init_15, e_X12_init_17, e_X12_init_20, e_X12_init_21, e_X12_init_22, e_X12_init_24, e_X12_init_27, e_X12_init_28, e_X12_init_31, e_X12_init_33, e_X12_init_36, e_X12_init_37, e_X12_init_39, e_X12_init_41, e_X12_init_44, e_X12_init_45, e_X12_init_47, e_X12_init_49, e_X12_init_52, e_X12_init_53, e_X12_init_56, e_X12_init_58, e_X12_init_61, e_X12_init_62, e_X12_init_65, e_X12_init_67, e_X12_init_70, e_X12_init_71, e_X12_init_73, e_X12_init_75, e_X12_init_78, e_X12_init_79, e_X12_init_81, e_X12_init_83, e_X12_init_86, e_X12_init_87, e_X12_init_88, e_X12_init_89, e_X12_init_91, e_X12_init_94, e_X12_init_95, e_X12_init_98, e_X12_init_99, e_X12_init_101, e_X12_init_102, e_X12_init_105, e_X12_init_108, g_12_23_11, ini_X12_init, p_12_13_11, p_12_13_11n, p_12_16_11, p_12_16_11n, p_12_20_11, p_12_20_11n, p_12_23_11, p_12_23_11n, p_12_26_11, p_12_26_11n, p_12_29_11, p_12_29_11n, p_12_32_11, p_12_32_11n, p_12_35_11, p_12_35_11n, p_12_38_11, p_12_38_11n, p_12_7_11, p_12_7_11n, e9]
  · intro r hr
    rw [setA_eq]
    exact fill_all _ r hr
  · intro i q hi
    rw [setA_ne hi]
theorem xLB_sz {b : Nat} {pv : Value} {hr : Int32} {d k a o : Nat → Int32} (H : xLB X h b pv hr d k a o) : ∀ c, b ≤ c → c ≤ b + 4 → ∃ e, xget X h c = some e ∧ xesz e ≤ 700 := by
  obtain ⟨h0, h1, h2, h3, h4, h5⟩ := H
  intro c c1 c2
  have c3 : c = b ∨ c = b + 1 ∨ c = b + 2 ∨ c = b + 3 ∨ c = b + 4 := by omega
  rcases c3 with rfl | rfl | rfl | rfl | rfl
  · exact ⟨_, h0, by show 6 ≤ 700; omega⟩
  · exact ⟨_, h1, by show 7 ≤ 700; omega⟩
  · exact ⟨_, h2, by show 7 ≤ 700; omega⟩
  · exact ⟨_, h3, by show 7 ≤ 700; omega⟩
  · exact ⟨_, h4, by show 7 ≤ 700; omega⟩
theorem all_sz {fi ta lf : Int32} {lib ol un len : Nat} {it : Nat → Nat → Int32} {la si tp tr : Nat → Int32} {S : Nat → Int32} {nm : Int64} {A : Nat → Nat → Int32} {pv : Value} {hr : Int32} {d k a o : Nat → Int32} (hC : rlC X h fi ta lf lib ol un len it la si tp tr) (hM : xMB X h S nm A) (hL : xLB X h 30 pv hr d k a o) (hI : xLs X h 157 2) : ∀ c, 16 ≤ c → c < 180 → ∃ e, xget X h c = some e ∧ xesz e ≤ 700 := by
  obtain ⟨c1, c2, c3, c4, c5, c6⟩ := hC
  obtain ⟨⟨g1, c41, _⟩, g2, c42, _⟩ := c4
  obtain ⟨r1, ⟨g3, r2, _⟩, r3, r4, r5⟩ := c2
  obtain ⟨m0, m1, m2, m3, m4, m5, m6, m7, m8, m9, m10⟩ := hM
  intro c h1 h2
  by_cases e16 : c = 16
  · subst e16; exact ⟨_, c1, by show 11 ≤ 700; omega⟩
  by_cases e17 : c = 17
  · subst e17; exact ⟨_, r1, by show 3 ≤ 700; omega⟩
  by_cases e18 : c = 18
  · subst e18; exact ⟨_, r2, by show 8 ≤ 700; omega⟩
  by_cases e26 : c ≤ 26
  · have := r5 (c - 19) (by omega)
    rw [show 19 + (c - 19) = c by omega] at this
    exact ⟨_, this, by show 40 ≤ 700; omega⟩
  by_cases e27 : c = 27
  · subst e27; exact ⟨_, r3, by show 8 ≤ 700; omega⟩
  by_cases e28 : c = 28
  · subst e28; exact ⟨_, r4, by show 8 ≤ 700; omega⟩
  by_cases e29 : c = 29
  · subst e29; exact ⟨_, c3, by show 400 ≤ 700; omega⟩
  by_cases e34 : c ≤ 34
  · exact xLB_sz hL c (by omega) (by omega)
  by_cases e35 : c = 35
  · subst e35; exact ⟨_, c41, by show 24 ≤ 700; omega⟩
  by_cases e155 : c ≤ 155
  · obtain ⟨pv, hr, d, k, a, o, _, hl⟩ := c5 ((c - 36) / 5) (by omega)
    exact xLB_sz hl c (by omega) (by omega)
  by_cases e156 : c = 156
  · subst e156; exact ⟨_, c42, by show 2 ≤ 700; omega⟩
  by_cases e166 : c ≤ 166
  · exact xLB_sz (hI ((c - 157) / 5) (by omega)) c (by omega) (by omega)
  by_cases e167 : c = 167
  · subst e167; exact ⟨_, c6.1, by show 2 ≤ 700; omega⟩
  by_cases e168 : c = 168
  · subst e168; exact ⟨_, c6.2, by show 16 ≤ 700; omega⟩
  by_cases e169 : c = 169
  · subst e169; exact ⟨_, m0, by show 25 ≤ 700; omega⟩
  have c3 : c = 170 ∨ c = 171 ∨ c = 172 ∨ c = 173 ∨ c = 174 ∨ c = 175 ∨ c = 176 ∨ c = 177 ∨ c = 178 ∨ c = 179 := by omega
  rcases c3 with rfl | rfl | rfl | rfl | rfl | rfl | rfl | rfl | rfl | rfl
  · exact ⟨_, m1, by show 54 ≤ 700; omega⟩
  · exact ⟨_, m2, by show 108 ≤ 700; omega⟩
  · exact ⟨_, m3, by show 2 ≤ 700; omega⟩
  · exact ⟨_, m4, by show 696 ≤ 700; omega⟩
  · exact ⟨_, m5, by show 8 ≤ 700; omega⟩
  · exact ⟨_, m6, by show 8 ≤ 700; omega⟩
  · exact ⟨_, m7, by show 320 ≤ 700; omega⟩
  · exact ⟨_, m8, by show 400 ≤ 700; omega⟩
  · exact ⟨_, m9, by show 54 ≤ 700; omega⟩
  · exact ⟨_, m10, by show 16 ≤ 700; omega⟩
theorem x_start0 {L : Nat} {xs : Nat → Int32} : ∃ h0, xR (L, xs) m_L_law 0 [.ref 0, xU, xU, xU] [] [] = xR (L, xs) m_L_law 18 [.ref 0, .ref 16, .ref 169, .int (nI 0)] [] h0 ∧ xREL (L, xs) h0 ∧ h0.length = 164 := by
  obtain ⟨h1, a1, a2, a3, a4, a5, a6, a7, a8, a9⟩ := r_Cinit (X := (L, xs)) (h := [xC0 .null .null .null .null .null .null]) rfl rfl
  obtain ⟨h2, b1, ⟨A, b2, b3, b4⟩, b5, b6⟩ := r_Minit (X := (L, xs)) a2
  have en : xnw h1 = 169 := by unfold xnw; omega
  have c16 : xget (L, xs) [xC0 .null .null .null .null .null .null] 16 = some (xC0 .null .null .null .null .null .null) := rfl
  have c169 : xget (L, xs) (h1 ++ [xM0]) 169 = some xM0 := by
    have := xg_app0 (X := (L, xs)) (h := h1) [xM0]
    rw [en] at this
    exact this
  obtain ⟨⟨si, s1, s2⟩, s3⟩ := a3
  have nM : ∀ c, c ≤ 168 → ¬ inM c := fun c h1 h2 => by have := h2.1; omega
  have hC : rlC (L, xs) h2 0 0 0 30 0 0 0 (fun _ _ => 0) (fun _ => 0) si (fun _ => 0) (fun _ => 0) := by
    refine ⟨xGr_g b6 (by omega) (nM _ (by omega)) s3, xRW_gr b6 s1 (fun c q1 q2 => nM c (by omega)), xGr_g b6 (by omega) (nM _ (by omega)) a4, ⟨?_, ?_⟩, ?_, ⟨xGr_g b6 (by omega) (nM _ (by omega)) a9.1, xGr_g b6 (by omega) (nM _ (by omega)) a9.2⟩⟩
    · obtain ⟨g, q1, q2⟩ := a6.1
      exact ⟨g, xGr_g b6 (by omega) (nM _ (by omega)) q1, q2⟩
    · obtain ⟨g, q1, q2⟩ := a6.2
      exact ⟨g, xGr_g b6 (by omega) (nM _ (by omega)) q1, q2⟩
    · intro j hj
      exact xAn_of (Or.inl rfl) (xLB_gr b6 (a7 j hj) (fun c q1 => nM c (by have := q1.2; omega)))
  have hL := xLB_gr b6 a5 (fun c q1 => nM c (by have := q1.2; omega))
  have hI := xLs_gr a8 b6 (fun c q1 q2 => nM c (by omega))
  have sz := all_sz hC b2 hL hI
  refine ⟨h2, ?_, ⟨0, 0, 0, 30, 0, 0, 0, 0, fun _ _ => 0, fun _ => 0, si, fun _ => 0, fun _ => 0, fun _ => 0, 0, A, hC, b2, ?_, ?_, Or.inl ⟨rfl, rfl, ⟨_, _, _, _, hL⟩, b4 0 0 (by decide), b4 0 1 (by decide), b4 0 2 (by decide), b4 0 25 (by decide)⟩, ?_⟩, b5⟩
  · have q0 : xnw ([] : xH) = 16 := rfl
    unfold xC0 at c16 a1
    unfold xM0 at c169 b1
    simp (disch := first | exact xnl_i _ | exact xnl_r _ | exact xnl_u _ | exact xnl_n | exact zI_2 | exact zI_24 | assumption | omega | (simp only [xset_len]; omega)) only [↓reduceIte, xbd_s, xpv_n, xpv_s, e_L_law_0, e_L_law_3, e_L_law_4, c_L_law_9_10_1, c_L_law_12_11_1, c_L_law_13_10_0, c_L_law_17_11_1, c_L_law_18_10_0, c_L_law_21_11_1, c_L_law_22_10_0, c_L_law_26_11_1, c_L_law_27_10_0, c_L_law_31_11_1, c_L_law_34_10_0, c_L_law_38_11_1, c_L_law_39_10_0, c_L_law_43_11_1, c_L_law_44_10_0, c_L_law_47_11_1, c_L_law_48_10_0, c_L_law_51_11_1, c_L_law_52_10_0, c_L_law_56_11_1, c_L_law_57_10_0, c_L_law_60_11_1, c_L_law_61_10_0, c_L_law_64_11_1, c_L_law_65_10_0, c_L_law_68_11_1, c_L_law_69_10_0, c_L_law_72_11_1, c_L_law_73_10_0, c_L_law_76_11_1, c_L_law_77_10_0, c_L_law_80_11_1, c_L_law_81_10_0, c_L_law_84_11_1, c_L_law_85_10_0, c_L_law_88_11_1, c_L_law_89_10_0, c_L_law_92_11_1, c_L_law_93_10_0, c_L_law_96_11_1, c_L_law_97_10_0, c_L_law_100_11_1, c_L_law_101_10_0, c_L_law_104_11_1, c_L_law_105_10_0, c_L_law_109_11_1, c_L_law_110_10_0, c_L_law_113_11_1, c_L_law_114_10_0, c_L_law_117_11_1, c_L_law_118_10_0, c_L_law_121_11_1, c_L_law_122_10_0, c_L_law_125_11_1, c_L_law_126_10_0, c_L_law_129_11_1, c_L_law_130_10_0, c_L_law_133_11_1, c_L_law_134_10_0, c_L_law_137_11_1, c_L_law_138_10_0, c_L_law_141_11_1, e_L_law_7, e_L_law_8, e_L_law_11, e_L_law_12, e_L_law_15, e_L_law_16, e_L_law_17, e_L_law_19, e_L_law_20, e_L_law_21, e_L_law_23, e_L_law_24, e_L_law_27, e_L_law_28, e_L_law_29, e_L_law_30, e_L_law_32, e_L_law_33_0, e_L_law_33_1, e_L_law_33_2, e_L_law_33_3, e_L_law_33_4, e_L_law_33_5, e_L_law_33_6, e_L_law_33_7, e_L_law_33_8, e_L_law_33_9, e_L_law_33_10, e_L_law_33_11, e_L_law_33_12, e_L_law_33_13, e_L_law_33_14, e_L_law_33_15, e_L_law_33_16, e_L_law_33_17, e_L_law_33_18, e_L_law_33_19, e_L_law_33_20, e_L_law_33_21, e_L_law_33_22, e_L_law_33_23, e_L_law_33_24, e_L_law_33_25, e_L_law_33_26, e_L_law_33_27, e_L_law_33_28, e_L_law_33_29, e_L_law_33_d, e_L_law_168, e_L_law_169, e_L_law_170, e_L_law_171, e_L_law_172, e_L_law_173, e_L_law_174, e_L_law_175, e_L_law_176, e_L_law_177, e_L_law_178, e_L_law_179, e_L_law_180, e_L_law_181, e_L_law_182, e_L_law_183, e_L_law_184, e_L_law_187, e_L_law_188, e_L_law_189, e_L_law_190, e_L_law_191, e_L_law_192, e_L_law_193, e_L_law_194, e_L_law_195, e_L_law_196, e_L_law_197, e_L_law_198, e_L_law_199, e_L_law_200, e_L_law_201, e_L_law_202, e_L_law_203, e_L_law_206, e_L_law_209, e_L_law_210, e_L_law_210_0, e_L_law_210_1, e_L_law_211, e_L_law_212, e_L_law_213, e_L_law_214, e_L_law_215, e_L_law_216, e_L_law_217, e_L_law_218, e_L_law_219, e_L_law_220, e_L_law_221, e_L_law_222, e_L_law_223, e_L_law_224, e_L_law_225, e_L_law_226, e_L_law_227, e_L_law_230, e_L_law_231, e_L_law_232, e_L_law_233, e_L_law_234, e_L_law_235, e_L_law_236, e_L_law_237, e_L_law_238, e_L_law_239, e_L_law_240, e_L_law_241, e_L_law_242, e_L_law_243, e_L_law_244, e_L_law_245, e_L_law_246, e_L_law_249, e_L_law_252, e_L_law_253, e_L_law_253_0, e_L_law_253_1, e_L_law_254, e_L_law_255, e_L_law_256, e_L_law_257, e_L_law_258, e_L_law_259, e_L_law_260, e_L_law_261, e_L_law_262, e_L_law_263, e_L_law_264, e_L_law_265, e_L_law_266, e_L_law_267, e_L_law_268, e_L_law_269, e_L_law_270, e_L_law_271, e_L_law_272, e_L_law_273, e_L_law_274, e_L_law_275, e_L_law_276, e_L_law_277, e_L_law_278, e_L_law_279, e_L_law_280, e_L_law_283, e_L_law_284, e_L_law_285, e_L_law_286, e_L_law_287, e_L_law_288, e_L_law_289, e_L_law_290, e_L_law_291, e_L_law_292, e_L_law_293, e_L_law_294, e_L_law_295, e_L_law_296, e_L_law_297, e_L_law_298, e_L_law_299, e_L_law_300, e_L_law_301, e_L_law_302, e_L_law_303, e_L_law_304, e_L_law_305, e_L_law_306, e_L_law_307, e_L_law_308, e_L_law_309, e_L_law_312, e_L_law_315, e_L_law_316, e_L_law_316_0, e_L_law_316_1, e_L_law_317, e_L_law_318, e_L_law_319, e_L_law_320, e_L_law_321, e_L_law_322, e_L_law_323, e_L_law_326, e_L_law_327, e_L_law_328, e_L_law_329, e_L_law_330, e_L_law_331, e_L_law_332, e_L_law_335, e_L_law_338, e_L_law_339, e_L_law_339_0, e_L_law_339_1, e_L_law_340, e_L_law_341, e_L_law_342, e_L_law_343, e_L_law_344, e_L_law_345, e_L_law_346, e_L_law_347, e_L_law_349, e_L_law_350, e_L_law_351, e_L_law_352, e_L_law_353, e_L_law_354, e_L_law_355, e_L_law_356, e_L_law_359, e_L_law_360, e_L_law_361, e_L_law_362, e_L_law_363, e_L_law_364, e_L_law_365, e_L_law_366, e_L_law_369, e_L_law_370, e_L_law_371, e_L_law_372, e_L_law_373, e_L_law_374, e_L_law_375, e_L_law_376, e_L_law_378, e_L_law_379, e_L_law_380, e_L_law_381, e_L_law_382, e_L_law_383, e_L_law_384, e_L_law_385, e_L_law_388, e_L_law_389, e_L_law_390, e_L_law_391, e_L_law_392, e_L_law_393, e_L_law_394, e_L_law_395, e_L_law_398, e_L_law_401, e_L_law_402, e_L_law_402_0, e_L_law_402_1, e_L_law_403, e_L_law_404, e_L_law_407, e_L_law_408, e_L_law_411, e_L_law_414, e_L_law_415, e_L_law_415_0, e_L_law_415_1, e_L_law_416, e_L_law_417, e_L_law_420, e_L_law_421, e_L_law_424, e_L_law_427, e_L_law_428, e_L_law_428_0, e_L_law_428_1, e_L_law_429, e_L_law_430, e_L_law_431, e_L_law_432, e_L_law_433, e_L_law_434, e_L_law_435, e_L_law_438, e_L_law_439, e_L_law_440, e_L_law_441, e_L_law_442, e_L_law_443, e_L_law_444, e_L_law_447, e_L_law_450, e_L_law_451, e_L_law_451_0, e_L_law_451_1, e_L_law_452, e_L_law_453, e_L_law_454, e_L_law_455, e_L_law_456, e_L_law_457, e_L_law_458, e_L_law_459, e_L_law_460, e_L_law_461, e_L_law_462, e_L_law_463, e_L_law_466, e_L_law_467, e_L_law_468, e_L_law_469, e_L_law_470, e_L_law_471, e_L_law_472, e_L_law_473, e_L_law_474, e_L_law_475, e_L_law_476, e_L_law_477, e_L_law_480, e_L_law_483, e_L_law_484, e_L_law_484_0, e_L_law_484_1, e_L_law_485, e_L_law_486, e_L_law_487, e_L_law_488, e_L_law_489, e_L_law_490, e_L_law_491, e_L_law_492, e_L_law_493, e_L_law_494, e_L_law_495, e_L_law_496, e_L_law_499, e_L_law_500, e_L_law_501, e_L_law_502, e_L_law_503, e_L_law_504, e_L_law_505, e_L_law_506, e_L_law_507, e_L_law_508, e_L_law_509, e_L_law_510, e_L_law_513, e_L_law_516, e_L_law_517, e_L_law_517_0, e_L_law_517_1, e_L_law_518, e_L_law_519, e_L_law_520, e_L_law_521, e_L_law_522, e_L_law_523, e_L_law_524, e_L_law_527, e_L_law_528, e_L_law_529, e_L_law_530, e_L_law_531, e_L_law_532, e_L_law_533, e_L_law_536, e_L_law_539, e_L_law_540, e_L_law_540_0, e_L_law_540_1, e_L_law_541, e_L_law_542, e_L_law_545, e_L_law_546, e_L_law_549, e_L_law_552, e_L_law_553, e_L_law_553_0, e_L_law_553_1, e_L_law_554, e_L_law_555, e_L_law_556, e_L_law_557, e_L_law_558, e_L_law_559, e_L_law_560, e_L_law_561, e_L_law_562, e_L_law_563, e_L_law_564, e_L_law_565, e_L_law_568, e_L_law_569, e_L_law_570, e_L_law_571, e_L_law_572, e_L_law_573, e_L_law_574, e_L_law_575, e_L_law_576, e_L_law_577, e_L_law_578, e_L_law_579, e_L_law_582, e_L_law_585, e_L_law_586, e_L_law_586_0, e_L_law_586_1, e_L_law_587, e_L_law_588, e_L_law_589, e_L_law_590, e_L_law_591, e_L_law_592, e_L_law_593, e_L_law_594, e_L_law_595, e_L_law_596, e_L_law_597, e_L_law_598, e_L_law_599, e_L_law_600, e_L_law_601, e_L_law_602, e_L_law_603, e_L_law_606, e_L_law_607, e_L_law_608, e_L_law_609, e_L_law_610, e_L_law_611, e_L_law_612, e_L_law_613, e_L_law_614, e_L_law_615, e_L_law_616, e_L_law_617, e_L_law_618, e_L_law_619, e_L_law_620, e_L_law_621, e_L_law_622, e_L_law_625, e_L_law_628, e_L_law_629, e_L_law_629_0, e_L_law_629_1, e_L_law_630, e_L_law_631, e_L_law_632, e_L_law_633, e_L_law_634, e_L_law_635, e_L_law_636, e_L_law_637, e_L_law_638, e_L_law_639, e_L_law_640, e_L_law_641, e_L_law_642, e_L_law_643, e_L_law_644, e_L_law_645, e_L_law_646, e_L_law_649, e_L_law_650, e_L_law_651, e_L_law_652, e_L_law_653, e_L_law_654, e_L_law_655, e_L_law_656, e_L_law_657, e_L_law_658, e_L_law_659, e_L_law_660, e_L_law_661, e_L_law_662, e_L_law_663, e_L_law_664, e_L_law_665, e_L_law_668, e_L_law_671, e_L_law_672, e_L_law_672_0, e_L_law_672_1, e_L_law_673, e_L_law_674, e_L_law_675, e_L_law_676, e_L_law_677, e_L_law_678, e_L_law_679, e_L_law_680, e_L_law_681, e_L_law_682, e_L_law_683, e_L_law_684, e_L_law_685, e_L_law_686, e_L_law_687, e_L_law_688, e_L_law_689, e_L_law_692, e_L_law_693, e_L_law_694, e_L_law_695, e_L_law_696, e_L_law_697, e_L_law_698, e_L_law_699, e_L_law_700, e_L_law_701, e_L_law_702, e_L_law_703, e_L_law_704, e_L_law_705, e_L_law_706, e_L_law_707, e_L_law_708, e_L_law_711, e_L_law_714, e_L_law_715, e_L_law_715_0, e_L_law_715_1, e_L_law_716, e_L_law_717, e_L_law_718, e_L_law_719, e_L_law_720, e_L_law_721, e_L_law_722, e_L_law_723, e_L_law_724, e_L_law_725, e_L_law_726, e_L_law_727, e_L_law_728, e_L_law_729, e_L_law_730, e_L_law_731, e_L_law_732, e_L_law_735, e_L_law_736, e_L_law_737, e_L_law_738, e_L_law_739, e_L_law_740, e_L_law_741, e_L_law_742, e_L_law_743, e_L_law_744, e_L_law_745, e_L_law_746, e_L_law_747, e_L_law_748, e_L_law_749, e_L_law_750, e_L_law_751, e_L_law_754, e_L_law_757, e_L_law_758, e_L_law_758_0, e_L_law_758_1, e_L_law_759, e_L_law_760, e_L_law_761, e_L_law_762, e_L_law_763, e_L_law_764, e_L_law_765, e_L_law_768, e_L_law_769, e_L_law_770, e_L_law_771, e_L_law_772, e_L_law_773, e_L_law_774, e_L_law_777, e_L_law_780, e_L_law_781, e_L_law_781_0, e_L_law_781_1, e_L_law_782, e_L_law_783, e_L_law_786, e_L_law_787, e_L_law_790, e_L_law_793, e_L_law_794, e_L_law_794_0, e_L_law_794_1, e_L_law_795, e_L_law_796, e_L_law_797, e_L_law_798, e_L_law_799, e_L_law_800, e_L_law_801, e_L_law_802, e_L_law_803, e_L_law_804, e_L_law_805, e_L_law_806, e_L_law_809, e_L_law_810, e_L_law_811, e_L_law_812, e_L_law_813, e_L_law_814, e_L_law_815, e_L_law_816, e_L_law_817, e_L_law_818, e_L_law_819, e_L_law_820, e_L_law_823, e_L_law_826, e_L_law_827, e_L_law_827_0, e_L_law_827_1, e_L_law_828, e_L_law_829, e_L_law_830, e_L_law_831, e_L_law_832, e_L_law_833, e_L_law_834, e_L_law_837, e_L_law_838, e_L_law_839, e_L_law_840, e_L_law_841, e_L_law_842, e_L_law_843, e_L_law_846, e_L_law_849, e_L_law_850, e_L_law_850_0, e_L_law_850_1, e_L_law_851, e_L_law_852, e_L_law_853, e_L_law_854, e_L_law_855, e_L_law_856, e_L_law_857, e_L_law_858, e_L_law_859, e_L_law_860, e_L_law_861, e_L_law_862, e_L_law_863, e_L_law_864, e_L_law_865, e_L_law_866, e_L_law_867, e_L_law_868, e_L_law_869, e_L_law_870, e_L_law_871, e_L_law_872, e_L_law_875, e_L_law_876, e_L_law_877, e_L_law_878, e_L_law_879, e_L_law_880, e_L_law_881, e_L_law_882, e_L_law_883, e_L_law_884, e_L_law_885, e_L_law_886, e_L_law_887, e_L_law_888, e_L_law_889, e_L_law_890, e_L_law_891, e_L_law_892, e_L_law_893, e_L_law_894, e_L_law_895, e_L_law_896, e_L_law_899, e_L_law_902, e_L_law_903, e_L_law_903_0, e_L_law_903_1, e_L_law_904, e_L_law_905, e_L_law_906, e_L_law_907, e_L_law_908, e_L_law_909, e_L_law_910, e_L_law_913, e_L_law_914, e_L_law_915, e_L_law_916, e_L_law_917, e_L_law_918, e_L_law_919, e_L_law_922, e_L_law_925, e_L_law_926, e_L_law_926_0, e_L_law_926_1, e_L_law_927, e_L_law_928, e_L_law_929, e_L_law_930, e_L_law_931, e_L_law_932, e_L_law_933, e_L_law_936, e_L_law_937, e_L_law_938, e_L_law_939, e_L_law_940, e_L_law_941, e_L_law_942, e_L_law_945, e_L_law_948, e_L_law_949, e_L_law_949_0, e_L_law_949_1, e_L_law_950, e_L_law_951, e_L_law_952, e_L_law_953, e_L_law_954, e_L_law_955, e_L_law_956, e_L_law_959, e_L_law_960, e_L_law_961, e_L_law_962, e_L_law_963, e_L_law_964, e_L_law_965, e_L_law_968, e_L_law_971, e_L_law_972, e_L_law_972_0, e_L_law_972_1, e_L_law_973, e_L_law_974, e_L_law_975, e_L_law_976, e_L_law_977, e_L_law_978, e_L_law_979, e_L_law_980, e_L_law_981, e_L_law_982, e_L_law_983, e_L_law_984, e_L_law_987, e_L_law_988, e_L_law_989, e_L_law_990, e_L_law_991, e_L_law_992, e_L_law_993, e_L_law_994, e_L_law_995, e_L_law_996, e_L_law_997, e_L_law_998, e_L_law_1001, e_L_law_1004, e_L_law_1005, e_L_law_1005_0, e_L_law_1005_1, e_L_law_1006, e_L_law_1007, e_L_law_1008, e_L_law_1009, e_L_law_1010, e_L_law_1011, e_L_law_1012, e_L_law_1013, e_L_law_1014, e_L_law_1015, e_L_law_1016, e_L_law_1017, e_L_law_1020, e_L_law_1021, e_L_law_1022, e_L_law_1023, e_L_law_1024, e_L_law_1025, e_L_law_1026, e_L_law_1027, e_L_law_1028, e_L_law_1029, e_L_law_1030, e_L_law_1031, e_L_law_1034, e_L_law_1037, e_L_law_1038, e_L_law_1038_0, e_L_law_1038_1, e_L_law_1039, e_L_law_1040, e_L_law_1041, e_L_law_1042, e_L_law_1043, e_L_law_1044, e_L_law_1045, e_L_law_1048, e_L_law_1049, e_L_law_1050, e_L_law_1051, e_L_law_1052, e_L_law_1053, e_L_law_1054, e_L_law_1057, e_L_law_1060, e_L_law_1061, e_L_law_1061_0, e_L_law_1061_1, e_L_law_1062, e_L_law_1063, e_L_law_1064, e_L_law_1065, e_L_law_1066, e_L_law_1067, e_L_law_1068, e_L_law_1071, e_L_law_1072, e_L_law_1073, e_L_law_1074, e_L_law_1075, e_L_law_1076, e_L_law_1077, e_L_law_1080, e_L_law_1083, e_L_law_1084, e_L_law_1084_0, e_L_law_1084_1, e_L_law_1085, e_L_law_1086, e_L_law_1089, e_L_law_1090, e_L_law_1093, e_L_law_1096, e_L_law_1097, e_L_law_1097_0, e_L_law_1097_1, e_L_law_1098, e_L_law_1101, e_L_law_1104, e_L_law_1105, e_L_law_1105_0, e_L_law_1105_1, q0, List.nil_append, c16, a1, en, c169, b1]
  · refine ⟨rfl, rfl, rfl, ?_, fun k hk => by omega, by omega, rfl, by omega, rfl, fun i hi => by omega, by omega, by omega, rfl⟩
    intro r hr
    exact ⟨Or.inl ⟨s2 r hr, b3 r hr⟩, fun i hi => (b4 6 _ (by decide)).symm⟩
  · intro i hi
    exact Or.inl ⟨b4 2 i (by decide), _, _, _, _, _, hI i hi⟩
  · intro k e he
    have hk : k < h2.length := by
      rcases Nat.lt_or_ge k h2.length with g | g
      · exact g
      · rw [List.getElem?_eq_none g] at he
        cases he
    obtain ⟨e', q1, q2⟩ := sz (k + 16) (by omega) (by omega)
    rw [xget_16 (by omega), Nat.add_sub_cancel, he] at q1
    cases q1
    exact q2
end XIN
