/-! TRACE, SIZE and MARK -/
def xTB (X : xS) (h : xH) (len : Nat) (tr : Nat → Int32) : Prop := xget X h 167 = some (.inl (8, [.ref 168, .int (nI len)])) ∧ xget X h 168 = some (.inr ((0, 16), .inl tr))
def lvS : List Int32 → Nat → (Nat → Int32) → (Nat → Int32)
  | [], _, t => t
  | b :: bs, n, t => lvS bs (n + 1) (upd t n b)
def inT : Nat → Prop := fun c => c = 167 ∨ c = 168
def xAk (X : xS) (h h' : xH) (len : Nat) (tr : Nat → Int32) (bs : List Int32) : Prop := xTB X h' (len + bs.length) (lvS bs len tr) ∧ xFr X inT h h'
theorem lvS_app (b1 b2 : List Int32) : ∀ n t, lvS (b1 ++ b2) n t = lvS b2 (n + b1.length) (lvS b1 n t) := by
  induction b1 with
  | nil => intro n t; rfl
  | cons x b1 ih =>
    intro n t
    show lvS (b1 ++ b2) (n + 1) (upd t n x) = lvS b2 (n + (b1.length + 1)) (lvS b1 (n + 1) (upd t n x))
    rw [ih, show n + 1 + b1.length = n + (b1.length + 1) by omega]
theorem xAk_tr {X : xS} {h h1 h2 : xH} {len : Nat} {tr : Nat → Int32} {b1 b2 : List Int32} (e : xAk X h h1 len tr b1) (f : xAk X h1 h2 (len + b1.length) (lvS b1 len tr) b2) : xAk X h h2 len tr (b1 ++ b2) := by
  refine ⟨?_, xFr_tr e.2 f.2⟩
  rw [lvS_app, List.length_append, ← Nat.add_assoc]
  exact f.1
theorem nI_100 : nI 16 = nI 16 := rfl
section XAS
variable {X : xS} {h : xH} {len : Nat} {tr : Nat → Int32} {q ci : Nat} {nu dr du : Int32}
theorem r_leave (hT : xTB X h len tr) (hl : len < 16) (x : Int32) : ∃ h', xR X m_X9_leave 0 [.ref 167, .int x] [] h = some (none, h') ∧ xAk X h h' len tr [x] := by
  obtain ⟨t0, t1⟩ := hT
  have l0 := xg_live (by omega) t0
  have l1 := xg_live (by omega) t1
  have e1 : nI len < nI 16 := nI_lt hl (by omega)
  refine ⟨xset (xset h 168 (.inr ((0, 16), .inl (upd tr len x)))) 167 (.inl (8, [.ref 168, .int (nI (len + 1))])), ?_, ⟨?_, ?_⟩, ?_⟩
  · simp (disch := first | exact xnl_i _ | exact xnl_r _ | exact xnl_u _ | exact xnl_n | exact zI_2 | exact zI_24 | assumption | omega | (simp only [xset_len]; omega)) only [↓reduceIte, xbd_s, xpv_n, xpv_s, e_X9_leave_0, e_X9_leave_1, e_X9_leave_4, e_X9_leave_5, e_X9_leave_8, e_X9_leave_9, e_X9_leave_12, e_X9_leave_13, e_X9_leave_16, e_X9_leave_17, e_X9_leave_20, e_X9_leave_21, e_X9_leave_22, e_X9_leave_23, e_X9_leave_24, e_X9_leave_27, e_X9_leave_28, e_X9_leave_29, e_X9_leave_32, g_9_15_8, g_9_9_8, p_9_15_8, t0, t1, xn_K, e1, xs_i, xg_ne, xg_same, nI_inc]
  · exact xg_same (by omega) (by rw [xset_len]; omega)
  · rw [xg_ne (by omega) (by omega)]
    exact xg_same (by omega) (by omega)
  · exact xFr_tr (xFr_set (by omega) (Or.inr rfl)) (xFr_set (by omega) (Or.inl rfl))
theorem g_5_7 {x : Int32} {f0 f1 : Value} {K : Value → Option (Option Value × xH)} (hs : xSort ci x) : xgK (some (.inl (ci, [f0, f1]))) (xfld 5 7) K = K f0 := by
  rcases hs with ⟨rfl, _⟩ | ⟨rfl, _⟩ | ⟨rfl, _⟩ | ⟨rfl, _⟩ | ⟨rfl, _⟩ <;> rfl
theorem g_5_13 {x : Int32} {f0 f1 : Value} {K : Value → Option (Option Value × xH)} (hs : xSort ci x) : xgK (some (.inl (ci, [f0, f1]))) (xfld 5 13) K = K f1 := by
  rcases hs with ⟨rfl, _⟩ | ⟨rfl, _⟩ | ⟨rfl, _⟩ | ⟨rfl, _⟩ | ⟨rfl, _⟩ <;> rfl
/-- one body, asked of a place -/
def xBo (X : xS) (m : xMd) (as : List Value) (q ci : Nat) (nu dr v : Int32) (bs : List Int32) : Prop := ∀ h len tr, xTB X h len tr → len + bs.length ≤ 16 → xget X h q = some (.inl (ci, [.int nu, .int dr])) → ∃ h', xR X m 0 as [] h = some (some (.int v), h') ∧ xAk X h h' len tr bs
theorem b_X5_askSize {so : Int32} (hs : xSort ci so) : xBo X m_X5_askSize [.ref q, .ref 167, .int du] q ci nu dr dr [nI 10] := by
  intro h len tr hT hl hp
  dsimp only [List.length_cons, List.length_nil] at hl
  by_cases hq : inT q
  · exfalso
    rcases hq with rfl | rfl
    · rw [hT.1] at hp; cases hp
    · rw [hT.2] at hp; cases hp
  obtain ⟨h1, e1, k1⟩ := r_leave hT (by omega) (nI 10)
  have p1 := (k1.2.2 q hq).trans hp
  have t0 := hT.1
  exact ⟨h1, by simp (disch := first | exact xnl_i _ | exact xnl_r _ | exact xnl_u _ | exact xnl_n | exact zI_2 | exact zI_24 | assumption | omega | (simp only [xset_len]; omega)) only [↓reduceIte, xbd_s, xpv_n, xpv_s, e_X5_askSize_0, e_X5_askSize_1, e_X5_askSize_3, c_X5_askSize_16_8_0, e_X5_askSize_6, e_X5_askSize_7, e_X5_askSize_10, g_5_13_0, g_5_13_1, g_5_13_2, g_5_13_4, g_5_13_9, hp, t0, e1, p1, g_5_13], k1⟩
theorem b_X5_askMark {so : Int32} (hs : xSort ci so) : xBo X m_X5_askMark [.ref q, .ref 167, .int du] q ci nu dr nu [nI 20] := by
  intro h len tr hT hl hp
  dsimp only [List.length_cons, List.length_nil] at hl
  by_cases hq : inT q
  · exfalso
    rcases hq with rfl | rfl
    · rw [hT.1] at hp; cases hp
    · rw [hT.2] at hp; cases hp
  obtain ⟨h1, e1, k1⟩ := r_leave hT (by omega) (nI 20)
  have p1 := (k1.2.2 q hq).trans hp
  have t0 := hT.1
  exact ⟨h1, by simp (disch := first | exact xnl_i _ | exact xnl_r _ | exact xnl_u _ | exact xnl_n | exact zI_2 | exact zI_24 | assumption | omega | (simp only [xset_len]; omega)) only [↓reduceIte, xbd_s, xpv_n, xpv_s, e_X5_askMark_0, e_X5_askMark_1, e_X5_askMark_3, c_X5_askMark_16_8_0, e_X5_askMark_6, e_X5_askMark_7, e_X5_askMark_10, g_5_7_0, g_5_7_1, g_5_7_2, g_5_7_4, g_5_7_9, hp, t0, e1, p1, g_5_7], k1⟩
theorem b_X0_askSize (hc : ci = 0 ∨ ci = 1) : xBo X m_X0_askSize [.ref q, .ref 167, .int du] q ci nu dr (dr - nI 100) [nI 13, nI 10] := by
  intro h len tr hT hl hp
  dsimp only [List.length_cons, List.length_nil] at hl
  by_cases hq : inT q
  · exfalso
    rcases hq with rfl | rfl
    · rw [hT.1] at hp; cases hp
    · rw [hT.2] at hp; cases hp
  obtain ⟨h1, e1, k1⟩ := r_leave hT (by omega) (nI 13)
  have p1 := (k1.2.2 q hq).trans hp
  have t0 := hT.1
  have t1 := k1.1.1
  rcases hc with rfl | rfl
  · obtain ⟨h2, e2, k2⟩ := b_X5_askSize (so := nI 4) (du := du) (by unfold xSort; simp) h1 _ _ k1.1 (by dsimp only [List.length_cons, List.length_nil]; omega) p1
    exact ⟨h2, by simp (disch := first | exact xnl_i _ | exact xnl_r _ | exact xnl_u _ | exact xnl_n | exact zI_2 | exact zI_24 | assumption | omega | (simp only [xset_len]; omega)) only [↓reduceIte, xbd_s, xpv_n, xpv_s, e_X0_askSize_0, e_X0_askSize_1, e_X0_askSize_3, c_X0_askSize_7_8_0, c_X0_askSize_13_0_0, c_X0_askSize_13_1_0, e_X0_askSize_6, e_X0_askSize_7, e_X0_askSize_8, e_X0_askSize_9, e_X0_askSize_12, e_X0_askSize_14, e_X0_askSize_15, hp, t0, e1, p1, e2], xAk_tr k1 k2⟩
  · obtain ⟨h2, e2, k2⟩ := b_X5_askSize (so := nI 5) (du := du) (by unfold xSort; simp) h1 _ _ k1.1 (by dsimp only [List.length_cons, List.length_nil]; omega) p1
    exact ⟨h2, by simp (disch := first | exact xnl_i _ | exact xnl_r _ | exact xnl_u _ | exact xnl_n | exact zI_2 | exact zI_24 | assumption | omega | (simp only [xset_len]; omega)) only [↓reduceIte, xbd_s, xpv_n, xpv_s, e_X0_askSize_0, e_X0_askSize_1, e_X0_askSize_3, c_X0_askSize_7_8_0, c_X0_askSize_13_0_0, c_X0_askSize_13_1_0, e_X0_askSize_6, e_X0_askSize_7, e_X0_askSize_8, e_X0_askSize_9, e_X0_askSize_12, e_X0_askSize_14, e_X0_askSize_15, hp, t0, e1, p1, e2], xAk_tr k1 k2⟩
theorem b_X4_askMark_4 : xBo X m_X4_askMark [.ref q, .ref 167, .int du] q 4 nu dr (nu + du) [nI 21, nI 20] := by
  intro h len tr hT hl hp
  dsimp only [List.length_cons, List.length_nil] at hl
  by_cases hq : inT q
  · exfalso
    rcases hq with rfl | rfl
    · rw [hT.1] at hp; cases hp
    · rw [hT.2] at hp; cases hp
  obtain ⟨h1, e1, k1⟩ := r_leave hT (by omega) (nI 21)
  have p1 := (k1.2.2 q hq).trans hp
  have t0 := hT.1
  have t1 := k1.1.1
  obtain ⟨h2, e2, k2⟩ := b_X5_askMark (so := nI 1) (du := du) (by unfold xSort; simp) h1 _ _ k1.1 (by simp only [List.length_cons, List.length_nil, List.length_append]; omega) p1
  have c2 := xAk_tr k1 k2
  have p2 := (c2.2.2 q hq).trans hp
  have t2 := c2.1.1
  exact ⟨h2, by simp (disch := first | exact xnl_i _ | exact xnl_r _ | exact xnl_u _ | exact xnl_n | exact zI_2 | exact zI_24 | assumption | omega | (simp only [xset_len]; omega)) only [↓reduceIte, xbd_s, xpv_n, xpv_s, e_X4_askMark_0, e_X4_askMark_1, e_X4_askMark_3, c_X4_askMark_7_8_0, c_X4_askMark_22_2_0, c_X4_askMark_22_4_0, c_X4_askMark_22_9_0, e_X4_askMark_6, e_X4_askMark_7, e_X4_askMark_8, e_X4_askMark_9, e_X4_askMark_12, e_X4_askMark_13, e_X4_askMark_14, hp, t0, e1, e2, p1, p2], c2⟩
theorem b_X4_askMark_9 : xBo X m_X4_askMark [.ref q, .ref 167, .int du] q 9 nu dr (nu + du) [nI 21, nI 20] := by
  intro h len tr hT hl hp
  dsimp only [List.length_cons, List.length_nil] at hl
  by_cases hq : inT q
  · exfalso
    rcases hq with rfl | rfl
    · rw [hT.1] at hp; cases hp
    · rw [hT.2] at hp; cases hp
  obtain ⟨h1, e1, k1⟩ := r_leave hT (by omega) (nI 21)
  have p1 := (k1.2.2 q hq).trans hp
  have t0 := hT.1
  have t1 := k1.1.1
  obtain ⟨h2, e2, k2⟩ := b_X5_askMark (so := nI 2) (du := du) (by unfold xSort; simp) h1 _ _ k1.1 (by simp only [List.length_cons, List.length_nil, List.length_append]; omega) p1
  have c2 := xAk_tr k1 k2
  have p2 := (c2.2.2 q hq).trans hp
  have t2 := c2.1.1
  exact ⟨h2, by simp (disch := first | exact xnl_i _ | exact xnl_r _ | exact xnl_u _ | exact xnl_n | exact zI_2 | exact zI_24 | assumption | omega | (simp only [xset_len]; omega)) only [↓reduceIte, xbd_s, xpv_n, xpv_s, e_X4_askMark_0, e_X4_askMark_1, e_X4_askMark_3, c_X4_askMark_7_8_0, c_X4_askMark_22_2_0, c_X4_askMark_22_4_0, c_X4_askMark_22_9_0, e_X4_askMark_6, e_X4_askMark_7, e_X4_askMark_8, e_X4_askMark_9, e_X4_askMark_12, e_X4_askMark_13, e_X4_askMark_14, hp, t0, e1, e2, p1, p2], c2⟩
theorem b_X4_askMark_2 : xBo X m_X4_askMark [.ref q, .ref 167, .int du] q 2 nu dr (nu + du) [nI 21, nI 20] := by
  intro h len tr hT hl hp
  dsimp only [List.length_cons, List.length_nil] at hl
  by_cases hq : inT q
  · exfalso
    rcases hq with rfl | rfl
    · rw [hT.1] at hp; cases hp
    · rw [hT.2] at hp; cases hp
  obtain ⟨h1, e1, k1⟩ := r_leave hT (by omega) (nI 21)
  have p1 := (k1.2.2 q hq).trans hp
  have t0 := hT.1
  have t1 := k1.1.1
  obtain ⟨h2, e2, k2⟩ := b_X5_askMark (so := nI 3) (du := du) (by unfold xSort; simp) h1 _ _ k1.1 (by simp only [List.length_cons, List.length_nil, List.length_append]; omega) p1
  have c2 := xAk_tr k1 k2
  have p2 := (c2.2.2 q hq).trans hp
  have t2 := c2.1.1
  exact ⟨h2, by simp (disch := first | exact xnl_i _ | exact xnl_r _ | exact xnl_u _ | exact xnl_n | exact zI_2 | exact zI_24 | assumption | omega | (simp only [xset_len]; omega)) only [↓reduceIte, xbd_s, xpv_n, xpv_s, e_X4_askMark_0, e_X4_askMark_1, e_X4_askMark_3, c_X4_askMark_7_8_0, c_X4_askMark_22_2_0, c_X4_askMark_22_4_0, c_X4_askMark_22_9_0, e_X4_askMark_6, e_X4_askMark_7, e_X4_askMark_8, e_X4_askMark_9, e_X4_askMark_12, e_X4_askMark_13, e_X4_askMark_14, hp, t0, e1, e2, p1, p2], c2⟩
theorem b_X10_askMark_9 : xBo X m_X10_askMark [.ref q, .ref 167, .int du] q 9 nu dr (nI 2 * (nu + du)) [nI 24, nI 21, nI 20] := by
  intro h len tr hT hl hp
  dsimp only [List.length_cons, List.length_nil] at hl
  by_cases hq : inT q
  · exfalso
    rcases hq with rfl | rfl
    · rw [hT.1] at hp; cases hp
    · rw [hT.2] at hp; cases hp
  obtain ⟨h1, e1, k1⟩ := r_leave hT (by omega) (nI 24)
  have p1 := (k1.2.2 q hq).trans hp
  have t0 := hT.1
  have t1 := k1.1.1
  obtain ⟨h2, e2, k2⟩ := b_X4_askMark_9 (du := du) h1 _ _ k1.1 (by simp only [List.length_cons, List.length_nil, List.length_append]; omega) p1
  have c2 := xAk_tr k1 k2
  have p2 := (c2.2.2 q hq).trans hp
  have t2 := c2.1.1
  exact ⟨h2, by simp (disch := first | exact xnl_i _ | exact xnl_r _ | exact xnl_u _ | exact xnl_n | exact zI_2 | exact zI_24 | assumption | omega | (simp only [xset_len]; omega)) only [↓reduceIte, xbd_s, xpv_n, xpv_s, e_X10_askMark_0, e_X10_askMark_1, e_X10_askMark_3, c_X10_askMark_9_8_0, c_X10_askMark_19_9_1, e_X10_askMark_6, e_X10_askMark_7, e_X10_askMark_8, e_X10_askMark_9, e_X10_askMark_10, e_X10_askMark_13, e_X10_askMark_14, hp, t0, e1, e2, p1, p2], c2⟩
theorem b_X2_askMark_2 : xBo X m_X2_askMark [.ref q, .ref 167, .int du] q 2 nu dr (nu + du - nI 1000) [nI 22, nI 21, nI 20] := by
  intro h len tr hT hl hp
  dsimp only [List.length_cons, List.length_nil] at hl
  by_cases hq : inT q
  · exfalso
    rcases hq with rfl | rfl
    · rw [hT.1] at hp; cases hp
    · rw [hT.2] at hp; cases hp
  obtain ⟨h1, e1, k1⟩ := r_leave hT (by omega) (nI 22)
  have p1 := (k1.2.2 q hq).trans hp
  have t0 := hT.1
  have t1 := k1.1.1
  obtain ⟨h2, e2, k2⟩ := b_X4_askMark_2 (du := du) h1 _ _ k1.1 (by simp only [List.length_cons, List.length_nil, List.length_append]; omega) p1
  have c2 := xAk_tr k1 k2
  have p2 := (c2.2.2 q hq).trans hp
  have t2 := c2.1.1
  exact ⟨h2, by simp (disch := first | exact xnl_i _ | exact xnl_r _ | exact xnl_u _ | exact xnl_n | exact zI_2 | exact zI_24 | assumption | omega | (simp only [xset_len]; omega)) only [↓reduceIte, xbd_s, xpv_n, xpv_s, e_X2_askMark_0, e_X2_askMark_1, e_X2_askMark_3, c_X2_askMark_9_8_0, c_X2_askMark_15_2_0, e_X2_askMark_6, e_X2_askMark_7, e_X2_askMark_8, e_X2_askMark_9, e_X2_askMark_12, e_X2_askMark_15, e_X2_askMark_16, hp, t0, e1, e2, p1, p2], c2⟩
theorem b_X4_askSize_4 : xBo X m_X4_askSize [.ref q, .ref 167, .int du, xU] q 4 nu dr (dr + (nu + du)) [nI 11, nI 10, nI 21, nI 20] := by
  intro h len tr hT hl hp
  dsimp only [List.length_cons, List.length_nil] at hl
  by_cases hq : inT q
  · exfalso
    rcases hq with rfl | rfl
    · rw [hT.1] at hp; cases hp
    · rw [hT.2] at hp; cases hp
  obtain ⟨h1, e1, k1⟩ := r_leave hT (by omega) (nI 11)
  have p1 := (k1.2.2 q hq).trans hp
  have t0 := hT.1
  have t1 := k1.1.1
  obtain ⟨h2, e2, k2⟩ := b_X5_askSize (so := nI 1) (du := du) (by unfold xSort; simp) h1 _ _ k1.1 (by simp only [List.length_cons, List.length_nil, List.length_append]; omega) p1
  have c2 := xAk_tr k1 k2
  have p2 := (c2.2.2 q hq).trans hp
  have t2 := c2.1.1
  obtain ⟨h3, e3, k3⟩ := b_X4_askMark_4 (du := du) h2 _ _ c2.1 (by simp only [List.length_cons, List.length_nil, List.length_append]; omega) p2
  have c3 := xAk_tr c2 k3
  have p3 := (c3.2.2 q hq).trans hp
  have t3 := c3.1.1
  exact ⟨h3, by simp (disch := first | exact xnl_i _ | exact xnl_r _ | exact xnl_u _ | exact xnl_n | exact zI_2 | exact zI_24 | assumption | omega | (simp only [xset_len]; omega)) only [↓reduceIte, xbd_s, xpv_n, xpv_s, e_X4_askSize_0, e_X4_askSize_1, e_X4_askSize_3, c_X4_askSize_7_8_0, c_X4_askSize_13_2_0, c_X4_askSize_13_4_0, c_X4_askSize_13_9_0, c_X4_askSize_17_4_1, c_X4_askSize_17_2_1, c_X4_askSize_17_9_1, e_X4_askSize_6, e_X4_askSize_7, e_X4_askSize_8, e_X4_askSize_9, e_X4_askSize_12, e_X4_askSize_13, e_X4_askSize_14, e_X4_askSize_15, e_X4_askSize_16, e_X4_askSize_17, e_X4_askSize_20, e_X4_askSize_21, hp, t0, e1, e2, e3, p1, p2, p3], c3⟩
theorem b_X4_askSize_9 : xBo X m_X4_askSize [.ref q, .ref 167, .int du, xU] q 9 nu dr (dr + (nI 2 * (nu + du))) [nI 11, nI 10, nI 24, nI 21, nI 20] := by
  intro h len tr hT hl hp
  dsimp only [List.length_cons, List.length_nil] at hl
  by_cases hq : inT q
  · exfalso
    rcases hq with rfl | rfl
    · rw [hT.1] at hp; cases hp
    · rw [hT.2] at hp; cases hp
  obtain ⟨h1, e1, k1⟩ := r_leave hT (by omega) (nI 11)
  have p1 := (k1.2.2 q hq).trans hp
  have t0 := hT.1
  have t1 := k1.1.1
  obtain ⟨h2, e2, k2⟩ := b_X5_askSize (so := nI 2) (du := du) (by unfold xSort; simp) h1 _ _ k1.1 (by simp only [List.length_cons, List.length_nil, List.length_append]; omega) p1
  have c2 := xAk_tr k1 k2
  have p2 := (c2.2.2 q hq).trans hp
  have t2 := c2.1.1
  obtain ⟨h3, e3, k3⟩ := b_X10_askMark_9 (du := du) h2 _ _ c2.1 (by simp only [List.length_cons, List.length_nil, List.length_append]; omega) p2
  have c3 := xAk_tr c2 k3
  have p3 := (c3.2.2 q hq).trans hp
  have t3 := c3.1.1
  exact ⟨h3, by simp (disch := first | exact xnl_i _ | exact xnl_r _ | exact xnl_u _ | exact xnl_n | exact zI_2 | exact zI_24 | assumption | omega | (simp only [xset_len]; omega)) only [↓reduceIte, xbd_s, xpv_n, xpv_s, e_X4_askSize_0, e_X4_askSize_1, e_X4_askSize_3, c_X4_askSize_7_8_0, c_X4_askSize_13_2_0, c_X4_askSize_13_4_0, c_X4_askSize_13_9_0, c_X4_askSize_17_4_1, c_X4_askSize_17_2_1, c_X4_askSize_17_9_1, e_X4_askSize_6, e_X4_askSize_7, e_X4_askSize_8, e_X4_askSize_9, e_X4_askSize_12, e_X4_askSize_13, e_X4_askSize_14, e_X4_askSize_15, e_X4_askSize_16, e_X4_askSize_17, e_X4_askSize_20, e_X4_askSize_21, hp, t0, e1, e2, e3, p1, p2, p3], c3⟩
theorem b_X4_askSize_2 : xBo X m_X4_askSize [.ref q, .ref 167, .int du, xU] q 2 nu dr (dr + (nu + du - nI 1000)) [nI 11, nI 10, nI 22, nI 21, nI 20] := by
  intro h len tr hT hl hp
  dsimp only [List.length_cons, List.length_nil] at hl
  by_cases hq : inT q
  · exfalso
    rcases hq with rfl | rfl
    · rw [hT.1] at hp; cases hp
    · rw [hT.2] at hp; cases hp
  obtain ⟨h1, e1, k1⟩ := r_leave hT (by omega) (nI 11)
  have p1 := (k1.2.2 q hq).trans hp
  have t0 := hT.1
  have t1 := k1.1.1
  obtain ⟨h2, e2, k2⟩ := b_X5_askSize (so := nI 3) (du := du) (by unfold xSort; simp) h1 _ _ k1.1 (by simp only [List.length_cons, List.length_nil, List.length_append]; omega) p1
  have c2 := xAk_tr k1 k2
  have p2 := (c2.2.2 q hq).trans hp
  have t2 := c2.1.1
  obtain ⟨h3, e3, k3⟩ := b_X2_askMark_2 (du := du) h2 _ _ c2.1 (by simp only [List.length_cons, List.length_nil, List.length_append]; omega) p2
  have c3 := xAk_tr c2 k3
  have p3 := (c3.2.2 q hq).trans hp
  have t3 := c3.1.1
  exact ⟨h3, by simp (disch := first | exact xnl_i _ | exact xnl_r _ | exact xnl_u _ | exact xnl_n | exact zI_2 | exact zI_24 | assumption | omega | (simp only [xset_len]; omega)) only [↓reduceIte, xbd_s, xpv_n, xpv_s, e_X4_askSize_0, e_X4_askSize_1, e_X4_askSize_3, c_X4_askSize_7_8_0, c_X4_askSize_13_2_0, c_X4_askSize_13_4_0, c_X4_askSize_13_9_0, c_X4_askSize_17_4_1, c_X4_askSize_17_2_1, c_X4_askSize_17_9_1, e_X4_askSize_6, e_X4_askSize_7, e_X4_askSize_8, e_X4_askSize_9, e_X4_askSize_12, e_X4_askSize_13, e_X4_askSize_14, e_X4_askSize_15, e_X4_askSize_16, e_X4_askSize_17, e_X4_askSize_20, e_X4_askSize_21, hp, t0, e1, e2, e3, p1, p2, p3], c3⟩
theorem b_X10_askSize_9 : xBo X m_X10_askSize [.ref q, .ref 167, .int du] q 9 nu dr (-(dr + (nI 2 * (nu + du)))) [nI 12, nI 11, nI 10, nI 24, nI 21, nI 20] := by
  intro h len tr hT hl hp
  dsimp only [List.length_cons, List.length_nil] at hl
  by_cases hq : inT q
  · exfalso
    rcases hq with rfl | rfl
    · rw [hT.1] at hp; cases hp
    · rw [hT.2] at hp; cases hp
  obtain ⟨h1, e1, k1⟩ := r_leave hT (by omega) (nI 12)
  have p1 := (k1.2.2 q hq).trans hp
  have t0 := hT.1
  have t1 := k1.1.1
  obtain ⟨h2, e2, k2⟩ := b_X4_askSize_9 (du := du) h1 _ _ k1.1 (by simp only [List.length_cons, List.length_nil, List.length_append]; omega) p1
  have c2 := xAk_tr k1 k2
  have p2 := (c2.2.2 q hq).trans hp
  have t2 := c2.1.1
  exact ⟨h2, by simp (disch := first | exact xnl_i _ | exact xnl_r _ | exact xnl_u _ | exact xnl_n | exact zI_2 | exact zI_24 | assumption | omega | (simp only [xset_len]; omega)) only [↓reduceIte, xbd_s, xpv_n, xpv_s, e_X10_askSize_0, e_X10_askSize_1, e_X10_askSize_3, c_X10_askSize_9_8_0, c_X10_askSize_15_9_0, e_X10_askSize_6, e_X10_askSize_7, e_X10_askSize_8, e_X10_askSize_9, e_X10_askSize_12, e_X10_askSize_13, hp, t0, e1, e2, p1, p2], c2⟩
theorem b_X1_askSize_1 : xBo X m_X1_askSize [.ref q, .ref 167, .int du] q 1 nu dr (nI 2 * (dr - nI 100)) [nI 14, nI 13, nI 10] := by
  intro h len tr hT hl hp
  dsimp only [List.length_cons, List.length_nil] at hl
  by_cases hq : inT q
  · exfalso
    rcases hq with rfl | rfl
    · rw [hT.1] at hp; cases hp
    · rw [hT.2] at hp; cases hp
  obtain ⟨h1, e1, k1⟩ := r_leave hT (by omega) (nI 14)
  have p1 := (k1.2.2 q hq).trans hp
  have t0 := hT.1
  have t1 := k1.1.1
  obtain ⟨h2, e2, k2⟩ := b_X0_askSize (Or.inr rfl) (du := du) h1 _ _ k1.1 (by simp only [List.length_cons, List.length_nil, List.length_append]; omega) p1
  have c2 := xAk_tr k1 k2
  have p2 := (c2.2.2 q hq).trans hp
  have t2 := c2.1.1
  exact ⟨h2, by simp (disch := first | exact xnl_i _ | exact xnl_r _ | exact xnl_u _ | exact xnl_n | exact zI_2 | exact zI_24 | assumption | omega | (simp only [xset_len]; omega)) only [↓reduceIte, xbd_s, xpv_n, xpv_s, e_X1_askSize_0, e_X1_askSize_1, e_X1_askSize_3, c_X1_askSize_7_8_0, c_X1_askSize_13_1_1, e_X1_askSize_6, e_X1_askSize_7, e_X1_askSize_8, e_X1_askSize_9, e_X1_askSize_10, e_X1_askSize_13, e_X1_askSize_14, hp, t0, e1, e2, p1, p2], c2⟩
theorem b_X0_askMark_0 : xBo X m_X0_askMark [.ref q, .ref 167, .int du, xU] q 0 nu dr (nu - (dr - nI 100)) [nI 23, nI 20, nI 13, nI 10] := by
  intro h len tr hT hl hp
  dsimp only [List.length_cons, List.length_nil] at hl
  by_cases hq : inT q
  · exfalso
    rcases hq with rfl | rfl
    · rw [hT.1] at hp; cases hp
    · rw [hT.2] at hp; cases hp
  obtain ⟨h1, e1, k1⟩ := r_leave hT (by omega) (nI 23)
  have p1 := (k1.2.2 q hq).trans hp
  have t0 := hT.1
  have t1 := k1.1.1
  obtain ⟨h2, e2, k2⟩ := b_X5_askMark (so := nI 4) (du := du) (by unfold xSort; simp) h1 _ _ k1.1 (by simp only [List.length_cons, List.length_nil, List.length_append]; omega) p1
  have c2 := xAk_tr k1 k2
  have p2 := (c2.2.2 q hq).trans hp
  have t2 := c2.1.1
  obtain ⟨h3, e3, k3⟩ := b_X0_askSize (Or.inl rfl) (du := du) h2 _ _ c2.1 (by simp only [List.length_cons, List.length_nil, List.length_append]; omega) p2
  have c3 := xAk_tr c2 k3
  have p3 := (c3.2.2 q hq).trans hp
  have t3 := c3.1.1
  exact ⟨h3, by simp (disch := first | exact xnl_i _ | exact xnl_r _ | exact xnl_u _ | exact xnl_n | exact zI_2 | exact zI_24 | assumption | omega | (simp only [xset_len]; omega)) only [↓reduceIte, xbd_s, xpv_n, xpv_s, e_X0_askMark_0, e_X0_askMark_1, e_X0_askMark_3, c_X0_askMark_7_8_0, c_X0_askMark_17_0_0, c_X0_askMark_17_1_0, c_X0_askMark_20_0_1, c_X0_askMark_20_1_1, e_X0_askMark_6, e_X0_askMark_7, e_X0_askMark_8, e_X0_askMark_9, e_X0_askMark_12, e_X0_askMark_13, e_X0_askMark_14, e_X0_askMark_15, e_X0_askMark_16, e_X0_askMark_17, e_X0_askMark_20, e_X0_askMark_21, hp, t0, e1, e2, e3, p1, p2, p3], c3⟩
theorem b_X0_askMark_1 : xBo X m_X0_askMark [.ref q, .ref 167, .int du, xU] q 1 nu dr (nu - (nI 2 * (dr - nI 100))) [nI 23, nI 20, nI 14, nI 13, nI 10] := by
  intro h len tr hT hl hp
  dsimp only [List.length_cons, List.length_nil] at hl
  by_cases hq : inT q
  · exfalso
    rcases hq with rfl | rfl
    · rw [hT.1] at hp; cases hp
    · rw [hT.2] at hp; cases hp
  obtain ⟨h1, e1, k1⟩ := r_leave hT (by omega) (nI 23)
  have p1 := (k1.2.2 q hq).trans hp
  have t0 := hT.1
  have t1 := k1.1.1
  obtain ⟨h2, e2, k2⟩ := b_X5_askMark (so := nI 5) (du := du) (by unfold xSort; simp) h1 _ _ k1.1 (by simp only [List.length_cons, List.length_nil, List.length_append]; omega) p1
  have c2 := xAk_tr k1 k2
  have p2 := (c2.2.2 q hq).trans hp
  have t2 := c2.1.1
  obtain ⟨h3, e3, k3⟩ := b_X1_askSize_1 (du := du) h2 _ _ c2.1 (by simp only [List.length_cons, List.length_nil, List.length_append]; omega) p2
  have c3 := xAk_tr c2 k3
  have p3 := (c3.2.2 q hq).trans hp
  have t3 := c3.1.1
  exact ⟨h3, by simp (disch := first | exact xnl_i _ | exact xnl_r _ | exact xnl_u _ | exact xnl_n | exact zI_2 | exact zI_24 | assumption | omega | (simp only [xset_len]; omega)) only [↓reduceIte, xbd_s, xpv_n, xpv_s, e_X0_askMark_0, e_X0_askMark_1, e_X0_askMark_3, c_X0_askMark_7_8_0, c_X0_askMark_17_0_0, c_X0_askMark_17_1_0, c_X0_askMark_20_0_1, c_X0_askMark_20_1_1, e_X0_askMark_6, e_X0_askMark_7, e_X0_askMark_8, e_X0_askMark_9, e_X0_askMark_12, e_X0_askMark_13, e_X0_askMark_14, e_X0_askMark_15, e_X0_askMark_16, e_X0_askMark_17, e_X0_askMark_20, e_X0_askMark_21, hp, t0, e1, e2, e3, p1, p2, p3], c3⟩
end XAS
