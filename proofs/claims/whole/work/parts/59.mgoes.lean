/-! the reference: goes, ahead, like -/
theorem xf_skip {α : Type} (F G : Nat → α → α) (o c : Nat) (h1 : ∀ k y, k < o → F k y = y) (h2 : ∀ k y, o + k < c → F (o + k) y = G k y) (x : α) : xfold F c x = xfold G (c - o) x := by
  have key : ∀ e, e ≤ c → xfold F e x = xfold G (e - o) x := by
    intro e
    induction e with
    | zero => intro _; rw [Nat.zero_sub]; rfl
    | succ e ih =>
      intro he
      show F e (xfold F e x) = _
      by_cases hc : e < o
      · rw [h1 _ _ hc, ih (by omega), show e + 1 - o = e - o by omega]
      · rw [ih (by omega), show e + 1 - o = (e - o) + 1 by omega]
        have := h2 (e - o) (xfold G (e - o) x) (by omega)
        rw [show o + (e - o) = e by omega] at this
        exact this
  exact key c (Nat.le_refl c)
theorem xf_pair {α β : Type} (F : Nat → α → α) (G : Nat → β → β) : ∀ c x y, xfold (fun k (p : α × β) => (F k p.1, G k p.2)) c (x, y) = (xfold F c x, xfold G c y) := by
  intro c
  induction c with
  | zero => intro x y; rfl
  | succ c ih => intro x y; show (F c _, G c _) = _; rw [ih]; rfl
def xST (f : Nat → Int32) (n m hr : Nat) : Prop := f 0 = nI 1 ∧ f 1 = nI n ∧ n ≤ 7 ∧ f 2 = nI m ∧ m ≤ 4 ∧ f 25 = nI hr ∧ hr ≤ 999 ∧ (∀ s, s < n → ∃ t, f (3 + s) = nI t ∧ 1 ≤ t ∧ t ≤ 5) ∧ (∀ s, s < n → ∃ b, f (33 + s) = nI b ∧ b < 7) ∧ (∀ s, s < n → ∃ c, f (47 + s) = nI c ∧ c ≤ 48)
/-- what is no scratch -/
def kpt (S S' : Nat → Int32) : Prop := ∀ i, i < 9 ∨ i = 13 → S' i = S i
theorem kpt_rfl {S : Nat → Int32} : kpt S S := fun _ _ => rfl
theorem kpt_tr {S S' S'' : Nat → Int32} (e : kpt S S') (f : kpt S' S'') : kpt S S'' := fun i hi => (f i hi).trans (e i hi)
theorem kpt_2 {S : Nat → Int32} {x y : Int32} {i j : Nat} (hi : 9 ≤ i ∧ i ≤ 12) (hj : 9 ≤ j ∧ j ≤ 12) : kpt S (upd (upd S i x) j y) := fun k hk => by rw [upd_ne (by omega), upd_ne (by omega)]
section XMG
variable {X : xS} {h : xH} {S : Nat → Int32} {nm : Int64} {A : Nat → Nat → Int32} {n m hr : Nat}
theorem m_fallO (hM : xMB X h S nm A) (T : xST (A 0) n m hr) {s : Nat} (hs : s < n) (t : Int32) : xR X m_X12_fallOf 0 [.ref 169, .int (nI s), .int t] [] h = some (some (.int (fallS (A 0 (3 + s)) (A 0 (10 + s)) t)), h) := by
  obtain ⟨so, e1, e2, e3⟩ := T.2.2.2.2.2.2.2.1 s hs
  have hn := T.2.2.1
  rw [e1]
  exact m_fallOf hM (by omega) e1 e2 e3 t
theorem m_sunO (hM : xMB X h S nm A) (T : xST (A 0) n m hr) {s : Nat} (hs : s < n) (t : Int32) : xR X m_X12_sunOf 0 [.ref 169, .int (nI s), .int t] [] h = some (some (.int (sunS (A 0 (3 + s)) t)), h) := by
  obtain ⟨so, e1, e2, e3⟩ := T.2.2.2.2.2.2.2.1 s hs
  have hn := T.2.2.1
  rw [e1]
  exact m_sunOf hM (by omega) e1 t
def goD (f : Nat → Int32) (s c : Nat) : Int32 := xfold (fun j x => dNx (fun s => f (3 + s)) (fun s => f (10 + s)) (fun s => f (47 + s)) (f 25) s x (nI j)) c (f (26 + s))
def goA (f : Nat → Int32) (s b c : Nat) : Int32 := xfold (fun j x => fNx (fun s => f (3 + s)) (fun s => f (47 + s)) (f 25) s x (nI j)) c (f (40 + b))
theorem m_goes (hM : xMB X h S nm A) (T : xST (A 0) n m hr) {s b c : Nat} (hs : s < n) (hb : A 0 (33 + s) = nI b) (hb7 : b < 7) (hc99 : c ≤ 99) : ∃ h', xR X m_X12_goes 0 [.ref 169, .int (nI s), .int (nI c), xU] [] h = some (none, h') ∧ xMB X h' (upd (upd S 9 (goD (A 0) s c)) 10 (goA (A 0) s b c)) nm A ∧ xFr X inM h h' := by
  have hn := T.2.2.1
  obtain ⟨oc, ho, ho48⟩ := T.2.2.2.2.2.2.2.2.2 s hs
  have M1 := xMB_S (S' := upd S 9 (A 0 (26 + s))) (nm' := nm) hM
  have M2 := xMB_S (S' := upd (upd S 9 (A 0 (26 + s))) 10 (A 0 (40 + b))) (nm' := nm) M1
  have L := x_loopH (X := X) (A := inM) (fun k (y : Int32 × Int32) h => xR X m_X12_goes 44 [.ref 169, .int (nI s), .int (nI c), .int (nI (oc + k))] [] h) (fun y h => xMB X h (upd (upd S 9 y.1) 10 y.2) nm A) (fun k y => (atS (y.1 + fallS (A 0 (3 + s)) (A 0 (10 + s)) (A 0 25 + nI (oc + k))), atS (y.2 + sunS (A 0 (3 + s)) (A 0 25 + nI (oc + k))))) (c - oc) (by
    intro k hk y h hM
    obtain ⟨x, y⟩ := y
    dsimp only at hM ⊢
    have hc := hM.1
    rw [upd_eq, upd_ne (show 9 ≠ 10 by decide), upd_eq] at hc
    have a0 := hM.2.1
    have e1 : nI (oc + k) < nI c := nI_lt (by omega) (by omega)
    have q1 := m_fallO hM T hs (A 0 25 + nI (oc + k))
    have N1 := xMB_S (S' := upd (upd S 9 (atS (x + fallS (A 0 (3 + s)) (A 0 (10 + s)) (A 0 25 + nI (oc + k))))) 10 y) (nm' := nm) hM
    have q2 := m_sunO N1 T hs (A 0 25 + nI (oc + k))
    have hc1 := N1.1
    rw [upd_eq, upd_ne (show 9 ≠ 10 by decide), upd_eq] at hc1
    have a01 := N1.2.1
    have N2 := xMB_S (S' := upd (upd S 9 (atS (x + fallS (A 0 (3 + s)) (A 0 (10 + s)) (A 0 25 + nI (oc + k))))) 10 (atS (y + sunS (A 0 (3 + s)) (A 0 25 + nI (oc + k))))) (nm' := nm) N1
    refine ⟨_, ?_, N2, xFr_tr (xFr_set (by omega) ⟨by omega, by omega⟩) (xFr_set (by omega) ⟨by omega, by omega⟩)⟩
    rw [e_X12_goes_44]
    refine Eq.trans (b := xR X m_X12_goes 75 [.ref 169, .int (nI s), .int (nI c), .int (nI (oc + k))] [] (xset h 169 (xMc (upd (upd S 9 (atS (x + fallS (A 0 (3 + s)) (A 0 (10 + s)) (A 0 25 + nI (oc + k))))) 10 y) nm))) ?_ ?_
    · simp (disch := first | exact xnl_i _ | exact xnl_r _ | exact xnl_u _ | exact xnl_n | exact zI_2 | exact zI_24 | assumption | omega | (simp only [xset_len]; omega)) only [↓reduceIte, xbd_s, xpv_n, xpv_s, e_X12_goes_0, e_X12_goes_1, e_X12_goes_2, e_X12_goes_5, e_X12_goes_7, e_X12_goes_8, e_X12_goes_9, e_X12_goes_10, e_X12_goes_13, e_X12_goes_14, e_X12_goes_15, e_X12_goes_18, e_X12_goes_20, e_X12_goes_21, e_X12_goes_24, e_X12_goes_26, e_X12_goes_27, e_X12_goes_28, e_X12_goes_29, e_X12_goes_30, e_X12_goes_31, e_X12_goes_34, e_X12_goes_35, e_X12_goes_38, e_X12_goes_40, e_X12_goes_41, e_X12_goes_42, e_X12_goes_43, e_X12_goes_44, e_X12_goes_45, e_X12_goes_46, e_X12_goes_49, e_X12_goes_50, e_X12_goes_51, e_X12_goes_54, e_X12_goes_55, e_X12_goes_56, e_X12_goes_57, e_X12_goes_60, e_X12_goes_62, e_X12_goes_63, e_X12_goes_64, e_X12_goes_65, c_X12_goes_157_11_2, c_X12_goes_164_11_2, e_X12_goes_68, e_X12_goes_69, e_X12_goes_72, e_X12_goes_76, e_X12_goes_77, e_X12_goes_80, e_X12_goes_81, e_X12_goes_82, e_X12_goes_83, e_X12_goes_86, e_X12_goes_88, e_X12_goes_89, e_X12_goes_90, e_X12_goes_91, e_X12_goes_94, e_X12_goes_95, e_X12_goes_98, e_X12_goes_101, e_X12_goes_104, e_X12_goes_107, g_12_177_11, g_12_180_11, g_12_7_11, p_12_177_11, p_12_180_11, hc, a0, xl_i, if_pos e1, q1, m_atMost]
      all_goals rfl
    · simp (disch := first | exact xnl_i _ | exact xnl_r _ | exact xnl_u _ | exact xnl_n | exact zI_2 | exact zI_24 | assumption | omega | (simp only [xset_len]; omega)) only [↓reduceIte, xbd_s, xpv_n, xpv_s, e_X12_goes_0, e_X12_goes_1, e_X12_goes_2, e_X12_goes_5, e_X12_goes_7, e_X12_goes_8, e_X12_goes_9, e_X12_goes_10, e_X12_goes_13, e_X12_goes_14, e_X12_goes_15, e_X12_goes_18, e_X12_goes_20, e_X12_goes_21, e_X12_goes_24, e_X12_goes_26, e_X12_goes_27, e_X12_goes_28, e_X12_goes_29, e_X12_goes_30, e_X12_goes_31, e_X12_goes_34, e_X12_goes_35, e_X12_goes_38, e_X12_goes_40, e_X12_goes_41, e_X12_goes_42, e_X12_goes_43, e_X12_goes_45, e_X12_goes_46, e_X12_goes_49, e_X12_goes_50, e_X12_goes_51, e_X12_goes_54, e_X12_goes_55, e_X12_goes_56, e_X12_goes_57, e_X12_goes_60, e_X12_goes_62, e_X12_goes_63, e_X12_goes_64, e_X12_goes_65, c_X12_goes_157_11_2, c_X12_goes_164_11_2, e_X12_goes_68, e_X12_goes_69, e_X12_goes_72, e_X12_goes_75, e_X12_goes_76, e_X12_goes_77, e_X12_goes_80, e_X12_goes_81, e_X12_goes_82, e_X12_goes_83, e_X12_goes_86, e_X12_goes_88, e_X12_goes_89, e_X12_goes_90, e_X12_goes_91, e_X12_goes_94, e_X12_goes_95, e_X12_goes_98, e_X12_goes_101, e_X12_goes_104, e_X12_goes_107, g_12_177_11, g_12_180_11, g_12_7_11, p_12_177_11, p_12_180_11, hc1, a01, xl_i, q2, m_atMost, nI_inc]
      all_goals rfl) (A 0 (26 + s), A 0 (40 + b)) _ M2
  obtain ⟨h1, e1, e2, e3⟩ := L
  have hD : goD (A 0) s c = xfold (fun k x => atS (x + fallS (A 0 (3 + s)) (A 0 (10 + s)) (A 0 25 + nI (oc + k)))) (c - oc) (A 0 (26 + s)) := by
    unfold goD
    refine xf_skip _ _ oc c ?_ ?_ _
    · intro k y hk
      unfold dNx
      rw [if_pos]
      show nI k < A 0 (47 + s)
      rw [ho]
      exact nI_lt hk (by omega)
    · intro k y hk
      unfold dNx
      rw [if_neg]
      show ¬ nI (oc + k) < A 0 (47 + s)
      rw [ho]
      exact nI_nlt (by omega) (by omega)
  have hE : goA (A 0) s b c = xfold (fun k x => atS (x + sunS (A 0 (3 + s)) (A 0 25 + nI (oc + k)))) (c - oc) (A 0 (40 + b)) := by
    unfold goA
    refine xf_skip _ _ oc c ?_ ?_ _
    · intro k y hk
      unfold fNx
      rw [if_pos]
      show nI k < A 0 (47 + s)
      rw [ho]
      exact nI_lt hk (by omega)
    · intro k y hk
      unfold fNx
      rw [if_neg]
      show ¬ nI (oc + k) < A 0 (47 + s)
      rw [ho]
      exact nI_nlt (by omega) (by omega)
  rw [xf_pair (fun k x => atS (x + fallS (A 0 (3 + s)) (A 0 (10 + s)) (A 0 25 + nI (oc + k)))) (fun k x => atS (x + sunS (A 0 (3 + s)) (A 0 25 + nI (oc + k))))] at e2
  dsimp only at e2
  rw [← hD, ← hE] at e2
  refine ⟨h1, ?_, e2, xFr_tr (xFr_tr (xFr_set (by omega) ⟨by omega, by omega⟩) (xFr_set (by omega) ⟨by omega, by omega⟩)) e3⟩
  have hc := hM.1
  have a0 := hM.2.1
  have c1 := M1.1
  have a1 := M1.2.1
  have c2 := M2.1
  have a2 := M2.2.1
  refine Eq.trans (b := xR X m_X12_goes 13 [.ref 169, .int (nI s), .int (nI c), xU] [] (xset h 169 (xMc (upd S 9 (A 0 (26 + s))) nm))) ?_ ?_
  · simp (disch := first | exact xnl_i _ | exact xnl_r _ | exact xnl_u _ | exact xnl_n | exact zI_2 | exact zI_24 | assumption | omega | (simp only [xset_len]; omega)) only [↓reduceIte, xbd_s, xpv_n, xpv_s, e_X12_goes_0, e_X12_goes_1, e_X12_goes_2, e_X12_goes_5, e_X12_goes_7, e_X12_goes_8, e_X12_goes_9, e_X12_goes_10, e_X12_goes_14, e_X12_goes_15, e_X12_goes_18, e_X12_goes_20, e_X12_goes_21, e_X12_goes_24, e_X12_goes_26, e_X12_goes_27, e_X12_goes_28, e_X12_goes_29, e_X12_goes_30, e_X12_goes_31, e_X12_goes_34, e_X12_goes_35, e_X12_goes_38, e_X12_goes_40, e_X12_goes_41, e_X12_goes_42, e_X12_goes_43, e_X12_goes_44, e_X12_goes_45, e_X12_goes_46, e_X12_goes_49, e_X12_goes_50, e_X12_goes_51, e_X12_goes_54, e_X12_goes_55, e_X12_goes_56, e_X12_goes_57, e_X12_goes_60, e_X12_goes_62, e_X12_goes_63, e_X12_goes_64, e_X12_goes_65, c_X12_goes_157_11_2, c_X12_goes_164_11_2, e_X12_goes_68, e_X12_goes_69, e_X12_goes_72, e_X12_goes_75, e_X12_goes_76, e_X12_goes_77, e_X12_goes_80, e_X12_goes_81, e_X12_goes_82, e_X12_goes_83, e_X12_goes_86, e_X12_goes_88, e_X12_goes_89, e_X12_goes_90, e_X12_goes_91, e_X12_goes_94, e_X12_goes_95, e_X12_goes_98, e_X12_goes_101, e_X12_goes_104, e_X12_goes_107, g_12_177_11, g_12_180_11, g_12_7_11, p_12_177_11, p_12_180_11, hc, a0, xl_i, nI_add]
    all_goals rfl
  refine Eq.trans (b := xR X m_X12_goes 34 [.ref 169, .int (nI s), .int (nI c), xU] [] (xset (xset h 169 (xMc (upd S 9 (A 0 (26 + s))) nm)) 169 (xMc (upd (upd S 9 (A 0 (26 + s))) 10 (A 0 (40 + b))) nm))) ?_ ?_
  · simp (disch := first | exact xnl_i _ | exact xnl_r _ | exact xnl_u _ | exact xnl_n | exact zI_2 | exact zI_24 | assumption | omega | (simp only [xset_len]; omega)) only [↓reduceIte, xbd_s, xpv_n, xpv_s, e_X12_goes_0, e_X12_goes_1, e_X12_goes_2, e_X12_goes_5, e_X12_goes_7, e_X12_goes_8, e_X12_goes_9, e_X12_goes_10, e_X12_goes_13, e_X12_goes_14, e_X12_goes_15, e_X12_goes_18, e_X12_goes_20, e_X12_goes_21, e_X12_goes_24, e_X12_goes_26, e_X12_goes_27, e_X12_goes_28, e_X12_goes_29, e_X12_goes_30, e_X12_goes_31, e_X12_goes_35, e_X12_goes_38, e_X12_goes_40, e_X12_goes_41, e_X12_goes_42, e_X12_goes_43, e_X12_goes_44, e_X12_goes_45, e_X12_goes_46, e_X12_goes_49, e_X12_goes_50, e_X12_goes_51, e_X12_goes_54, e_X12_goes_55, e_X12_goes_56, e_X12_goes_57, e_X12_goes_60, e_X12_goes_62, e_X12_goes_63, e_X12_goes_64, e_X12_goes_65, c_X12_goes_157_11_2, c_X12_goes_164_11_2, e_X12_goes_68, e_X12_goes_69, e_X12_goes_72, e_X12_goes_75, e_X12_goes_76, e_X12_goes_77, e_X12_goes_80, e_X12_goes_81, e_X12_goes_82, e_X12_goes_83, e_X12_goes_86, e_X12_goes_88, e_X12_goes_89, e_X12_goes_90, e_X12_goes_91, e_X12_goes_94, e_X12_goes_95, e_X12_goes_98, e_X12_goes_101, e_X12_goes_104, e_X12_goes_107, g_12_177_11, g_12_180_11, g_12_7_11, p_12_177_11, p_12_180_11, c1, a1, xl_i, nI_add, hb]
    all_goals rfl
  simp (disch := first | exact xnl_i _ | exact xnl_r _ | exact xnl_u _ | exact xnl_n | exact zI_2 | exact zI_24 | assumption | omega | (simp only [xset_len]; omega)) only [↓reduceIte, xbd_s, xpv_n, xpv_s, e_X12_goes_0, e_X12_goes_1, e_X12_goes_2, e_X12_goes_5, e_X12_goes_7, e_X12_goes_8, e_X12_goes_9, e_X12_goes_10, e_X12_goes_13, e_X12_goes_14, e_X12_goes_15, e_X12_goes_18, e_X12_goes_20, e_X12_goes_21, e_X12_goes_24, e_X12_goes_26, e_X12_goes_27, e_X12_goes_28, e_X12_goes_29, e_X12_goes_30, e_X12_goes_31, e_X12_goes_34, e_X12_goes_35, e_X12_goes_38, e_X12_goes_40, e_X12_goes_41, e_X12_goes_42, e_X12_goes_43, e_X12_goes_45, e_X12_goes_46, e_X12_goes_49, e_X12_goes_50, e_X12_goes_51, e_X12_goes_54, e_X12_goes_55, e_X12_goes_56, e_X12_goes_57, e_X12_goes_60, e_X12_goes_62, e_X12_goes_63, e_X12_goes_64, e_X12_goes_65, c_X12_goes_157_11_2, c_X12_goes_164_11_2, e_X12_goes_68, e_X12_goes_69, e_X12_goes_72, e_X12_goes_75, e_X12_goes_76, e_X12_goes_77, e_X12_goes_80, e_X12_goes_81, e_X12_goes_82, e_X12_goes_83, e_X12_goes_86, e_X12_goes_88, e_X12_goes_89, e_X12_goes_90, e_X12_goes_91, e_X12_goes_94, e_X12_goes_95, e_X12_goes_98, e_X12_goes_101, e_X12_goes_104, e_X12_goes_107, g_12_177_11, g_12_180_11, g_12_7_11, p_12_177_11, p_12_180_11, c2, a2, xl_i, nI_add, ho]
  refine e1.trans ?_
  have e9 : ¬ nI (oc + (c - oc)) < nI c := nI_nlt (by omega) (by omega)
  simp (disch := first | exact xnl_i _ | exact xnl_r _ | exact xnl_u _ | exact xnl_n | exact zI_2 | exact zI_24 | assumption | omega | (simp only [xset_len]; omega)) only [↓reduceIte, xbd_s, xpv_n, xpv_s, e_X12_goes_0, e_X12_goes_1, e_X12_goes_2, e_X12_goes_5, e_X12_goes_7, e_X12_goes_8, e_X12_goes_9, e_X12_goes_10, e_X12_goes_13, e_X12_goes_14, e_X12_goes_15, e_X12_goes_18, e_X12_goes_20, e_X12_goes_21, e_X12_goes_24, e_X12_goes_26, e_X12_goes_27, e_X12_goes_28, e_X12_goes_29, e_X12_goes_30, e_X12_goes_31, e_X12_goes_34, e_X12_goes_35, e_X12_goes_38, e_X12_goes_40, e_X12_goes_41, e_X12_goes_42, e_X12_goes_43, e_X12_goes_44, e_X12_goes_45, e_X12_goes_46, e_X12_goes_49, e_X12_goes_50, e_X12_goes_51, e_X12_goes_54, e_X12_goes_55, e_X12_goes_56, e_X12_goes_57, e_X12_goes_60, e_X12_goes_62, e_X12_goes_63, e_X12_goes_64, e_X12_goes_65, c_X12_goes_157_11_2, c_X12_goes_164_11_2, e_X12_goes_68, e_X12_goes_69, e_X12_goes_72, e_X12_goes_75, e_X12_goes_76, e_X12_goes_77, e_X12_goes_80, e_X12_goes_81, e_X12_goes_82, e_X12_goes_83, e_X12_goes_86, e_X12_goes_88, e_X12_goes_89, e_X12_goes_90, e_X12_goes_91, e_X12_goes_94, e_X12_goes_95, e_X12_goes_98, e_X12_goes_101, e_X12_goes_104, e_X12_goes_107, g_12_177_11, g_12_180_11, g_12_7_11, p_12_177_11, p_12_180_11, if_neg e9]
theorem m_aheadX (hM : xMB X h S nm A) (hn : n ≤ 7) (hA : A 0 1 = nI n) {x : Int32} (t w : Int32) (hx : x < 0 ∨ ¬ x < nI n) : xR X m_X12_ahead 0 [.ref 169, .int x, .int t, .int w] [] h = some (some (.int cBAD), h) := by
  have q := m_isSpotF hM hn hA hx
  have hc := hM.1
  simp (disch := first | exact xnl_i _ | exact xnl_r _ | exact xnl_u _ | exact xnl_n | exact zI_2 | exact zI_24 | assumption | omega | (simp only [xset_len]; omega)) only [↓reduceIte, xbd_s, xpv_n, xpv_s, e_X12_ahead_0, e_X12_ahead_1, e_X12_ahead_2, c_X12_ahead_167_11_0, c_X12_ahead_183_11_0, e_X12_ahead_5, e_X12_ahead_8, e_X12_ahead_9, e_X12_ahead_10, e_X12_ahead_12, e_X12_ahead_15, e_X12_ahead_18, e_X12_ahead_19, e_X12_ahead_20, e_X12_ahead_21, e_X12_ahead_24, e_X12_ahead_27, e_X12_ahead_29, e_X12_ahead_30, e_X12_ahead_31, e_X12_ahead_32, e_X12_ahead_33, e_X12_ahead_36, e_X12_ahead_37, e_X12_ahead_40, e_X12_ahead_41, e_X12_ahead_44, e_X12_ahead_47, e_X12_ahead_48, e_X12_ahead_51, g_12_177_11, g_12_180_11, hc, q]
theorem in01F {w : Int32} (h0 : ¬ w = 0) (h1 : ¬ w = 1) : w < 0 ∨ 1 < w := by
  have e : w.toInt < 0 ∨ 1 < w.toInt := sw_out (c := 1) (by omega) (by
    intro j hj
    rcases j with _ | _ | j
    · exact h0
    · exact h1
    · omega)
  have b0 : (0 : Int32).toInt = 0 := by decide
  have b1 : (1 : Int32).toInt = 1 := by decide
  rw [xlt_i, xlt_i]
  omega
theorem m_in01 {w : Int32} (hw : w = 0 ∨ w = 1) : xR X m_X12_in 0 [.int w, .int 0, .int 1] [] h = some (some (.int 1), h) := by
  rcases hw with rfl | rfl
  · exact m_inT (by decide) (by decide)
  · exact m_inT (by decide) (by decide)
theorem m_aheadB (hM : xMB X h S nm A) (T : xST (A 0) n m hr) {s : Nat} (hs : s < n) {t w : Int32} (hx : t < 0 ∨ nI 99 < t ∨ (¬ w = 0 ∧ ¬ w = 1)) : xR X m_X12_ahead 0 [.ref 169, .int (nI s), .int t, .int w] [] h = some (some (.int cBAD), h) := by
  have q := m_isSpotT hM T.2.2.1 T.2.1 hs
  have hc := hM.1
  by_cases c1 : t < 0 ∨ nI 99 < t
  · have q2 := fun hh : xH => m_inF (X := X) (h := hh) (x := t) (lo := 0) (hi := nI 99) c1
    simp (disch := first | exact xnl_i _ | exact xnl_r _ | exact xnl_u _ | exact xnl_n | exact zI_2 | exact zI_24 | assumption | omega | (simp only [xset_len]; omega)) only [↓reduceIte, xbd_s, xpv_n, xpv_s, e_X12_ahead_0, e_X12_ahead_1, e_X12_ahead_2, c_X12_ahead_167_11_0, c_X12_ahead_183_11_0, e_X12_ahead_5, e_X12_ahead_8, e_X12_ahead_9, e_X12_ahead_10, e_X12_ahead_12, e_X12_ahead_15, e_X12_ahead_18, e_X12_ahead_19, e_X12_ahead_20, e_X12_ahead_21, e_X12_ahead_24, e_X12_ahead_27, e_X12_ahead_29, e_X12_ahead_30, e_X12_ahead_31, e_X12_ahead_32, e_X12_ahead_33, e_X12_ahead_36, e_X12_ahead_37, e_X12_ahead_40, e_X12_ahead_41, e_X12_ahead_44, e_X12_ahead_47, e_X12_ahead_48, e_X12_ahead_51, g_12_177_11, g_12_180_11, hc, q, z0, q2, ne10]
  · have q2 := fun hh : xH => m_inT (X := X) (h := hh) (x := t) (lo := 0) (hi := nI 99) (fun e => c1 (Or.inl e)) (fun e => c1 (Or.inr e))
    have c2 : ¬ w = 0 ∧ ¬ w = 1 := by
      rcases hx with e | e | e
      · exact absurd (Or.inl e) c1
      · exact absurd (Or.inr e) c1
      · exact e
    have q3 := fun hh : xH => m_inF (X := X) (h := hh) (x := w) (lo := 0) (hi := 1) (in01F c2.1 c2.2)
    simp (disch := first | exact xnl_i _ | exact xnl_r _ | exact xnl_u _ | exact xnl_n | exact zI_2 | exact zI_24 | assumption | omega | (simp only [xset_len]; omega)) only [↓reduceIte, xbd_s, xpv_n, xpv_s, e_X12_ahead_0, e_X12_ahead_1, e_X12_ahead_2, c_X12_ahead_167_11_0, c_X12_ahead_183_11_0, e_X12_ahead_5, e_X12_ahead_8, e_X12_ahead_9, e_X12_ahead_10, e_X12_ahead_12, e_X12_ahead_15, e_X12_ahead_18, e_X12_ahead_19, e_X12_ahead_20, e_X12_ahead_21, e_X12_ahead_24, e_X12_ahead_27, e_X12_ahead_29, e_X12_ahead_30, e_X12_ahead_31, e_X12_ahead_32, e_X12_ahead_33, e_X12_ahead_36, e_X12_ahead_37, e_X12_ahead_40, e_X12_ahead_41, e_X12_ahead_44, e_X12_ahead_47, e_X12_ahead_48, e_X12_ahead_51, g_12_177_11, g_12_180_11, hc, q, z0, z1, q2, q3, ne10]
theorem m_ahead (hM : xMB X h S nm A) (T : xST (A 0) n m hr) {s b t : Nat} (hs : s < n) (hb : A 0 (33 + s) = nI b) (hb7 : b < 7) (ht : t ≤ 99) {w : Int32} (hw : w = 0 ∨ w = 1) : ∃ h' S', xR X m_X12_ahead 0 [.ref 169, .int (nI s), .int (nI t), .int w] [] h = some (some (.int (if w = 0 then goD (A 0) s t else goA (A 0) s b t)), h') ∧ xMB X h' S' nm A ∧ kpt S S' ∧ xFr X inM h h' := by
  have q := m_isSpotT hM T.2.2.1 T.2.1 hs
  have q2 := fun hh : xH => m_inT (X := X) (h := hh) (x := nI t) (lo := 0) (hi := nI 99) (nI_pos (by omega)) (nI_nlt ht (by omega))
  have q3 := fun hh : xH => m_in01 (X := X) (h := hh) hw
  obtain ⟨h', e1, e2, e3⟩ := m_goes hM T hs hb hb7 ht
  refine ⟨h', _, ?_, e2, kpt_2 (by omega) (by omega), e3⟩
  have hc := hM.1
  have hc1 := e2.1
  rw [upd_eq, upd_ne (show 9 ≠ 10 by decide), upd_eq] at hc1
  by_cases c : w = 0
  · simp (disch := first | exact xnl_i _ | exact xnl_r _ | exact xnl_u _ | exact xnl_n | exact zI_2 | exact zI_24 | assumption | omega | (simp only [xset_len]; omega)) only [↓reduceIte, xbd_s, xpv_n, xpv_s, e_X12_ahead_0, e_X12_ahead_1, e_X12_ahead_2, c_X12_ahead_167_11_0, c_X12_ahead_183_11_0, e_X12_ahead_5, e_X12_ahead_8, e_X12_ahead_9, e_X12_ahead_10, e_X12_ahead_12, e_X12_ahead_15, e_X12_ahead_18, e_X12_ahead_19, e_X12_ahead_20, e_X12_ahead_21, e_X12_ahead_24, e_X12_ahead_27, e_X12_ahead_29, e_X12_ahead_30, e_X12_ahead_31, e_X12_ahead_32, e_X12_ahead_33, e_X12_ahead_36, e_X12_ahead_37, e_X12_ahead_40, e_X12_ahead_41, e_X12_ahead_44, e_X12_ahead_47, e_X12_ahead_48, e_X12_ahead_51, g_12_177_11, g_12_180_11, hc, q, z0, z1, q2, q3, ne10, e1, hc1, if_pos c]
  · simp (disch := first | exact xnl_i _ | exact xnl_r _ | exact xnl_u _ | exact xnl_n | exact zI_2 | exact zI_24 | assumption | omega | (simp only [xset_len]; omega)) only [↓reduceIte, xbd_s, xpv_n, xpv_s, e_X12_ahead_0, e_X12_ahead_1, e_X12_ahead_2, c_X12_ahead_167_11_0, c_X12_ahead_183_11_0, e_X12_ahead_5, e_X12_ahead_8, e_X12_ahead_9, e_X12_ahead_10, e_X12_ahead_12, e_X12_ahead_15, e_X12_ahead_18, e_X12_ahead_19, e_X12_ahead_20, e_X12_ahead_21, e_X12_ahead_24, e_X12_ahead_27, e_X12_ahead_29, e_X12_ahead_30, e_X12_ahead_31, e_X12_ahead_32, e_X12_ahead_33, e_X12_ahead_36, e_X12_ahead_37, e_X12_ahead_40, e_X12_ahead_41, e_X12_ahead_44, e_X12_ahead_47, e_X12_ahead_48, e_X12_ahead_51, g_12_177_11, g_12_180_11, hc, q, z0, z1, q2, q3, ne10, e1, hc1, if_neg c]
theorem m_likeB (hM : xMB X h S nm A) (hn : n ≤ 7) (hA : A 0 1 = nI n) {x y : Int32} (hx : (x < 0 ∨ ¬ x < nI n) ∨ (y < 0 ∨ ¬ y < nI n) ∨ x = y) : xR X m_X12_like 0 [.ref 169, .int x, .int y, xU, xU] [] h = some (some (.int cBAD), h) := by
  have hc := hM.1
  by_cases c1 : x < 0 ∨ ¬ x < nI n
  · have q := m_isSpotF hM hn hA c1
    simp (disch := first | exact xnl_i _ | exact xnl_r _ | exact xnl_u _ | exact xnl_n | exact zI_2 | exact zI_24 | assumption | omega | (simp only [xset_len]; omega)) only [↓reduceIte, xbd_s, xpv_n, xpv_s, e_X12_like_0, e_X12_like_1, e_X12_like_2, c_X12_like_167_11_0, c_X12_like_183_11_0, e_X12_like_5, e_X12_like_8, e_X12_like_9, e_X12_like_10, e_X12_like_13, e_X12_like_16, e_X12_like_17, e_X12_like_18, e_X12_like_21, e_X12_like_23, e_X12_like_24, e_X12_like_25, e_X12_like_26, e_X12_like_27, e_X12_like_29, e_X12_like_32, e_X12_like_33, e_X12_like_34, e_X12_like_35, e_X12_like_38, e_X12_like_39, e_X12_like_42, e_X12_like_44, e_X12_like_45, e_X12_like_46, e_X12_like_47, e_X12_like_50, e_X12_like_52, e_X12_like_53, e_X12_like_56, e_X12_like_59, e_X12_like_60, e_X12_like_61, e_X12_like_64, e_X12_like_67, e_X12_like_69, g_12_177_11, hc, q]
  have q : xR X m_X12_isSpot 0 [.ref 169, .int x] [] h = some (some (.int 1), h) := by
    rw [m_isSpot hM hn hA, if_neg (fun e => c1 (Or.inl e)), if_pos (Classical.byContradiction fun e => c1 (Or.inr e))]; rfl
  by_cases c2 : y < 0 ∨ ¬ y < nI n
  · have q1 := m_isSpotF hM hn hA c2
    simp (disch := first | exact xnl_i _ | exact xnl_r _ | exact xnl_u _ | exact xnl_n | exact zI_2 | exact zI_24 | assumption | omega | (simp only [xset_len]; omega)) only [↓reduceIte, xbd_s, xpv_n, xpv_s, e_X12_like_0, e_X12_like_1, e_X12_like_2, c_X12_like_167_11_0, c_X12_like_183_11_0, e_X12_like_5, e_X12_like_8, e_X12_like_9, e_X12_like_10, e_X12_like_13, e_X12_like_16, e_X12_like_17, e_X12_like_18, e_X12_like_21, e_X12_like_23, e_X12_like_24, e_X12_like_25, e_X12_like_26, e_X12_like_27, e_X12_like_29, e_X12_like_32, e_X12_like_33, e_X12_like_34, e_X12_like_35, e_X12_like_38, e_X12_like_39, e_X12_like_42, e_X12_like_44, e_X12_like_45, e_X12_like_46, e_X12_like_47, e_X12_like_50, e_X12_like_52, e_X12_like_53, e_X12_like_56, e_X12_like_59, e_X12_like_60, e_X12_like_61, e_X12_like_64, e_X12_like_67, e_X12_like_69, g_12_177_11, hc, q, q1, ne10]
  have q1 : xR X m_X12_isSpot 0 [.ref 169, .int y] [] h = some (some (.int 1), h) := by
    rw [m_isSpot hM hn hA, if_neg (fun e => c2 (Or.inl e)), if_pos (Classical.byContradiction fun e => c2 (Or.inr e))]; rfl
  have c3 := (hx.resolve_left c1).resolve_left c2
  simp (disch := first | exact xnl_i _ | exact xnl_r _ | exact xnl_u _ | exact xnl_n | exact zI_2 | exact zI_24 | assumption | omega | (simp only [xset_len]; omega)) only [↓reduceIte, xbd_s, xpv_n, xpv_s, e_X12_like_0, e_X12_like_1, e_X12_like_2, c_X12_like_167_11_0, c_X12_like_183_11_0, e_X12_like_5, e_X12_like_8, e_X12_like_9, e_X12_like_10, e_X12_like_13, e_X12_like_16, e_X12_like_17, e_X12_like_18, e_X12_like_21, e_X12_like_23, e_X12_like_24, e_X12_like_25, e_X12_like_26, e_X12_like_27, e_X12_like_29, e_X12_like_32, e_X12_like_33, e_X12_like_34, e_X12_like_35, e_X12_like_38, e_X12_like_39, e_X12_like_42, e_X12_like_44, e_X12_like_45, e_X12_like_46, e_X12_like_47, e_X12_like_50, e_X12_like_52, e_X12_like_53, e_X12_like_56, e_X12_like_59, e_X12_like_60, e_X12_like_61, e_X12_like_64, e_X12_like_67, e_X12_like_69, g_12_177_11, hc, q, q1, ne10, if_pos c3]
theorem m_like (hM : xMB X h S nm A) (T : xST (A 0) n m hr) {s t b c : Nat} (hs : s < n) (ht : t < n) (hst : s ≠ t) (hb : A 0 (33 + s) = nI b) (hb7 : b < 7) (hb' : A 0 (33 + t) = nI c) (hc7 : c < 7) : ∃ h' S', xR X m_X12_like 0 [.ref 169, .int (nI s), .int (nI t), xU, xU] [] h = some (some (.int (lkS (dNx (fun s => A 0 (3 + s)) (fun s => A 0 (10 + s)) (fun s => A 0 (47 + s)) (A 0 25) s) (dNx (fun s => A 0 (3 + s)) (fun s => A 0 (10 + s)) (fun s => A 0 (47 + s)) (A 0 25) t) 100 0 (A 0 (26 + s)) (A 0 (26 + t)))), h') ∧ xMB X h' S' nm A ∧ kpt S S' ∧ xFr X inM h h' := by
  have q := m_isSpotT hM T.2.2.1 T.2.1 hs
  have q1 := m_isSpotT hM T.2.2.1 T.2.1 ht
  have hn := T.2.2.1
  have e0 : ¬ nI s = nI t := by
    rw [xeq_i, nI_toInt (by omega), nI_toInt (by omega)]
    omega
  have L : ∀ e j w S h, e + j = 100 → xnl w = true → xMB X h S nm A → ∃ h' S', xR X m_X12_like 26 [.ref 169, .int (nI s), .int (nI t), .int (nI j), w] [] h = some (some (.int (lkS (dNx (fun s => A 0 (3 + s)) (fun s => A 0 (10 + s)) (fun s => A 0 (47 + s)) (A 0 25) s) (dNx (fun s => A 0 (3 + s)) (fun s => A 0 (10 + s)) (fun s => A 0 (47 + s)) (A 0 25) t) e j (goD (A 0) s j) (goD (A 0) t j))), h') ∧ xMB X h' S' nm A ∧ kpt S S' ∧ xFr X inM h h' := by
    intro e
    induction e with
    | zero =>
      intro j w S h hj hw hM
      have e1 : nI 99 < nI j := nI_lt (by omega) (by omega)
      exact ⟨h, S, by simp (disch := first | exact xnl_i _ | exact xnl_r _ | exact xnl_u _ | exact xnl_n | exact zI_2 | exact zI_24 | assumption | omega | (simp only [xset_len]; omega)) only [↓reduceIte, xbd_s, xpv_n, xpv_s, e_X12_like_0, e_X12_like_1, e_X12_like_2, c_X12_like_167_11_0, c_X12_like_183_11_0, e_X12_like_5, e_X12_like_8, e_X12_like_9, e_X12_like_10, e_X12_like_13, e_X12_like_16, e_X12_like_17, e_X12_like_18, e_X12_like_21, e_X12_like_23, e_X12_like_24, e_X12_like_25, e_X12_like_26, e_X12_like_27, e_X12_like_29, e_X12_like_32, e_X12_like_33, e_X12_like_34, e_X12_like_35, e_X12_like_38, e_X12_like_39, e_X12_like_42, e_X12_like_44, e_X12_like_45, e_X12_like_46, e_X12_like_47, e_X12_like_50, e_X12_like_52, e_X12_like_53, e_X12_like_56, e_X12_like_59, e_X12_like_60, e_X12_like_61, e_X12_like_64, e_X12_like_67, e_X12_like_69, g_12_177_11, if_pos e1, lkS], hM, kpt_rfl, xFr_rfl⟩
    | succ e ih =>
      intro j w S h hj hw hM
      have hc := hM.1
      have e1 : ¬ nI 99 < nI j := nI_nlt (by omega) (by omega)
      obtain ⟨h1, f1, f2, f3⟩ := m_goes hM T hs hb hb7 (c := j) (by omega)
      have hc1 := f2.1
      rw [upd_eq, upd_ne (show 9 ≠ 10 by decide), upd_eq] at hc1
      obtain ⟨h2, g1, g2, g3⟩ := m_goes f2 T ht hb' hc7 (c := j) (by omega)
      have hc2 := g2.1
      rw [upd_eq, upd_ne (show 9 ≠ 10 by decide), upd_eq] at hc2
      by_cases c2 : goD (A 0) s j = goD (A 0) t j
      · refine ⟨h2, _, ?_, g2, kpt_tr (kpt_2 (by omega) (by omega)) (kpt_2 (by omega) (by omega)), xFr_tr f3 g3⟩
        unfold lkS
        rw [if_pos c2, e_X12_like_26]
        simp (disch := first | exact xnl_i _ | exact xnl_r _ | exact xnl_u _ | exact xnl_n | exact zI_2 | exact zI_24 | assumption | omega | (simp only [xset_len]; omega)) only [↓reduceIte, xbd_s, xpv_n, xpv_s, e_X12_like_0, e_X12_like_1, e_X12_like_2, c_X12_like_167_11_0, c_X12_like_183_11_0, e_X12_like_5, e_X12_like_8, e_X12_like_9, e_X12_like_10, e_X12_like_13, e_X12_like_16, e_X12_like_17, e_X12_like_18, e_X12_like_21, e_X12_like_23, e_X12_like_24, e_X12_like_25, e_X12_like_27, e_X12_like_29, e_X12_like_32, e_X12_like_33, e_X12_like_34, e_X12_like_35, e_X12_like_38, e_X12_like_39, e_X12_like_42, e_X12_like_44, e_X12_like_45, e_X12_like_46, e_X12_like_47, e_X12_like_50, e_X12_like_52, e_X12_like_53, e_X12_like_56, e_X12_like_59, e_X12_like_60, e_X12_like_61, e_X12_like_64, e_X12_like_67, e_X12_like_69, g_12_177_11, hc, if_neg e1, f1, hc1, g1, hc2, if_pos c2]
      · obtain ⟨h3, S3, i1, i2, i3, i4⟩ := ih (j + 1) (.int (goD (A 0) s j)) _ h2 (by omega) rfl g2
        refine ⟨h3, S3, ?_, i2, kpt_tr (kpt_tr (kpt_2 (by omega) (by omega)) (kpt_2 (by omega) (by omega))) i3, xFr_tr (xFr_tr f3 g3) i4⟩
        unfold lkS
        rw [if_neg c2, e_X12_like_26]
        simp (disch := first | exact xnl_i _ | exact xnl_r _ | exact xnl_u _ | exact xnl_n | exact zI_2 | exact zI_24 | assumption | omega | (simp only [xset_len]; omega)) only [↓reduceIte, xbd_s, xpv_n, xpv_s, e_X12_like_0, e_X12_like_1, e_X12_like_2, c_X12_like_167_11_0, c_X12_like_183_11_0, e_X12_like_5, e_X12_like_8, e_X12_like_9, e_X12_like_10, e_X12_like_13, e_X12_like_16, e_X12_like_17, e_X12_like_18, e_X12_like_21, e_X12_like_23, e_X12_like_24, e_X12_like_25, e_X12_like_27, e_X12_like_29, e_X12_like_32, e_X12_like_33, e_X12_like_34, e_X12_like_35, e_X12_like_38, e_X12_like_39, e_X12_like_42, e_X12_like_44, e_X12_like_45, e_X12_like_46, e_X12_like_47, e_X12_like_50, e_X12_like_52, e_X12_like_53, e_X12_like_56, e_X12_like_59, e_X12_like_60, e_X12_like_61, e_X12_like_64, e_X12_like_67, e_X12_like_69, g_12_177_11, hc, if_neg e1, f1, hc1, g1, hc2, if_neg c2, nI_inc]
        exact i1
  obtain ⟨h', S', i1, i2, i3, i4⟩ := L 100 0 xU S h rfl rfl hM
  refine ⟨h', S', ?_, i2, i3, i4⟩
  have hc := hM.1
  simp (disch := first | exact xnl_i _ | exact xnl_r _ | exact xnl_u _ | exact xnl_n | exact zI_2 | exact zI_24 | assumption | omega | (simp only [xset_len]; omega)) only [↓reduceIte, xbd_s, xpv_n, xpv_s, e_X12_like_0, e_X12_like_1, e_X12_like_2, c_X12_like_167_11_0, c_X12_like_183_11_0, e_X12_like_5, e_X12_like_8, e_X12_like_9, e_X12_like_10, e_X12_like_13, e_X12_like_16, e_X12_like_17, e_X12_like_18, e_X12_like_21, e_X12_like_23, e_X12_like_24, e_X12_like_25, e_X12_like_27, e_X12_like_29, e_X12_like_32, e_X12_like_33, e_X12_like_34, e_X12_like_35, e_X12_like_38, e_X12_like_39, e_X12_like_42, e_X12_like_44, e_X12_like_45, e_X12_like_46, e_X12_like_47, e_X12_like_50, e_X12_like_52, e_X12_like_53, e_X12_like_56, e_X12_like_59, e_X12_like_60, e_X12_like_61, e_X12_like_64, e_X12_like_67, e_X12_like_69, g_12_177_11, hc, q, q1, ne10, if_neg e0]
  exact i1
end XMG
