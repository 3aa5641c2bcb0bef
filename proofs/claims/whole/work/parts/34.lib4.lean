/-! LIBRARY: what changes it -/
def xFr (X : xS) (A : Nat → Prop) (h h' : xH) : Prop := h'.length = h.length ∧ ∀ c, ¬ A c → xget X h' c = xget X h c
def inL (b : Nat) : Nat → Prop := fun c => b ≤ c ∧ c ≤ b + 4
theorem xFr_rfl {X : xS} {A : Nat → Prop} {h : xH} : xFr X A h h := ⟨rfl, fun _ _ => rfl⟩
theorem xFr_tr {X : xS} {A : Nat → Prop} {h h' h'' : xH} (e : xFr X A h h') (f : xFr X A h' h'') : xFr X A h h'' := ⟨f.1.trans e.1, fun c hc => (f.2 c hc).trans (e.2 c hc)⟩
theorem xFr_mo {X : xS} {A B : Nat → Prop} {h h' : xH} (e : xFr X A h h') (f : ∀ c, A c → B c) : xFr X B h h' := ⟨e.1, fun c hc => e.2 c (fun q => hc (f c q))⟩
theorem xFr_set {X : xS} {A : Nat → Prop} {h : xH} {a : Nat} {e : xE} (h1 : 16 ≤ a) (h2 : A a) : xFr X A h (xset h a e) := ⟨xset_len _ _ _, fun c hc => xg_ne h1 (fun q => hc (q ▸ h2))⟩
theorem x_loopH {α β : Type} {X : xS} {A : Nat → Prop} (H : Nat → α → xH → β) (I : α → xH → Prop) (F : Nat → α → α) (n : Nat) (step : ∀ k, k < n → ∀ y h, I y h → ∃ h', H k y h = H (k + 1) (F k y) h' ∧ I (F k y) h' ∧ xFr X A h h') (y : α) (h : xH) (hI : I y h) : ∃ h', H 0 y h = H n (xfold F n y) h' ∧ I (xfold F n y) h' ∧ xFr X A h h' := by
  have key : ∀ k, k ≤ n → ∃ h', H 0 y h = H k (xfold F k y) h' ∧ I (xfold F k y) h' ∧ xFr X A h h' := by
    intro k
    induction k with
    | zero => exact fun _ => ⟨h, rfl, hI, xFr_rfl⟩
    | succ k ih =>
      intro hk
      obtain ⟨h1, e1, i1, f1⟩ := ih (by omega)
      obtain ⟨h2, e2, i2, f2⟩ := step k (by omega) _ h1 i1
      exact ⟨h2, e1.trans e2, i2, xFr_tr f1 f2⟩
  exact key n (Nat.le_refl n)
section XLM
variable {X : xS} {h h' : xH} {b p n m pl fr to : Nat} {pv : Value} {hr : Int32} {d k a o : Nat → Int32} {g : Nat → Option Nat} {u v so dr : Nat → Int32} {A Z : Nat → Prop}
def xZB (Z : Nat → Prop) (p n pl fr to : Nat) (g : Nat → Option Nat) : Prop := Z p ∧ Z pl ∧ Z fr ∧ Z to ∧ ∀ s, s < n → ∀ q, g s = some q → Z q
theorem xPB_fr (hP : xPB X h p n m pl fr to g u v) (hZ : xZB Z p n pl fr to g) (hF : xFr X A h h') (hA : ∀ c, Z c → ¬ A c) : xPB X h' p n m pl fr to g u v := by
  obtain ⟨p0, p1, p2, p3, p4, p5⟩ := hP
  obtain ⟨z0, z1, z2, z3, z4⟩ := hZ
  exact ⟨(hF.2 _ (hA _ z0)).trans p0, (hF.2 _ (hA _ z1)).trans p1, (hF.2 _ (hA _ z2)).trans p2, (hF.2 _ (hA _ z3)).trans p3, p4, p5⟩
theorem xGB_fr (hG : xGB X h n g so dr) (hZ : xZB Z p n pl fr to g) (hF : xFr X A h h') (hA : ∀ c, Z c → ¬ A c) : xGB X h' n g so dr := by
  intro s hs
  obtain ⟨q, ci, g1, g2, g3⟩ := hG s hs
  exact ⟨q, ci, g1, (hF.2 _ (hA _ (hZ.2.2.2.2 s hs q g1))).trans g2, g3⟩
theorem xLB_fr (hL : xLB X h b pv hr d k a o) (hF : xFr X A h h') (hA : ∀ c, inL b c → ¬ A c) : xLB X h' b pv hr d k a o := by
  obtain ⟨l0, l1, l2, l3, l4, l5⟩ := hL
  exact ⟨(hF.2 _ (hA b ⟨by omega, by omega⟩)).trans l0, (hF.2 _ (hA (b + 1) ⟨by omega, by omega⟩)).trans l1, (hF.2 _ (hA (b + 2) ⟨by omega, by omega⟩)).trans l2, (hF.2 _ (hA (b + 3) ⟨by omega, by omega⟩)).trans l3, (hF.2 _ (hA (b + 4) ⟨by omega, by omega⟩)).trans l4, l5⟩
theorem xLB_lv (hL : xLB X h b pv hr d k a o) : b + 4 < h.length + 16 := by
  obtain ⟨l0, l1, l2, l3, l4, l5⟩ := hL
  exact xg_live (by omega) l4
theorem xLB_d {d' : Nat → Int32} (hL : xLB X h b pv hr d k a o) : xLB X (xset h (b + 1) (.inr ((0, 7), .inl d'))) b pv hr d' k a o := by
  have lv := xLB_lv hL
  obtain ⟨l0, l1, l2, l3, l4, l5⟩ := hL
  exact ⟨(xg_ne (by omega) (by omega)).trans l0, xg_same (by omega) (by omega), (xg_ne (by omega) (by omega)).trans l2, (xg_ne (by omega) (by omega)).trans l3, (xg_ne (by omega) (by omega)).trans l4, l5⟩
theorem xLB_k {k' : Nat → Int32} (hL : xLB X h b pv hr d k a o) : xLB X (xset h (b + 2) (.inr ((0, 7), .inl k'))) b pv hr d k' a o := by
  have lv := xLB_lv hL
  obtain ⟨l0, l1, l2, l3, l4, l5⟩ := hL
  exact ⟨(xg_ne (by omega) (by omega)).trans l0, (xg_ne (by omega) (by omega)).trans l1, xg_same (by omega) (by omega), (xg_ne (by omega) (by omega)).trans l3, (xg_ne (by omega) (by omega)).trans l4, l5⟩
theorem xLB_a {a' : Nat → Int32} (hL : xLB X h b pv hr d k a o) : xLB X (xset h (b + 3) (.inr ((0, 7), .inl a'))) b pv hr d k a' o := by
  have lv := xLB_lv hL
  obtain ⟨l0, l1, l2, l3, l4, l5⟩ := hL
  exact ⟨(xg_ne (by omega) (by omega)).trans l0, (xg_ne (by omega) (by omega)).trans l1, (xg_ne (by omega) (by omega)).trans l2, xg_same (by omega) (by omega), (xg_ne (by omega) (by omega)).trans l4, l5⟩
theorem xLB_o {o' : Nat → Int32} (hL : xLB X h b pv hr d k a o) : xLB X (xset h (b + 4) (.inr ((0, 7), .inl o'))) b pv hr d k a o' := by
  have lv := xLB_lv hL
  obtain ⟨l0, l1, l2, l3, l4, l5⟩ := hL
  exact ⟨(xg_ne (by omega) (by omega)).trans l0, (xg_ne (by omega) (by omega)).trans l1, (xg_ne (by omega) (by omega)).trans l2, (xg_ne (by omega) (by omega)).trans l3, xg_same (by omega) (by omega), l5⟩
theorem xLB_p {pv' : Value} {hr' : Int32} (hL : xLB X h b pv hr d k a o) : xLB X (xset h b (.inl (3, [pv', .int hr', .ref (b + 1), .ref (b + 2), .ref (b + 3), .ref (b + 4)]))) b pv' hr' d k a o := by
  have lv := xLB_lv hL
  obtain ⟨l0, l1, l2, l3, l4, l5⟩ := hL
  exact ⟨xg_same (by omega) (by omega), (xg_ne (by omega) (by omega)).trans l1, (xg_ne (by omega) (by omega)).trans l2, (xg_ne (by omega) (by omega)).trans l3, (xg_ne (by omega) (by omega)).trans l4, l5⟩
theorem r_wipe (hL : xLB X h b pv hr d k a o) {s : Nat} (hs : s < 7) : xR X m_X3_wipe 0 [.ref b, .int (nI s), xU] [] h = some (some (.int (d s)), xset h (b + 1) (.inr ((0, 7), .inl (upd d s (nI 0))))) := by
  obtain ⟨l0, l1, l2, l3, l4, l5⟩ := hL
  simp (disch := first | exact xnl_i _ | exact xnl_r _ | exact xnl_u _ | exact xnl_n | exact zI_2 | exact zI_24 | assumption | omega | (simp only [xset_len]; omega)) only [xbd_s, xpv_n, xpv_s, e_X3_wipe_0, e_X3_wipe_1, e_X3_wipe_4, e_X3_wipe_5, e_X3_wipe_6, e_X3_wipe_7, e_X3_wipe_8, e_X3_wipe_11, e_X3_wipe_12, e_X3_wipe_13, e_X3_wipe_14, e_X3_wipe_15, g_3_9_3, l0, l1, xl_i, xs_i]
theorem r_swap (hL : xLB X h b pv hr d k a o) {s t : Nat} (hs : s < 7) (ht : t < 7) : ∃ h', xR X m_X3_swap 0 [.ref b, .int (nI s), .int (nI t), xU, xU] [] h = some (none, h') ∧ xLB X h' b pv hr (upd (upd d s (nI 0)) t (nI 0)) (upd (upd k s (k t)) t (k s)) (upd (upd a s (a t)) t (a s)) o ∧ xFr X (inL b) h h' := by
  have lv := xLB_lv hL
  have i6 : xLB X (xset (xset (xset (xset (xset (xset h (b + 2) (.inr ((0, 7), .inl (upd k s (k t))))) (b + 3) (.inr ((0, 7), .inl (upd a s (a t))))) (b + 2) (.inr ((0, 7), .inl (upd (upd k s (k t)) t (k s))))) (b + 3) (.inr ((0, 7), .inl (upd (upd a s (a t)) t (a s))))) (b + 1) (.inr ((0, 7), .inl (upd d s (nI 0))))) (b + 1) (.inr ((0, 7), .inl (upd (upd d s (nI 0)) t (nI 0))))) b pv hr (upd (upd d s (nI 0)) t (nI 0)) (upd (upd k s (k t)) t (k s)) (upd (upd a s (a t)) t (a s)) o := xLB_d (xLB_d (xLB_a (xLB_k (xLB_a (xLB_k hL)))))
  obtain ⟨l0, l1, l2, l3, l4, l5⟩ := hL
  refine ⟨_, ?_, i6, ?_⟩
  · simp (disch := first | exact xnl_i _ | exact xnl_r _ | exact xnl_u _ | exact xnl_n | exact zI_2 | exact zI_24 | assumption | omega | (simp only [xset_len]; omega)) only [xbd_s, xpv_n, xpv_s, e_X3_swap_0, e_X3_swap_1, e_X3_swap_4, e_X3_swap_5, e_X3_swap_6, e_X3_swap_7, e_X3_swap_8, e_X3_swap_11, e_X3_swap_12, e_X3_swap_13, e_X3_swap_15, e_X3_swap_16, e_X3_swap_19, e_X3_swap_20, e_X3_swap_21, e_X3_swap_24, e_X3_swap_25, e_X3_swap_26, e_X3_swap_27, e_X3_swap_28, e_X3_swap_31, e_X3_swap_32, e_X3_swap_33, e_X3_swap_36, e_X3_swap_37, e_X3_swap_38, e_X3_swap_39, e_X3_swap_40, e_X3_swap_43, e_X3_swap_44, e_X3_swap_45, e_X3_swap_46, e_X3_swap_47, e_X3_swap_50, e_X3_swap_51, e_X3_swap_53, e_X3_swap_54, e_X3_swap_55, e_X3_swap_56, c_X3_swap_75_3_0, e_X3_swap_59, e_X3_swap_60, e_X3_swap_61, e_X3_swap_62, e_X3_swap_65, e_X3_swap_66, g_3_15_3, g_3_18_3, e_X3_wipe_0, e_X3_wipe_1, e_X3_wipe_4, e_X3_wipe_5, e_X3_wipe_6, e_X3_wipe_7, e_X3_wipe_8, e_X3_wipe_11, e_X3_wipe_12, e_X3_wipe_13, e_X3_wipe_14, e_X3_wipe_15, g_3_9_3, l0, l1, l2, l3, xl_i, xs_i, xg_ne, xg_same]
  · exact xFr_tr (xFr_tr (xFr_tr (xFr_tr (xFr_tr (xFr_set (by omega) ⟨by omega, by omega⟩) (xFr_set (by omega) ⟨by omega, by omega⟩)) (xFr_set (by omega) ⟨by omega, by omega⟩)) (xFr_set (by omega) ⟨by omega, by omega⟩)) (xFr_set (by omega) ⟨by omega, by omega⟩)) (xFr_set (by omega) ⟨by omega, by omega⟩)
/-- one HOUR, at one spot -/
def hrF (so dr : Nat → Int32) (hr : Int32) (s : Nat) (y : (Nat → Int32) × (Nat → Int32) × (Nat → Int32)) : (Nat → Int32) × (Nat → Int32) × (Nat → Int32) := (upd y.1 s (dNx so dr y.2.2 hr s (y.1 s) (nI 0)), upd y.2.1 s (fNx so y.2.2 hr s (y.2.1 s) (nI 0)), upd y.2.2 s (if y.2.2 s - nI 1 < nI 0 then nI 0 else y.2.2 s - nI 1))
theorem r_passHour (hL : xLB X h b (.ref p) hr d k a o) (hP : xPB X h p n m pl fr to g u v) (hG : xGB X h n g so dr) (hZ : xZB Z p n pl fr to g) (hA : ∀ c, Z c → ¬ inL b c) : ∃ h', xR X m_X3_passHour 0 [.ref b, xU] [] h = some (none, h') ∧ xLB X h' b (.ref p) (hr + nI 1) (xfold (hrF so dr hr) n (d, a, o)).1 k (xfold (hrF so dr hr) n (d, a, o)).2.1 (xfold (hrF so dr hr) n (d, a, o)).2.2 ∧ xFr X (inL b) h h' := by
  have hn := hP.2.2.2.2.1
  have h5 := hL.2.2.2.2.2
  obtain ⟨h1, e1, i1, f1⟩ := x_loopH (X := X) (A := inL b) (fun j (y : (Nat → Int32) × (Nat → Int32) × (Nat → Int32)) h => xR X m_X3_passHour 2 [.ref b, .int (nI j)] [] h) (fun y h => xLB X h b (.ref p) hr y.1 k y.2.1 y.2.2 ∧ xPB X h p n m pl fr to g u v ∧ xGB X h n g so dr) (hrF so dr hr) n (by
    intro j hj y h ⟨hL, hP, hG⟩
    obtain ⟨d, a, o⟩ := y
    have f1 : xFr X (inL b) h _ := xFr_set (a := b + 1) (e := .inr ((0, 7), .inl (upd d j (dNx so dr o hr j (d j) (nI 0))))) (by omega) ⟨by omega, by omega⟩
    have f2 : xFr X (inL b) h _ := xFr_tr f1 (xFr_set (a := b + 3) (e := .inr ((0, 7), .inl (upd a j (fNx so o hr j (a j) (nI 0))))) (by omega) ⟨by omega, by omega⟩)
    have f3 : xFr X (inL b) h _ := xFr_tr f2 (xFr_set (a := b + 4) (e := .inr ((0, 7), .inl (upd o j (if o j - nI 1 < nI 0 then nI 0 else o j - nI 1)))) (by omega) ⟨by omega, by omega⟩)
    refine ⟨_, ?_, ⟨xLB_o (xLB_a (xLB_d hL)), xPB_fr hP hZ f3 hA, xGB_fr hG hZ f3 hA⟩, f3⟩
    have e1 : nI j < nI n := nI_lt hj (by omega)
    have q1 := r_spots hL hP
    have q2 := r_dustNext hL hP hG hj (d j) (nI 0)
    have q3 := r_fadedNext (xLB_d (d' := upd d j (dNx so dr o hr j (d j) (nI 0))) hL) (xPB_fr hP hZ f1 hA) (xGB_fr hG hZ f1 hA) hj (a j) (nI 0)
    have lv := xLB_lv hL
    obtain ⟨l0, l1, l2, l3, l4, l5⟩ := hL
    dsimp only at l1 l3 l4 q2 q3
    rw [e_X3_passHour_2]
    simp (disch := first | exact xnl_i _ | exact xnl_r _ | exact xnl_u _ | exact xnl_n | exact zI_2 | exact zI_24 | assumption | omega | (simp only [xset_len]; omega)) only [xbd_s, xpv_n, xpv_s, e_X3_passHour_0, e_X3_passHour_1, e_X3_passHour_3, e_X3_passHour_4, c_X3_passHour_46_3_1, c_X3_passHour_62_3_2, c_X3_passHour_66_3_2, e_X3_passHour_7, e_X3_passHour_10, e_X3_passHour_11, e_X3_passHour_14, e_X3_passHour_15, e_X3_passHour_16, e_X3_passHour_17, e_X3_passHour_18, e_X3_passHour_21, e_X3_passHour_22, e_X3_passHour_23, e_X3_passHour_24, e_X3_passHour_27, e_X3_passHour_28, e_X3_passHour_29, e_X3_passHour_32, e_X3_passHour_33, e_X3_passHour_34, e_X3_passHour_35, e_X3_passHour_36, e_X3_passHour_39, e_X3_passHour_40, e_X3_passHour_41, e_X3_passHour_42, e_X3_passHour_45, e_X3_passHour_46, e_X3_passHour_47, e_X3_passHour_50, e_X3_passHour_51, e_X3_passHour_52, e_X3_passHour_55, e_X3_passHour_56, e_X3_passHour_57, e_X3_passHour_58, e_X3_passHour_59, e_X3_passHour_60, e_X3_passHour_63, e_X3_passHour_64, e_X3_passHour_67, e_X3_passHour_70, e_X3_passHour_71, e_X3_passHour_72, e_X3_passHour_75, e_X3_passHour_76, e_X3_passHour_77, e_X3_passHour_80, g_3_18_3, g_3_21_3, g_3_28_3, g_3_9_3, p_3_28_3, l0, l1, l3, l4, q1, q2, q3, e1, if_true, xl_i, xs_i, xg_ne, xg_same, nI_inc]
    rfl) (d, a, o) h ⟨hL, hP, hG⟩
  obtain ⟨hL, hP, hG⟩ := i1
  have e2 : ¬ nI n < nI n := nI_nlt (Nat.le_refl n) (by omega)
  have q1 := r_spots hL hP
  refine ⟨_, ?_, xLB_p hL, xFr_tr f1 (xFr_set h5 ⟨by omega, by omega⟩)⟩
  have l0 := hL.1
  simp (disch := first | exact xnl_i _ | exact xnl_r _ | exact xnl_u _ | exact xnl_n | exact zI_2 | exact zI_24 | assumption | omega | (simp only [xset_len]; omega)) only [xbd_s, xpv_n, xpv_s, e_X3_passHour_0, e_X3_passHour_1, e_X3_passHour_3, e_X3_passHour_4, c_X3_passHour_46_3_1, c_X3_passHour_62_3_2, c_X3_passHour_66_3_2, e_X3_passHour_7, e_X3_passHour_10, e_X3_passHour_11, e_X3_passHour_14, e_X3_passHour_15, e_X3_passHour_16, e_X3_passHour_17, e_X3_passHour_18, e_X3_passHour_21, e_X3_passHour_22, e_X3_passHour_23, e_X3_passHour_24, e_X3_passHour_27, e_X3_passHour_28, e_X3_passHour_29, e_X3_passHour_32, e_X3_passHour_33, e_X3_passHour_34, e_X3_passHour_35, e_X3_passHour_36, e_X3_passHour_39, e_X3_passHour_40, e_X3_passHour_41, e_X3_passHour_42, e_X3_passHour_45, e_X3_passHour_46, e_X3_passHour_47, e_X3_passHour_50, e_X3_passHour_51, e_X3_passHour_52, e_X3_passHour_55, e_X3_passHour_56, e_X3_passHour_57, e_X3_passHour_58, e_X3_passHour_59, e_X3_passHour_60, e_X3_passHour_63, e_X3_passHour_64, e_X3_passHour_67, e_X3_passHour_70, e_X3_passHour_71, e_X3_passHour_72, e_X3_passHour_75, e_X3_passHour_76, e_X3_passHour_77, e_X3_passHour_80, g_3_18_3, g_3_21_3, g_3_28_3, g_3_9_3, p_3_28_3]
  refine e1.trans ?_
  simp (disch := first | exact xnl_i _ | exact xnl_r _ | exact xnl_u _ | exact xnl_n | exact zI_2 | exact zI_24 | assumption | omega | (simp only [xset_len]; omega)) only [xbd_s, xpv_n, xpv_s, e_X3_passHour_0, e_X3_passHour_1, e_X3_passHour_2, e_X3_passHour_3, e_X3_passHour_4, c_X3_passHour_46_3_1, c_X3_passHour_62_3_2, c_X3_passHour_66_3_2, e_X3_passHour_7, e_X3_passHour_10, e_X3_passHour_11, e_X3_passHour_14, e_X3_passHour_15, e_X3_passHour_16, e_X3_passHour_17, e_X3_passHour_18, e_X3_passHour_21, e_X3_passHour_22, e_X3_passHour_23, e_X3_passHour_24, e_X3_passHour_27, e_X3_passHour_28, e_X3_passHour_29, e_X3_passHour_32, e_X3_passHour_33, e_X3_passHour_34, e_X3_passHour_35, e_X3_passHour_36, e_X3_passHour_39, e_X3_passHour_40, e_X3_passHour_41, e_X3_passHour_42, e_X3_passHour_45, e_X3_passHour_46, e_X3_passHour_47, e_X3_passHour_50, e_X3_passHour_51, e_X3_passHour_52, e_X3_passHour_55, e_X3_passHour_56, e_X3_passHour_57, e_X3_passHour_58, e_X3_passHour_59, e_X3_passHour_60, e_X3_passHour_63, e_X3_passHour_64, e_X3_passHour_67, e_X3_passHour_70, e_X3_passHour_71, e_X3_passHour_72, e_X3_passHour_75, e_X3_passHour_76, e_X3_passHour_77, e_X3_passHour_80, g_3_18_3, g_3_21_3, g_3_28_3, g_3_9_3, p_3_28_3, l0, q1, e2, if_false]
theorem cpy_lt {f e : Nat → Int32} {j : Nat} (hj : j < 7) : xcpy f e (nI 0).toNatClampNeg (nI 0).toNatClampNeg (nI 7).toNatClampNeg j = f j := by
  show (if 0 ≤ j ∧ j < 0 + 7 then f (0 + (j - 0)) else e j) = f j
  rw [if_pos (by omega)]
  congr 1
  omega
theorem r_become {c : Nat} {pv' : Value} {hr' : Int32} {d' k' a' o' : Nat → Int32} (hpv : pv' = .null ∨ ∃ p, pv' = .ref p) (hL : xLB X h b pv hr d k a o) (hC : xLB X h c pv' hr' d' k' a' o') (hbc : b + 4 < c ∨ c + 4 < b) : ∃ h' d2 k2 a2 o2, xR X m_X3_become 0 [.ref b, .ref c] [] h = some (none, h') ∧ xLB X h' b pv' hr' d2 k2 a2 o2 ∧ (∀ j, j < 7 → d2 j = d' j ∧ k2 j = k' j ∧ a2 j = a' j ∧ o2 j = o' j) ∧ xFr X (inL b) h h' := by
  have h5 := hL.2.2.2.2.2
  have hA : ∀ q, inL c q → ¬ inL b q := by unfold inL; omega
  have L1 := xLB_p (pv' := pv') (hr' := hr) hL
  have f1 : xFr X (inL b) h _ := xFr_set (a := b) (e := .inl (3, [pv', .int hr, .ref (b + 1), .ref (b + 2), .ref (b + 3), .ref (b + 4)])) (by omega) ⟨by omega, by omega⟩
  have C1 := xLB_fr hC f1 hA
  have s1 : xR X m_X3_become 0 [.ref b, .ref c] [] h = xR X m_X3_become 8 [.ref b, .ref c] [] (xset h b (.inl (3, [pv', .int hr, .ref (b + 1), .ref (b + 2), .ref (b + 3), .ref (b + 4)]))) := by
    have l0 := hL.1
    have c0 := hC.1
    rcases hpv with rfl | ⟨p, rfl⟩
    · simp (disch := first | exact xnl_i _ | exact xnl_r _ | exact xnl_u _ | exact xnl_n | exact zI_2 | exact zI_24 | assumption | omega | (simp only [xset_len]; omega)) only [xbd_s, xpv_n, xpv_s, e_X3_become_0, e_X3_become_0n, e_X3_become_1, e_X3_become_1n, e_X3_become_2, e_X3_become_5, e_X3_become_9, e_X3_become_9n, e_X3_become_10, e_X3_become_13, e_X3_become_16, e_X3_become_16n, e_X3_become_17, e_X3_become_20, e_X3_become_21, e_X3_become_21n, e_X3_become_22, e_X3_become_25, e_X3_become_26, e_X3_become_31, e_X3_become_31n, e_X3_become_32, e_X3_become_35, e_X3_become_36, e_X3_become_36n, e_X3_become_37, e_X3_become_40, e_X3_become_41, e_X3_become_46, e_X3_become_46n, e_X3_become_47, e_X3_become_50, e_X3_become_51, e_X3_become_51n, e_X3_become_52, e_X3_become_55, e_X3_become_56, e_X3_become_61, e_X3_become_61n, e_X3_become_62, e_X3_become_65, e_X3_become_66, e_X3_become_66n, e_X3_become_67, e_X3_become_70, e_X3_become_71, e_X3_become_76, g_3_15_3, g_3_18_3, g_3_21_3, g_3_24_3, g_3_28_3, g_3_9_3, p_3_24_3, p_3_24_3n, p_3_28_3, l0, c0]
    · simp (disch := first | exact xnl_i _ | exact xnl_r _ | exact xnl_u _ | exact xnl_n | exact zI_2 | exact zI_24 | assumption | omega | (simp only [xset_len]; omega)) only [xbd_s, xpv_n, xpv_s, e_X3_become_0, e_X3_become_0n, e_X3_become_1, e_X3_become_1n, e_X3_become_2, e_X3_become_5, e_X3_become_9, e_X3_become_9n, e_X3_become_10, e_X3_become_13, e_X3_become_16, e_X3_become_16n, e_X3_become_17, e_X3_become_20, e_X3_become_21, e_X3_become_21n, e_X3_become_22, e_X3_become_25, e_X3_become_26, e_X3_become_31, e_X3_become_31n, e_X3_become_32, e_X3_become_35, e_X3_become_36, e_X3_become_36n, e_X3_become_37, e_X3_become_40, e_X3_become_41, e_X3_become_46, e_X3_become_46n, e_X3_become_47, e_X3_become_50, e_X3_become_51, e_X3_become_51n, e_X3_become_52, e_X3_become_55, e_X3_become_56, e_X3_become_61, e_X3_become_61n, e_X3_become_62, e_X3_become_65, e_X3_become_66, e_X3_become_66n, e_X3_become_67, e_X3_become_70, e_X3_become_71, e_X3_become_76, g_3_15_3, g_3_18_3, g_3_21_3, g_3_24_3, g_3_28_3, g_3_9_3, p_3_24_3, p_3_24_3n, p_3_28_3, l0, c0]
  rw [s1]
  generalize xset h b (.inl (3, [pv', .int hr, .ref (b + 1), .ref (b + 2), .ref (b + 3), .ref (b + 4)])) = h1 at L1 f1 C1 ⊢
  have L2 := xLB_p (pv' := pv') (hr' := hr') L1
  have f2 := xFr_tr f1 (xFr_set (a := b) (e := .inl (3, [pv', .int hr', .ref (b + 1), .ref (b + 2), .ref (b + 3), .ref (b + 4)])) (by omega) ⟨by omega, by omega⟩)
  have C2 := xLB_fr hC f2 hA
  have s2 : xR X m_X3_become 8 [.ref b, .ref c] [] h1 = xR X m_X3_become 16 [.ref b, .ref c] [] (xset h1 b (.inl (3, [pv', .int hr', .ref (b + 1), .ref (b + 2), .ref (b + 3), .ref (b + 4)]))) := by
    have l0 := L1.1
    have c0 := C1.1
    simp (disch := first | exact xnl_i _ | exact xnl_r _ | exact xnl_u _ | exact xnl_n | exact zI_2 | exact zI_24 | assumption | omega | (simp only [xset_len]; omega)) only [xbd_s, xpv_n, xpv_s, e_X3_become_0, e_X3_become_0n, e_X3_become_1, e_X3_become_1n, e_X3_become_2, e_X3_become_5, e_X3_become_8, e_X3_become_8n, e_X3_become_9, e_X3_become_9n, e_X3_become_10, e_X3_become_13, e_X3_become_17, e_X3_become_20, e_X3_become_21, e_X3_become_21n, e_X3_become_22, e_X3_become_25, e_X3_become_26, e_X3_become_31, e_X3_become_31n, e_X3_become_32, e_X3_become_35, e_X3_become_36, e_X3_become_36n, e_X3_become_37, e_X3_become_40, e_X3_become_41, e_X3_become_46, e_X3_become_46n, e_X3_become_47, e_X3_become_50, e_X3_become_51, e_X3_become_51n, e_X3_become_52, e_X3_become_55, e_X3_become_56, e_X3_become_61, e_X3_become_61n, e_X3_become_62, e_X3_become_65, e_X3_become_66, e_X3_become_66n, e_X3_become_67, e_X3_become_70, e_X3_become_71, e_X3_become_76, g_3_15_3, g_3_18_3, g_3_21_3, g_3_24_3, g_3_28_3, g_3_9_3, p_3_24_3, p_3_24_3n, p_3_28_3, l0, c0]
  rw [s2]
  generalize xset h1 b (.inl (3, [pv', .int hr', .ref (b + 1), .ref (b + 2), .ref (b + 3), .ref (b + 4)])) = h2 at L2 f2 C2 ⊢
  have hc5 : 16 ≤ c := hC.2.2.2.2.2
  have L3 := xLB_d (d' := xcpy d' d (nI 0).toNatClampNeg (nI 0).toNatClampNeg (nI 7).toNatClampNeg) L2
  have f3 := xFr_tr f2 (xFr_set (a := b + 1) (e := .inr ((0, 7), .inl (xcpy d' d (nI 0).toNatClampNeg (nI 0).toNatClampNeg (nI 7).toNatClampNeg))) (by omega) ⟨by omega, by omega⟩)
  have C3 := xLB_fr hC f3 hA
  have s3 : xR X m_X3_become 16 [.ref b, .ref c] [] h2 = xR X m_X3_become 31 [.ref b, .ref c] [] (xset h2 (b + 1) (.inr ((0, 7), .inl (xcpy d' d (nI 0).toNatClampNeg (nI 0).toNatClampNeg (nI 7).toNatClampNeg)))) := by
    have l0 := L2.1
    have c0 := C2.1
    simp (disch := first | exact xnl_i _ | exact xnl_r _ | exact xnl_u _ | exact xnl_n | exact zI_2 | exact zI_24 | assumption | omega | (simp only [xset_len]; omega)) only [xbd_s, xpv_n, xpv_s, e_X3_become_0, e_X3_become_0n, e_X3_become_1, e_X3_become_1n, e_X3_become_2, e_X3_become_5, e_X3_become_8, e_X3_become_8n, e_X3_become_9, e_X3_become_9n, e_X3_become_10, e_X3_become_13, e_X3_become_16, e_X3_become_16n, e_X3_become_17, e_X3_become_20, e_X3_become_21, e_X3_become_21n, e_X3_become_22, e_X3_become_25, e_X3_become_26, e_X3_become_32, e_X3_become_35, e_X3_become_36, e_X3_become_36n, e_X3_become_37, e_X3_become_40, e_X3_become_41, e_X3_become_46, e_X3_become_46n, e_X3_become_47, e_X3_become_50, e_X3_become_51, e_X3_become_51n, e_X3_become_52, e_X3_become_55, e_X3_become_56, e_X3_become_61, e_X3_become_61n, e_X3_become_62, e_X3_become_65, e_X3_become_66, e_X3_become_66n, e_X3_become_67, e_X3_become_70, e_X3_become_71, e_X3_become_76, g_3_15_3, g_3_18_3, g_3_21_3, g_3_24_3, g_3_28_3, g_3_9_3, p_3_24_3, p_3_24_3n, p_3_28_3, l0, c0]
    exact q_cpy dX3_become_28 rfl (by decide) C2.2.1 L2.2.1 ⟨by omega, by omega, by decide, by decide, by decide, by decide, by decide, by decide⟩
  rw [s3]
  generalize xset h2 (b + 1) (.inr ((0, 7), .inl (xcpy d' d (nI 0).toNatClampNeg (nI 0).toNatClampNeg (nI 7).toNatClampNeg))) = h3 at L3 f3 C3 ⊢
  have L4 := xLB_k (k' := xcpy k' k (nI 0).toNatClampNeg (nI 0).toNatClampNeg (nI 7).toNatClampNeg) L3
  have f4 := xFr_tr f3 (xFr_set (a := b + 2) (e := .inr ((0, 7), .inl (xcpy k' k (nI 0).toNatClampNeg (nI 0).toNatClampNeg (nI 7).toNatClampNeg))) (by omega) ⟨by omega, by omega⟩)
  have C4 := xLB_fr hC f4 hA
  have s4 : xR X m_X3_become 31 [.ref b, .ref c] [] h3 = xR X m_X3_become 46 [.ref b, .ref c] [] (xset h3 (b + 2) (.inr ((0, 7), .inl (xcpy k' k (nI 0).toNatClampNeg (nI 0).toNatClampNeg (nI 7).toNatClampNeg)))) := by
    have l0 := L3.1
    have c0 := C3.1
    simp (disch := first | exact xnl_i _ | exact xnl_r _ | exact xnl_u _ | exact xnl_n | exact zI_2 | exact zI_24 | assumption | omega | (simp only [xset_len]; omega)) only [xbd_s, xpv_n, xpv_s, e_X3_become_0, e_X3_become_0n, e_X3_become_1, e_X3_become_1n, e_X3_become_2, e_X3_become_5, e_X3_become_8, e_X3_become_8n, e_X3_become_9, e_X3_become_9n, e_X3_become_10, e_X3_become_13, e_X3_become_16, e_X3_become_16n, e_X3_become_17, e_X3_become_20, e_X3_become_21, e_X3_become_21n, e_X3_become_22, e_X3_become_25, e_X3_become_26, e_X3_become_31, e_X3_become_31n, e_X3_become_32, e_X3_become_35, e_X3_become_36, e_X3_become_36n, e_X3_become_37, e_X3_become_40, e_X3_become_41, e_X3_become_47, e_X3_become_50, e_X3_become_51, e_X3_become_51n, e_X3_become_52, e_X3_become_55, e_X3_become_56, e_X3_become_61, e_X3_become_61n, e_X3_become_62, e_X3_become_65, e_X3_become_66, e_X3_become_66n, e_X3_become_67, e_X3_become_70, e_X3_become_71, e_X3_become_76, g_3_15_3, g_3_18_3, g_3_21_3, g_3_24_3, g_3_28_3, g_3_9_3, p_3_24_3, p_3_24_3n, p_3_28_3, l0, c0]
    exact q_cpy dX3_become_43 rfl (by decide) C3.2.2.1 L3.2.2.1 ⟨by omega, by omega, by decide, by decide, by decide, by decide, by decide, by decide⟩
  rw [s4]
  generalize xset h3 (b + 2) (.inr ((0, 7), .inl (xcpy k' k (nI 0).toNatClampNeg (nI 0).toNatClampNeg (nI 7).toNatClampNeg))) = h4 at L4 f4 C4 ⊢
  have L5 := xLB_a (a' := xcpy a' a (nI 0).toNatClampNeg (nI 0).toNatClampNeg (nI 7).toNatClampNeg) L4
  have f5 := xFr_tr f4 (xFr_set (a := b + 3) (e := .inr ((0, 7), .inl (xcpy a' a (nI 0).toNatClampNeg (nI 0).toNatClampNeg (nI 7).toNatClampNeg))) (by omega) ⟨by omega, by omega⟩)
  have C5 := xLB_fr hC f5 hA
  have s5 : xR X m_X3_become 46 [.ref b, .ref c] [] h4 = xR X m_X3_become 61 [.ref b, .ref c] [] (xset h4 (b + 3) (.inr ((0, 7), .inl (xcpy a' a (nI 0).toNatClampNeg (nI 0).toNatClampNeg (nI 7).toNatClampNeg)))) := by
    have l0 := L4.1
    have c0 := C4.1
    simp (disch := first | exact xnl_i _ | exact xnl_r _ | exact xnl_u _ | exact xnl_n | exact zI_2 | exact zI_24 | assumption | omega | (simp only [xset_len]; omega)) only [xbd_s, xpv_n, xpv_s, e_X3_become_0, e_X3_become_0n, e_X3_become_1, e_X3_become_1n, e_X3_become_2, e_X3_become_5, e_X3_become_8, e_X3_become_8n, e_X3_become_9, e_X3_become_9n, e_X3_become_10, e_X3_become_13, e_X3_become_16, e_X3_become_16n, e_X3_become_17, e_X3_become_20, e_X3_become_21, e_X3_become_21n, e_X3_become_22, e_X3_become_25, e_X3_become_26, e_X3_become_31, e_X3_become_31n, e_X3_become_32, e_X3_become_35, e_X3_become_36, e_X3_become_36n, e_X3_become_37, e_X3_become_40, e_X3_become_41, e_X3_become_46, e_X3_become_46n, e_X3_become_47, e_X3_become_50, e_X3_become_51, e_X3_become_51n, e_X3_become_52, e_X3_become_55, e_X3_become_56, e_X3_become_62, e_X3_become_65, e_X3_become_66, e_X3_become_66n, e_X3_become_67, e_X3_become_70, e_X3_become_71, e_X3_become_76, g_3_15_3, g_3_18_3, g_3_21_3, g_3_24_3, g_3_28_3, g_3_9_3, p_3_24_3, p_3_24_3n, p_3_28_3, l0, c0]
    exact q_cpy dX3_become_58 rfl (by decide) C4.2.2.2.1 L4.2.2.2.1 ⟨by omega, by omega, by decide, by decide, by decide, by decide, by decide, by decide⟩
  rw [s5]
  generalize xset h4 (b + 3) (.inr ((0, 7), .inl (xcpy a' a (nI 0).toNatClampNeg (nI 0).toNatClampNeg (nI 7).toNatClampNeg))) = h5 at L5 f5 C5 ⊢
  have L6 := xLB_o (o' := xcpy o' o (nI 0).toNatClampNeg (nI 0).toNatClampNeg (nI 7).toNatClampNeg) L5
  have f6 := xFr_tr f5 (xFr_set (a := b + 4) (e := .inr ((0, 7), .inl (xcpy o' o (nI 0).toNatClampNeg (nI 0).toNatClampNeg (nI 7).toNatClampNeg))) (by omega) ⟨by omega, by omega⟩)
  refine ⟨_, _, _, _, _, ?_, L6, fun j hj => ⟨cpy_lt hj, cpy_lt hj, cpy_lt hj, cpy_lt hj⟩, f6⟩
  have l0 := L5.1
  have c0 := C5.1
  simp (disch := first | exact xnl_i _ | exact xnl_r _ | exact xnl_u _ | exact xnl_n | exact zI_2 | exact zI_24 | assumption | omega | (simp only [xset_len]; omega)) only [xbd_s, xpv_n, xpv_s, e_X3_become_0, e_X3_become_0n, e_X3_become_1, e_X3_become_1n, e_X3_become_2, e_X3_become_5, e_X3_become_8, e_X3_become_8n, e_X3_become_9, e_X3_become_9n, e_X3_become_10, e_X3_become_13, e_X3_become_16, e_X3_become_16n, e_X3_become_17, e_X3_become_20, e_X3_become_21, e_X3_become_21n, e_X3_become_22, e_X3_become_25, e_X3_become_26, e_X3_become_31, e_X3_become_31n, e_X3_become_32, e_X3_become_35, e_X3_become_36, e_X3_become_36n, e_X3_become_37, e_X3_become_40, e_X3_become_41, e_X3_become_46, e_X3_become_46n, e_X3_become_47, e_X3_become_50, e_X3_become_51, e_X3_become_51n, e_X3_become_52, e_X3_become_55, e_X3_become_56, e_X3_become_61, e_X3_become_61n, e_X3_become_62, e_X3_become_65, e_X3_become_66, e_X3_become_66n, e_X3_become_67, e_X3_become_70, e_X3_become_71, e_X3_become_76, g_3_15_3, g_3_18_3, g_3_21_3, g_3_24_3, g_3_28_3, g_3_9_3, p_3_24_3, p_3_24_3n, p_3_28_3, l0, c0]
  rw [q_cpy dX3_become_73 rfl (by decide) C5.2.2.2.2.1 L5.2.2.2.2.1 ⟨by omega, by omega, by decide, by decide, by decide, by decide, by decide, by decide⟩]
  exact e_X3_become_76
end XLM
