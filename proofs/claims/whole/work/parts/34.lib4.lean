/-! LIBRARY: what changes it -/
def xFr (X : xS) (A : Nat → Prop) (h h' : xH) : Prop := h'.length = h.length ∧ ∀ c, ¬ A c → xget X h' c = xget X h c
def inL (b : Nat) : Nat → Prop := fun c => b ≤ c ∧ c ≤ b + 4
theorem xFr_rfl {X : xS} {A : Nat → Prop} {h : xH} : xFr X A h h := ⟨rfl, fun _ _ => rfl⟩
theorem xFr_tr {X : xS} {A : Nat → Prop} {h h' h'' : xH} (e : xFr X A h h') (f : xFr X A h' h'') : xFr X A h h'' := ⟨f.1.trans e.1, fun c hc => (f.2 c hc).trans (e.2 c hc)⟩
theorem xFr_mo {X : xS} {A B : Nat → Prop} {h h' : xH} (e : xFr X A h h') (f : ∀ c, A c → B c) : xFr X B h h' := ⟨e.1, fun c hc => e.2 c (fun q => hc (f c q))⟩
theorem xFr_set {X : xS} {A : Nat → Prop} {h : xH} {a : Nat} {e : xE} (h1 : 16 ≤ a) (h2 : A a) : xFr X A h (xset h a e) := ⟨xset_len _ _ _, fun c hc => xg_ne h1 (fun q => hc (q ▸ h2))⟩
theorem x_loopH {α β : Type} {X : xS} {A : Nat → Prop} (H : Nat → α → xH → β) (I : α → xH → Prop) (F : Nat → α → α) (n : Nat) (step : ∀ k, k < n → ∀ y h, I y h → ∃ h', H k y h = H (k + 1) (F k y) h' ∧ I (F k y) h' ∧ xFr X A h h') (y : α) (h : xH) (hI : I y h) : ∃ h', H 0 y h = H n (xfold F n y) h' ∧ I (xfold F n y) h' ∧ xFr X A h h' := by
  have key : ∀ k, k ≤ n → ∃ h', H 0 y h = H k (xfold F k y) h' ∧ I (xfold F k y) h' ∧ xFr X A h h' := by
    intro k
    induction k with
    | zero => exact fun _ => ⟨h, rfl, hI, xFr_rfl⟩
    | succ k ih =>
      intro hk
      obtain ⟨h1, e1, i1, f1⟩ := ih (by omega)
      obtain ⟨h2, e2, i2, f2⟩ := step k (by omega) _ h1 i1
      exact ⟨h2, e1.trans e2, i2, xFr_tr f1 f2⟩
  exact key n (Nat.le_refl n)
section XLM
variable {X : xS} {h h' : xH} {b p n m pl fr to : Nat} {pv : Value} {hr : Int32} {d k a o : Nat → Int32} {g : Nat → Option Nat} {u v so dr : Nat → Int32} {A Z : Nat → Prop}
def xZB (Z : Nat → Prop) (p n pl fr to : Nat) (g : Nat → Option Nat) : Prop := Z p ∧ Z pl ∧ Z fr ∧ Z to ∧ ∀ s, s < n → ∀ q, g s = some q → Z q
theorem xPB_fr (hP : xPB X h p n m pl fr to g u v) (hZ : xZB Z p n pl fr to g) (hF : xFr X A h h') (hA : ∀ c, Z c → ¬ A c) : xPB X h' p n m pl fr to g u v := by
  obtain ⟨p0, p1, p2, p3, p4, p5⟩ := hP
  obtain ⟨z0, z1, z2, z3, z4⟩ := hZ
  exact ⟨(hF.2 _ (hA _ z0)).trans p0, (hF.2 _ (hA _ z1)).trans p1, (hF.2 _ (hA _ z2)).trans p2, (hF.2 _ (hA _ z3)).trans p3, p4, p5⟩
theorem xGB_fr (hG : xGB X h n g so dr) (hZ : xZB Z p n pl fr to g) (hF : xFr X A h h') (hA : ∀ c, Z c → ¬ A c) : xGB X h' n g so dr := by
  intro s hs
  obtain ⟨q, ci, g1, g2, g3⟩ := hG s hs
  exact ⟨q, ci, g1, (hF.2 _ (hA _ (hZ.2.2.2.2 s hs q g1))).trans g2, g3⟩
theorem xLB_fr (hL : xLB X h b pv hr d k a o) (hF : xFr X A h h') (hA : ∀ c, inL b c → ¬ A c) : xLB X h' b pv hr d k a o := by
  obtain ⟨l0, l1, l2, l3, l4, l5⟩ := hL
  exact ⟨(hF.2 _ (hA b ⟨by omega, by omega⟩)).trans l0, (hF.2 _ (hA (b + 1) ⟨by omega, by omega⟩)).trans l1, (hF.2 _ (hA (b + 2) ⟨by omega, by omega⟩)).trans l2, (hF.2 _ (hA (b + 3) ⟨by omega, by omega⟩)).trans l3, (hF.2 _ (hA (b + 4) ⟨by omega, by omega⟩)).trans l4, l5⟩
theorem xLB_lv (hL : xLB X h b pv hr d k a o) : b + 4 < h.length + 16 := by
  obtain ⟨l0, l1, l2, l3, l4, l5⟩ := hL
  exact xg_live (by omega) l4
theorem xLB_d {d' : Nat → Int32} (hL : xLB X h b pv hr d k a o) : xLB X (xset h (b + 1) (.inr ((0, 7), .inl d'))) b pv hr d' k a o := by
  have lv := xLB_lv hL
  obtain ⟨l0, l1, l2, l3, l4, l5⟩ := hL
  exact ⟨(xg_ne (by omega) (by omega)).trans l0, xg_same (by omega) (by omega), (xg_ne (by omega) (by omega)).trans l2, (xg_ne (by omega) (by omega)).trans l3, (xg_ne (by omega) (by omega)).trans l4, l5⟩
theorem xLB_k {k' : Nat → Int32} (hL : xLB X h b pv hr d k a o) : xLB X (xset h (b + 2) (.inr ((0, 7), .inl k'))) b pv hr d k' a o := by
  have lv := xLB_lv hL
  obtain ⟨l0, l1, l2, l3, l4, l5⟩ := hL
  exact ⟨(xg_ne (by omega) (by omega)).trans l0, (xg_ne (by omega) (by omega)).trans l1, xg_same (by omega) (by omega), (xg_ne (by omega) (by omega)).trans l3, (xg_ne (by omega) (by omega)).trans l4, l5⟩
theorem xLB_a {a' : Nat → Int32} (hL : xLB X h b pv hr d k a o) : xLB X (xset h (b + 3) (.inr ((0, 7), .inl a'))) b pv hr d k a' o := by
  have lv := xLB_lv hL
  obtain ⟨l0, l1, l2, l3, l4, l5⟩ := hL
  exact ⟨(xg_ne (by omega) (by omega)).trans l0, (xg_ne (by omega) (by omega)).trans l1, (xg_ne (by omega) (by omega)).trans l2, xg_same (by omega) (by omega), (xg_ne (by omega) (by omega)).trans l4, l5⟩
theorem xLB_o {o' : Nat → Int32} (hL : xLB X h b pv hr d k a o) : xLB X (xset h (b + 4) (.inr ((0, 7), .inl o'))) b pv hr d k a o' := by
  have lv := xLB_lv hL
  obtain ⟨l0, l1, l2, l3, l4, l5⟩ := hL
  exact ⟨(xg_ne (by omega) (by omega)).trans l0, (xg_ne (by omega) (by omega)).trans l1, (xg_ne (by omega) (by omega)).trans l2, (xg_ne (by omega) (by omega)).trans l3, xg_same (by omega) (by omega), l5⟩
theorem xLB_p {pv' : Value} {hr' : Int32} (hL : xLB X h b pv hr d k a o) : xLB X (xset h b (.inl (3, [pv', .int hr', .ref (b + 1), .ref (b + 2), .ref (b + 3), .ref (b + 4)]))) b pv' hr' d k a o := by
  have lv := xLB_lv hL
  obtain ⟨l0, l1, l2, l3, l4, l5⟩ := hL
  exact ⟨xg_same (by omega) (by omega), (xg_ne (by omega) (by omega)).trans l1, (xg_ne (by omega) (by omega)).trans l2, (xg_ne (by omega) (by omega)).trans l3, (xg_ne (by omega) (by omega)).trans l4, l5⟩
theorem r_wipe (hL : xLB X h b pv hr d k a o) {s : Nat} (hs : s < 7) : xR X m_X3_wipe 0 [.ref b, .int (nI s), xU] [] h = some (some (.int (d s)), xset h (b + 1) (.inr ((0, 7), .inl (upd d s (nI 0))))) := by
  obtain ⟨l0, l1, l2, l3, l4, l5⟩ := hL
  simp (disch := first | exact xnl_i _ | exact xnl_r _ | exact xnl_u _ | exact xnl_n | exact zI_2 | exact zI_24 | assumption | omega | (simp only [xset_len]; omega)) only [xbd_s, xpv_n, xpv_s, e_X3_wipe_0, e_X3_wipe_1, e_X3_wipe_4, e_X3_wipe_5, e_X3_wipe_6, e_X3_wipe_7, e_X3_wipe_8, e_X3_wipe_11, e_X3_wipe_12, e_X3_wipe_13, e_X3_wipe_14, e_X3_wipe_15, g_3_9_3, l0, l1, xl_i, xs_i]
theorem r_swap (hL : xLB X h b pv hr d k a o) {s t : Nat} (hs : s < 7) (ht : t < 7) : ∃ h', xR X m_X3_swap 0 [.ref b, .int (nI s), .int (nI t), xU, xU] [] h = some (none, h') ∧ xLB X h' b pv hr (upd (upd d s (nI 0)) t (nI 0)) (upd (upd k s (k t)) t (k s)) (upd (upd a s (a t)) t (a s)) o ∧ xFr X (inL b) h h' := by
  have lv := xLB_lv hL
  have i1 : xLB X (xset h (b + 2) (.inr ((0, 7), .inl (upd k s (k t))))) b pv hr d (upd k s (k t)) a o := xLB_k hL
  have f1 : xFr X (inL b) h (xset h (b + 2) (.inr ((0, 7), .inl (upd k s (k t))))) := xFr_set (by have := hL.2.2.2.2.2; omega) ⟨by omega, by omega⟩
  generalize xset h (b + 2) (.inr ((0, 7), .inl (upd k s (k t)))) = h1 at i1 f1
  sorry
end XLM
