/-! the class: ACTS -/
theorem rem24 : ∀ x, x < 48 → nI x - nI x / nI 24 * nI 24 = nI (x % 24) := by decide +kernel
def xPA (X : xS) (h : xH) : Prop := (∃ g, xget X h 35 = some (.inr ((5, 24), .inr g)) ∧ ∀ k, k < 24 → g k = some (36 + 5 * k)) ∧ ∃ g, xget X h 156 = some (.inr ((5, 2), .inr g)) ∧ ∀ k, k < 2 → g k = some (157 + 5 * k)
section XAC
variable {X : xS} {h : xH} {fi ta lf : Int32} {lib p n m pl fr to ol un : Nat} {pv : Value} {hr : Int32} {d k a o : Nat → Int32} {g : Nat → Option Nat} {u v so dr : Nat → Int32}
theorem xPA_fr {A : Nat → Prop} {h' : xH} (hA : xPA X h) (hF : xFr X A h h') (h1 : ¬ A 35) (h2 : ¬ A 156) : xPA X h' := by
  obtain ⟨⟨g, g1, g2⟩, ⟨e, e1, e2⟩⟩ := hA
  exact ⟨⟨g, (hF.2 _ h1).trans g1, g2⟩, ⟨e, (hF.2 _ h2).trans e1, e2⟩⟩
theorem r_keep (hC : xCB X h fi ta lf lib (nI ol) (nI un)) (hA : xPA X h) (hol : ol < 24) (hun : un ≤ 24) (hpv : pv = .null ∨ ∃ p, pv = .ref p) (hL : xLB X h lib pv hr d k a o) (hlib : lib + 4 < 36 ∨ 156 < lib) (hlib2 : 16 < lib) {pv1 : Value} {hr1 : Int32} {d1 k1 a1 o1 : Nat → Int32} (hB : xLB X h (36 + 5 * ((ol + un) % 24)) pv1 hr1 d1 k1 a1 o1) : ∃ h' d2 k2 a2 o2, xR X m_X11_keepForUndo 0 [.ref 16] [] h = some (none, h') ∧ xCB X h' fi ta lf lib (nI (if un < 24 then ol else (ol + 1) % 24)) (nI (if un < 24 then un + 1 else un)) ∧ xLB X h' (36 + 5 * ((ol + un) % 24)) pv hr d2 k2 a2 o2 ∧ (∀ j, j < 7 → d2 j = d j ∧ k2 j = k j ∧ a2 j = a j ∧ o2 j = o j) ∧ xFr X (fun c => c = 16 ∨ inL (36 + 5 * ((ol + un) % 24)) c) h h' := by
  have hc : xget X h 16 = _ := hC
  have lv := xg_live (by omega) hc
  obtain ⟨⟨g, g1, g2⟩, _⟩ := hA
  have hi : (ol + un) % 24 < 24 := Nat.mod_lt _ (by omega)
  have e1 := rem24 (ol + un) (by omega)
  have e2 := g2 _ hi
  generalize hib : (ol + un) % 24 = i at *
  obtain ⟨h1, d2, k2, a2, o2, q1, q2, q3, q4⟩ := r_become hpv hB hL (by omega)
  have hc1 : xget X h1 16 = _ := (q4.2 16 (by unfold inL; omega)).trans hc
  have lv1 : 16 < h1.length + 16 := by rw [q4.1]; exact lv
  have l0 := hL.1
  have b0 := hB.1
  have q3' : 3 ≤ 5 ∧ 5 ≤ 5 := by omega
  have z24 : ¬ nI 24 = 0 := by decide
  by_cases c : un < 24
  · have e3 : nI un < nI 24 := nI_lt c (by omega)
    refine ⟨xset h1 16 (xCc fi ta lf lib (nI ol) (nI (un + 1))), d2, k2, a2, o2, ?_, ?_, ?_, q3, ?_⟩
    · simp (disch := first | exact xnl_i _ | exact xnl_r _ | exact xnl_u _ | exact xnl_n | exact zI_2 | exact zI_24 | assumption | omega | (simp only [xset_len]; omega)) only [↓reduceIte, xbd_s, xpv_n, xpv_s, e_X11_keepForUndo_0, e_X11_keepForUndo_1, e_X11_keepForUndo_4, e_X11_keepForUndo_5, e_X11_keepForUndo_8, e_X11_keepForUndo_9, e_X11_keepForUndo_12, e_X11_keepForUndo_13, e_X11_keepForUndo_15, e_X11_keepForUndo_16, e_X11_keepForUndo_17, e_X11_keepForUndo_18, e_X11_keepForUndo_21, c_X11_keepForUndo_158_3_0, e_X11_keepForUndo_24, e_X11_keepForUndo_25, e_X11_keepForUndo_28, e_X11_keepForUndo_30, e_X11_keepForUndo_33, e_X11_keepForUndo_34, e_X11_keepForUndo_35, e_X11_keepForUndo_38, e_X11_keepForUndo_39, e_X11_keepForUndo_40, e_X11_keepForUndo_43, e_X11_keepForUndo_46, e_X11_keepForUndo_47, e_X11_keepForUndo_48, e_X11_keepForUndo_51, e_X11_keepForUndo_52, e_X11_keepForUndo_53, e_X11_keepForUndo_55, e_X11_keepForUndo_56, e_X11_keepForUndo_59, g_11_152_10, g_11_155_10, g_11_25_10, g_11_29_10, p_11_152_10, p_11_155_10, hc, g1, e2, nI_add, e1, xl_a, xrv_s, l0, b0, q1, hc1, e3, nI_inc]
      rfl
    · rw [if_pos c, if_pos c]
      exact xg_same (by omega) lv1
    · exact xLB_fr q2 (xFr_set (A := fun c => c = 16) (by omega) rfl) (by unfold inL; omega)
    · exact xFr_tr (xFr_mo q4 (fun c hc => Or.inr hc)) (xFr_set (by omega) (Or.inl rfl))
  · have e3 : ¬ nI un < nI 24 := nI_nlt (by omega) (by omega)
    have e4 := rem24 (ol + 1) (by omega)
    refine ⟨xset h1 16 (xCc fi ta lf lib (nI ((ol + 1) % 24)) (nI un)), d2, k2, a2, o2, ?_, ?_, ?_, q3, ?_⟩
    · simp (disch := first | exact xnl_i _ | exact xnl_r _ | exact xnl_u _ | exact xnl_n | exact zI_2 | exact zI_24 | assumption | omega | (simp only [xset_len]; omega)) only [↓reduceIte, xbd_s, xpv_n, xpv_s, e_X11_keepForUndo_0, e_X11_keepForUndo_1, e_X11_keepForUndo_4, e_X11_keepForUndo_5, e_X11_keepForUndo_8, e_X11_keepForUndo_9, e_X11_keepForUndo_12, e_X11_keepForUndo_13, e_X11_keepForUndo_15, e_X11_keepForUndo_16, e_X11_keepForUndo_17, e_X11_keepForUndo_18, e_X11_keepForUndo_21, c_X11_keepForUndo_158_3_0, e_X11_keepForUndo_24, e_X11_keepForUndo_25, e_X11_keepForUndo_28, e_X11_keepForUndo_30, e_X11_keepForUndo_33, e_X11_keepForUndo_34, e_X11_keepForUndo_35, e_X11_keepForUndo_38, e_X11_keepForUndo_39, e_X11_keepForUndo_40, e_X11_keepForUndo_43, e_X11_keepForUndo_46, e_X11_keepForUndo_47, e_X11_keepForUndo_48, e_X11_keepForUndo_51, e_X11_keepForUndo_52, e_X11_keepForUndo_53, e_X11_keepForUndo_55, e_X11_keepForUndo_56, e_X11_keepForUndo_59, g_11_152_10, g_11_155_10, g_11_25_10, g_11_29_10, p_11_152_10, p_11_155_10, hc, g1, e2, nI_add, e1, xl_a, xrv_s, l0, b0, q1, hc1, e3, e4]
      rfl
    · rw [if_neg c, if_neg c]
      exact xg_same (by omega) lv1
    · exact xLB_fr q2 (xFr_set (A := fun c => c = 16) (by omega) rfl) (by unfold inL; omega)
    · exact xFr_tr (xFr_mo q4 (fun c hc => Or.inr hc)) (xFr_set (by omega) (Or.inl rfl))
/-- what was kept -/
def xPs (X : xS) (h : xH) (b : Nat) (pv : Value) (hr : Int32) (d k a o : Nat → Int32) : Prop := ∃ d2 k2 a2 o2, xLB X h b pv hr d2 k2 a2 o2 ∧ ∀ j, j < 7 → d2 j = d j ∧ k2 j = k j ∧ a2 j = a j ∧ o2 j = o j
theorem xPs_fr {A : Nat → Prop} {h' : xH} {b : Nat} {hr : Int32} (hL : xPs X h b pv hr d k a o) (hF : xFr X A h h') (hA : ∀ c, inL b c → ¬ A c) : xPs X h' b pv hr d k a o := by
  obtain ⟨d2, k2, a2, o2, e1, e2⟩ := hL
  exact ⟨d2, k2, a2, o2, xLB_fr e1 hF hA, e2⟩
def inK (lib i : Nat) : Nat → Prop := fun c => c = 16 ∨ inL (36 + 5 * i) c ∨ inL lib c
def kOl (ol un : Nat) : Nat := if un < 24 then ol else (ol + 1) % 24
def kUn (un : Nat) : Nat := if un < 24 then un + 1 else un
/-- all that the class needs of the heap, with a LIBRARY -/
def xTH (X : xS) (h : xH) (fi ta lf : Int32) (lib ol un p n m pl fr to : Nat) (hr : Int32) (d k a o : Nat → Int32) (g : Nat → Option Nat) (u v so dr : Nat → Int32) (Z : Nat → Prop) : Prop :=
  xCB X h fi ta lf lib (nI ol) (nI un) ∧ xPA X h ∧ xLB X h lib (.ref p) hr d k a o ∧ xPB X h p n m pl fr to g u v ∧ xGB X h n g so dr ∧ xZB Z p n pl fr to g ∧ (∀ c, Z c → 180 ≤ c ∧ ¬ inL lib c) ∧ 180 ≤ lib ∧ ol < 24 ∧ un ≤ 24
theorem r_keepT {Z : Nat → Prop} {hr : Int32} (H : xTH X h fi ta lf lib ol un p n m pl fr to hr d k a o g u v so dr Z) {pv1 : Value} {hr1 : Int32} {d1 k1 a1 o1 : Nat → Int32} (hB : xLB X h (36 + 5 * ((ol + un) % 24)) pv1 hr1 d1 k1 a1 o1) : ∃ h', xR X m_X11_keepForUndo 0 [.ref 16] [] h = some (none, h') ∧ xTH X h' fi ta lf lib (kOl ol un) (kUn un) p n m pl fr to hr d k a o g u v so dr Z ∧ xPs X h' (36 + 5 * ((ol + un) % 24)) (.ref p) hr d k a o ∧ xFr X (inK lib ((ol + un) % 24)) h h' := by
  obtain ⟨hC, hA, hL, hP, hG, hZ, hZ2, hlib, hol, hun⟩ := H
  have hi : (ol + un) % 24 < 24 := Nat.mod_lt _ (by omega)
  obtain ⟨h', d2, k2, a2, o2, e1, e2, e3, e4, e5⟩ := r_keep hC hA hol hun (Or.inr ⟨p, rfl⟩) hL (by omega) (by omega) hB
  have hd : ∀ c, Z c → ¬ (c = 16 ∨ inL (36 + 5 * ((ol + un) % 24)) c) := by
    intro c hc
    have := (hZ2 c hc).1
    unfold inL
    omega
  refine ⟨h', e1, ⟨e2, xPA_fr hA e5 (by unfold inL; omega) (by unfold inL; omega), xLB_fr hL e5 (by unfold inL; omega), xPB_fr hP hZ e5 hd, xGB_fr hG hZ e5 hd, hZ, hZ2, hlib, ?_, ?_⟩, ⟨d2, k2, a2, o2, e3, e4⟩, xFr_mo e5 (fun c hc => by unfold inK; rcases hc with hc | hc; exact Or.inl hc; exact Or.inr (Or.inl hc))⟩
  · unfold kOl
    split
    · exact hol
    · exact Nat.mod_lt _ (by omega)
  · unfold kUn
    split <;> omega
theorem xTH_lib {Z : Nat → Prop} {hr hr' : Int32} {h' : xH} {d' k' a' o' : Nat → Int32} (H : xTH X h fi ta lf lib ol un p n m pl fr to hr d k a o g u v so dr Z) (hL : xLB X h' lib (.ref p) hr' d' k' a' o') (hF : xFr X (inL lib) h h') : xTH X h' fi ta lf lib ol un p n m pl fr to hr' d' k' a' o' g u v so dr Z := by
  obtain ⟨hC, hA, _, hP, hG, hZ, hZ2, hlib, hol, hun⟩ := H
  exact ⟨(hF.2 16 (by unfold inL; omega)).trans hC, xPA_fr hA hF (by unfold inL; omega) (by unfold inL; omega), hL, xPB_fr hP hZ hF (fun c hc => (hZ2 c hc).2), xGB_fr hG hZ hF (fun c hc => (hZ2 c hc).2), hZ, hZ2, hlib, hol, hun⟩
theorem r_take {Z : Nat → Prop} {hr : Int32} (H : xTH X h fi ta lf lib ol un p n m pl fr to hr d k a o g u v so dr Z) {pv1 : Value} {hr1 : Int32} {d1 k1 a1 o1 : Nat → Int32} (hB : xLB X h (36 + 5 * ((ol + un) % 24)) pv1 hr1 d1 k1 a1 o1) {s : Nat} {x : Int32} (hs : s < n) (h1 : ¬ x < nI 1) (h2 : ¬ nI 48 < x) (ho : ¬ 0 < o s) : ∃ h', xR X m_X11_take 0 [.ref 16, .int (nI s), .int x] [] h = some (some (.int (d s)), h') ∧ xTH X h' fi ta lf lib (kOl ol un) (kUn un) p n m pl fr to hr (upd d s (nI 0)) k a (upd o s x) g u v so dr Z ∧ xPs X h' (36 + 5 * ((ol + un) % 24)) (.ref p) hr d k a o ∧ xFr X (inK lib ((ol + un) % 24)) h h' := by
  obtain ⟨h1', e1, e2, e3, e4⟩ := r_keepT H hB
  have hi : (ol + un) % 24 < 24 := Nat.mod_lt _ (by omega)
  obtain ⟨hC, hA, hL, hP, hG, hZ, hZ2, hlib, hol, hun⟩ := H
  have hn := hP.2.2.2.2.1
  have q := r_isSpotT hL hP hs
  have q1 := r_isOut (s := s) hL (by omega)
  rw [if_neg ho] at q1
  have hc : xget X h 16 = _ := hC
  have l0 := hL.1
  have hc1 : xget X h1' 16 = _ := e2.1
  have hL1 := e2.2.2.1
  have hL2 := xLB_o (o' := upd o s x) hL1
  have q2 := r_wipe hL2 (s := s) (by omega)
  have f2 : xFr X (inL lib) h1' _ := xFr_tr (xFr_set (a := lib + 4) (e := .inr ((0, 7), .inl (upd o s x))) (by omega) ⟨by omega, by omega⟩) (xFr_set (a := lib + 1) (e := .inr ((0, 7), .inl (upd d s (nI 0)))) (by omega) ⟨by omega, by omega⟩)
  have hL3 := xLB_d (d' := upd d s (nI 0)) hL2
  refine ⟨_, ?_, xTH_lib e2 hL3 f2, xPs_fr e3 f2 (by unfold inL; omega), xFr_tr e4 (xFr_mo f2 (fun c hc => Or.inr (Or.inr hc)))⟩
  have l01 := hL1.1
  have l04 := hL1.2.2.2.2.1
  have l02 := hL2.1
  have hc2 : xget X (xset h1' (lib + 4) (.inr ((0, 7), .inl (upd o s x)))) 16 = _ := (xg_ne (by omega) (by omega)).trans hc1
  simp (disch := first | exact xnl_i _ | exact xnl_r _ | exact xnl_u _ | exact xnl_n | exact zI_2 | exact zI_24 | assumption | omega | (simp only [xset_len]; omega)) only [↓reduceIte, xbd_s, xpv_n, xpv_s, e_X11_take_0, e_X11_take_1, e_X11_take_4, e_X11_take_5, c_X11_take_125_3_0, c_X11_take_128_3_0, c_X11_take_119_10_0, c_X11_take_135_3_0, e_X11_take_8, e_X11_take_11, e_X11_take_12, e_X11_take_13, e_X11_take_16, e_X11_take_17, e_X11_take_19, e_X11_take_22, e_X11_take_24, e_X11_take_25, e_X11_take_26, e_X11_take_29, e_X11_take_30, e_X11_take_33, e_X11_take_36, e_X11_take_38, e_X11_take_39, e_X11_take_40, e_X11_take_43, e_X11_take_44, e_X11_take_47, e_X11_take_50, e_X11_take_51, e_X11_take_52, e_X11_take_53, e_X11_take_54, e_X11_take_57, e_X11_take_58, e_X11_take_61, g_11_131_3, g_11_25_10, hc, l0, q, q1, z0, ne10, h1, h2, e1, hc1, l01, l04, xs_i, hc2, l02, q2]
end XAC
