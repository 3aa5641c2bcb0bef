/-! the class: change, dusts, undo, image, restore -/
section XAD
variable {X : xS} {h : xH} {fi ta lf : Int32} {lib p n m pl fr to ol un : Nat} {pv : Value} {hr : Int32} {d k a o : Nat → Int32} {g : Nat → Option Nat} {u v so dr : Nat → Int32} {Z : Nat → Prop}
theorem r_change (H : xTH X h fi ta lf lib ol un p n m pl fr to hr d k a o g u v so dr Z) {pv1 : Value} {hr1 : Int32} {d1 k1 a1 o1 : Nat → Int32} (hB : xLB X h (36 + 5 * ((ol + un) % 24)) pv1 hr1 d1 k1 a1 o1) {s t : Nat} (hs : s < n) (ht : t < n) (hst : s ≠ t) (ho : ¬ 0 < o s) (ho2 : ¬ 0 < o t) : ∃ h', xR X m_X11_change 0 [.ref 16, .int (nI s), .int (nI t)] [] h = some (some (.int (k t)), h') ∧ xTH X h' fi ta lf lib (kOl ol un) (kUn un) p n m pl fr to hr (upd (upd d s (nI 0)) t (nI 0)) (upd (upd k s (k t)) t (k s)) (upd (upd a s (a t)) t (a s)) o g u v so dr Z ∧ xPs X h' (36 + 5 * ((ol + un) % 24)) (.ref p) hr d k a o ∧ xFr X (inK lib ((ol + un) % 24)) h h' := by
  obtain ⟨h1', e1, e2, e3, e4⟩ := r_keepT H hB
  have hi : (ol + un) % 24 < 24 := Nat.mod_lt _ (by omega)
  obtain ⟨hC, hA, hL, hP, hG, hZ, hZ2, hlib, hol, hun⟩ := H
  have hn := hP.2.2.2.2.1
  have q := r_isSpotT hL hP hs
  have q0 := r_isSpotT hL hP ht
  have q1 := r_isOut (s := s) hL (by omega)
  rw [if_neg ho] at q1
  have q2 := r_isOut (s := t) hL (by omega)
  rw [if_neg ho2] at q2
  have hc : xget X h 16 = _ := hC
  have l0 := hL.1
  have hc1 : xget X h1' 16 = _ := e2.1
  have hL1 := e2.2.2.1
  obtain ⟨h2', w1, w2, w3⟩ := r_swap hL1 (s := s) (t := t) (by omega) (by omega)
  have hc2 : xget X h2' 16 = _ := (w3.2 16 (by unfold inL; omega)).trans hc1
  have l01 := hL1.1
  have l02 := w2.1
  have l03 := w2.2.2.1
  have e0 : ¬ nI s = nI t := by
    rw [xeq_i, nI_toInt (by omega), nI_toInt (by omega)]
    omega
  have ek : upd (upd k s (k t)) t (k s) s = k t := by rw [upd_ne hst, upd_eq]
  refine ⟨h2', ?_, xTH_lib e2 w2 w3, xPs_fr e3 w3 (by unfold inL; omega), xFr_tr e4 (xFr_mo w3 (fun c hc => Or.inr (Or.inr hc)))⟩
  simp (disch := first | exact xnl_i _ | exact xnl_r _ | exact xnl_u _ | exact xnl_n | exact zI_2 | exact zI_24 | assumption | omega | (simp only [xset_len]; omega)) only [↓reduceIte, xbd_s, xpv_n, xpv_s, e_X11_change_0, e_X11_change_1, e_X11_change_4, e_X11_change_5, c_X11_change_125_3_0, c_X11_change_128_3_0, c_X11_change_119_10_0, c_X11_change_138_3_0, e_X11_change_8, e_X11_change_11, e_X11_change_12, e_X11_change_15, e_X11_change_16, e_X11_change_19, e_X11_change_22, e_X11_change_23, e_X11_change_24, e_X11_change_27, e_X11_change_29, e_X11_change_30, e_X11_change_31, e_X11_change_34, e_X11_change_35, e_X11_change_38, e_X11_change_41, e_X11_change_42, e_X11_change_45, e_X11_change_46, e_X11_change_49, e_X11_change_52, e_X11_change_54, e_X11_change_55, e_X11_change_56, e_X11_change_59, e_X11_change_60, e_X11_change_63, e_X11_change_64, e_X11_change_65, e_X11_change_68, e_X11_change_69, e_X11_change_72, e_X11_change_75, e_X11_change_76, e_X11_change_77, g_11_142_3, g_11_25_10, hc, l0, q, q0, q1, q2, z0, ne10, e0, e1, hc1, l01, w1, hc2, l02, l03, xl_i, ek]
def duF (x : Int32) (s : Nat) (y : Int32 × (Nat → Int32)) : Int32 × (Nat → Int32) := if (x >>> (nI s &&& 31)) &&& nI 1 = nI 1 then (y.1 + y.2 s, upd y.2 s (nI 0)) else y
theorem r_dusts (H : xTH X h fi ta lf lib ol un p n m pl fr to hr d k a o g u v so dr Z) {pv1 : Value} {hr1 : Int32} {d1 k1 a1 o1 : Nat → Int32} (hB : xLB X h (36 + 5 * ((ol + un) % 24)) pv1 hr1 d1 k1 a1 o1) {x : Int32} (hx : x &&& (allS n ^^^ (-1)) = 0) : ∃ h', xR X m_X11_dusts 0 [.ref 16, .int x, xU, xU] [] h = some (some (.int (xfold (duF x) n (nI 0, d)).1), h') ∧ xTH X h' fi ta lf lib (kOl ol un) (kUn un) p n m pl fr to hr (xfold (duF x) n (nI 0, d)).2 k a o g u v so dr Z ∧ xPs X h' (36 + 5 * ((ol + un) % 24)) (.ref p) hr d k a o ∧ xFr X (inK lib ((ol + un) % 24)) h h' := by
  obtain ⟨h1', e1, e2, e3, e4⟩ := r_keepT H hB
  have hi : (ol + un) % 24 < 24 := Nat.mod_lt _ (by omega)
  obtain ⟨hC, hA, hL, hP, hG, hZ, hZ2, hlib, hol, hun⟩ := H
  have hn := hP.2.2.2.2.1
  have q := r_isThere hL
  have q1 := r_isSet hL hP x
  rw [if_pos hx] at q1
  have hc : xget X h 16 = _ := hC
  have l0 := hL.1
  obtain ⟨h2', w1, w2, w3⟩ := x_loopH (X := X) (A := inL lib) (fun j (y : Int32 × (Nat → Int32)) h => xR X m_X11_dusts 35 [.ref 16, .int x, .int y.1, .int (nI j)] [] h) (fun y h => xTH X h fi ta lf lib (kOl ol un) (kUn un) p n m pl fr to hr y.2 k a o g u v so dr Z) (duF x) n (by
    intro j hj y h H
    obtain ⟨y1, y2⟩ := y
    have hc : xget X h 16 = _ := H.1
    have hL := H.2.2.1
    have hP := H.2.2.2.1
    have l0 := hL.1
    have q1 := r_spots hL hP
    have q2 := r_wipe hL (s := j) (by omega)
    have e1 : nI j < nI n := nI_lt hj (by omega)
    rw [e_X11_dusts_35]
    by_cases c : (x >>> (nI j &&& 31)) &&& nI 1 = nI 1
    · have f1 : xFr X (inL lib) h _ := xFr_set (a := lib + 1) (e := .inr ((0, 7), .inl (upd y2 j (nI 0)))) (by omega) ⟨by omega, by omega⟩
      refine ⟨_, ?_, ?_, f1⟩
      · simp (disch := first | exact xnl_i _ | exact xnl_r _ | exact xnl_u _ | exact xnl_n | exact zI_2 | exact zI_24 | assumption | omega | (simp only [xset_len]; omega)) only [↓reduceIte, xbd_s, xpv_n, xpv_s, e_X11_dusts_0, e_X11_dusts_1, e_X11_dusts_4, c_X11_dusts_112_3_0, c_X11_dusts_145_3_0, c_X11_dusts_119_10_0, c_X11_dusts_108_3_1, c_X11_dusts_135_3_1, e_X11_dusts_7, e_X11_dusts_10, e_X11_dusts_12, e_X11_dusts_13, e_X11_dusts_14, e_X11_dusts_17, e_X11_dusts_18, e_X11_dusts_21, e_X11_dusts_24, e_X11_dusts_26, e_X11_dusts_27, e_X11_dusts_28, e_X11_dusts_31, e_X11_dusts_32, e_X11_dusts_33, e_X11_dusts_34, e_X11_dusts_36, e_X11_dusts_37, e_X11_dusts_40, e_X11_dusts_43, e_X11_dusts_46, e_X11_dusts_47, e_X11_dusts_48, e_X11_dusts_51, e_X11_dusts_54, e_X11_dusts_55, e_X11_dusts_56, e_X11_dusts_59, e_X11_dusts_60, e_X11_dusts_63, e_X11_dusts_64, e_X11_dusts_65, e_X11_dusts_68, e_X11_dusts_71, e_X11_dusts_72, g_11_25_10, hc, l0, q1, e1, r_isIn, if_pos c, zI_1, q2, nI_inc]
        unfold duF
        rw [if_pos c]
      · unfold duF
        rw [if_pos c]
        exact xTH_lib H (xLB_d hL) f1
    · refine ⟨h, ?_, ?_, xFr_rfl⟩
      · simp (disch := first | exact xnl_i _ | exact xnl_r _ | exact xnl_u _ | exact xnl_n | exact zI_2 | exact zI_24 | assumption | omega | (simp only [xset_len]; omega)) only [↓reduceIte, xbd_s, xpv_n, xpv_s, e_X11_dusts_0, e_X11_dusts_1, e_X11_dusts_4, c_X11_dusts_112_3_0, c_X11_dusts_145_3_0, c_X11_dusts_119_10_0, c_X11_dusts_108_3_1, c_X11_dusts_135_3_1, e_X11_dusts_7, e_X11_dusts_10, e_X11_dusts_12, e_X11_dusts_13, e_X11_dusts_14, e_X11_dusts_17, e_X11_dusts_18, e_X11_dusts_21, e_X11_dusts_24, e_X11_dusts_26, e_X11_dusts_27, e_X11_dusts_28, e_X11_dusts_31, e_X11_dusts_32, e_X11_dusts_33, e_X11_dusts_34, e_X11_dusts_36, e_X11_dusts_37, e_X11_dusts_40, e_X11_dusts_43, e_X11_dusts_46, e_X11_dusts_47, e_X11_dusts_48, e_X11_dusts_51, e_X11_dusts_54, e_X11_dusts_55, e_X11_dusts_56, e_X11_dusts_59, e_X11_dusts_60, e_X11_dusts_63, e_X11_dusts_64, e_X11_dusts_65, e_X11_dusts_68, e_X11_dusts_71, e_X11_dusts_72, g_11_25_10, hc, l0, q1, e1, r_isIn, if_neg c, z0, nI_inc]
        unfold duF
        rw [if_neg c]
      · unfold duF
        rw [if_neg c]
        exact H) (nI 0, d) h1' e2
  have hc2 : xget X h2' 16 = _ := w2.1
  have hL2 := w2.2.2.1
  have q3 := r_spots hL2 w2.2.2.2.1
  have l02 := hL2.1
  have e9 : ¬ nI n < nI n := nI_nlt (Nat.le_refl n) (by omega)
  refine ⟨h2', ?_, w2, xPs_fr e3 w3 (by unfold inL; omega), xFr_tr e4 (xFr_mo w3 (fun c hc => Or.inr (Or.inr hc)))⟩
  simp (disch := first | exact xnl_i _ | exact xnl_r _ | exact xnl_u _ | exact xnl_n | exact zI_2 | exact zI_24 | assumption | omega | (simp only [xset_len]; omega)) only [↓reduceIte, xbd_s, xpv_n, xpv_s, e_X11_dusts_0, e_X11_dusts_1, e_X11_dusts_4, c_X11_dusts_112_3_0, c_X11_dusts_145_3_0, c_X11_dusts_119_10_0, c_X11_dusts_108_3_1, c_X11_dusts_135_3_1, e_X11_dusts_7, e_X11_dusts_10, e_X11_dusts_12, e_X11_dusts_13, e_X11_dusts_14, e_X11_dusts_17, e_X11_dusts_18, e_X11_dusts_21, e_X11_dusts_24, e_X11_dusts_26, e_X11_dusts_27, e_X11_dusts_28, e_X11_dusts_31, e_X11_dusts_32, e_X11_dusts_33, e_X11_dusts_34, e_X11_dusts_36, e_X11_dusts_37, e_X11_dusts_40, e_X11_dusts_43, e_X11_dusts_46, e_X11_dusts_47, e_X11_dusts_48, e_X11_dusts_51, e_X11_dusts_54, e_X11_dusts_55, e_X11_dusts_56, e_X11_dusts_59, e_X11_dusts_60, e_X11_dusts_63, e_X11_dusts_64, e_X11_dusts_65, e_X11_dusts_68, e_X11_dusts_71, e_X11_dusts_72, g_11_25_10, hc, l0, q, q1, zI_1, e1]
  refine w1.trans ?_
  simp (disch := first | exact xnl_i _ | exact xnl_r _ | exact xnl_u _ | exact xnl_n | exact zI_2 | exact zI_24 | assumption | omega | (simp only [xset_len]; omega)) only [↓reduceIte, xbd_s, xpv_n, xpv_s, e_X11_dusts_0, e_X11_dusts_1, e_X11_dusts_4, c_X11_dusts_112_3_0, c_X11_dusts_145_3_0, c_X11_dusts_119_10_0, c_X11_dusts_108_3_1, c_X11_dusts_135_3_1, e_X11_dusts_7, e_X11_dusts_10, e_X11_dusts_12, e_X11_dusts_13, e_X11_dusts_14, e_X11_dusts_17, e_X11_dusts_18, e_X11_dusts_21, e_X11_dusts_24, e_X11_dusts_26, e_X11_dusts_27, e_X11_dusts_28, e_X11_dusts_31, e_X11_dusts_32, e_X11_dusts_33, e_X11_dusts_34, e_X11_dusts_35, e_X11_dusts_36, e_X11_dusts_37, e_X11_dusts_40, e_X11_dusts_43, e_X11_dusts_46, e_X11_dusts_47, e_X11_dusts_48, e_X11_dusts_51, e_X11_dusts_54, e_X11_dusts_55, e_X11_dusts_56, e_X11_dusts_59, e_X11_dusts_60, e_X11_dusts_63, e_X11_dusts_64, e_X11_dusts_65, e_X11_dusts_68, e_X11_dusts_71, e_X11_dusts_72, g_11_25_10, hc2, l02, q3, e9]
theorem r_hours1 {hr : Nat} (H : xTH X h fi ta lf lib ol un p n m pl fr to (nI hr) d k a o g u v so dr Z) {pv1 : Value} {hr1 : Int32} {d1 k1 a1 o1 : Nat → Int32} (hB : xLB X h (36 + 5 * ((ol + un) % 24)) pv1 hr1 d1 k1 a1 o1) {j c : Nat} (hj : j < c) (hc24 : c ≤ 24) : ∃ h', xR X m_X11_hours 47 [.ref 16, .int (nI c), .int (nI j)] [] h = xR X m_X11_hours 47 [.ref 16, .int (nI c), .int (nI (j + 1))] [] h' ∧ xTH X h' fi ta lf lib (kOl ol un) (kUn un) p n m pl fr to (nI (hr + 1)) (xfold (hrF so dr (nI hr)) n (d, a, o)).1 k (xfold (hrF so dr (nI hr)) n (d, a, o)).2.1 (xfold (hrF so dr (nI hr)) n (d, a, o)).2.2 g u v so dr Z ∧ xPs X h' (36 + 5 * ((ol + un) % 24)) (.ref p) (nI hr) d k a o ∧ xFr X (inK lib ((ol + un) % 24)) h h' := by
  obtain ⟨h1', e1, e2, e3, e4⟩ := r_keepT H hB
  have hi : (ol + un) % 24 < 24 := Nat.mod_lt _ (by omega)
  have hc1 : xget X h1' 16 = _ := e2.1
  have hL1 := e2.2.2.1
  have hlib := e2.2.2.2.2.2.2.2.1
  obtain ⟨h2', w1, w2, w3⟩ := r_passHour hL1 e2.2.2.2.1 e2.2.2.2.2.1 e2.2.2.2.2.2.1 (fun c hc => (e2.2.2.2.2.2.2.1 c hc).2)
  rw [nI_inc] at w2
  have hc : xget X h 16 = _ := H.1
  have l01 := hL1.1
  have e9 : nI j < nI c := nI_lt hj (by omega)
  refine ⟨h2', ?_, xTH_lib e2 w2 w3, xPs_fr e3 w3 (by unfold inL; omega), xFr_tr e4 (xFr_mo w3 (fun c hc => Or.inr (Or.inr hc)))⟩
  rw [e_X11_hours_47]
  simp (disch := first | exact xnl_i _ | exact xnl_r _ | exact xnl_u _ | exact xnl_n | exact zI_2 | exact zI_24 | assumption | omega | (simp only [xset_len]; omega)) only [↓reduceIte, xbd_s, xpv_n, xpv_s, e_X11_hours_0, e_X11_hours_1, e_X11_hours_4, c_X11_hours_112_3_0, c_X11_hours_119_10_0, c_X11_hours_122_3_0, e_X11_hours_7, e_X11_hours_10, e_X11_hours_12, e_X11_hours_13, e_X11_hours_14, e_X11_hours_15, e_X11_hours_18, e_X11_hours_19, e_X11_hours_21, e_X11_hours_24, e_X11_hours_26, e_X11_hours_27, e_X11_hours_28, e_X11_hours_31, e_X11_hours_34, e_X11_hours_35, e_X11_hours_36, e_X11_hours_39, e_X11_hours_42, e_X11_hours_44, e_X11_hours_45, e_X11_hours_46, e_X11_hours_48, e_X11_hours_49, e_X11_hours_52, e_X11_hours_53, e_X11_hours_56, e_X11_hours_57, e_X11_hours_60, e_X11_hours_63, e_X11_hours_66, e_X11_hours_69, e_X11_hours_70, e_X11_hours_73, e_X11_hours_76, g_11_116_3, g_11_25_10, hc, e9, e1, hc1, l01, w1, nI_inc]
end XAD
