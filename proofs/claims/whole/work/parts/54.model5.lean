/-! the reference: kind, spot, fall, trace -/
section XMS
variable {X : xS} {h : xH} {S : Nat → Int32} {nm : Int64} {A : Nat → Nat → Int32} {n : Nat}
theorem m_isSpotT (hM : xMB X h S nm A) (hn : n ≤ 7) (hA : A 0 1 = nI n) {s : Nat} (hs : s < n) : xR X m_X12_isSpot 0 [.ref 169, .int (nI s)] [] h = some (some (.int 1), h) := by
  rw [m_isSpot hM hn hA, if_neg (nI_pos (by omega)), if_pos (nI_lt hs (by omega))]; rfl
theorem m_isSpotF (hM : xMB X h S nm A) (hn : n ≤ 7) (hA : A 0 1 = nI n) {x : Int32} (hx : x < 0 ∨ ¬ x < nI n) : xR X m_X12_isSpot 0 [.ref 169, .int x] [] h = some (some (.int 0), h) := by
  rw [m_isSpot hM hn hA]
  by_cases c : x < 0
  · rw [if_pos c]; rfl
  · rw [if_neg c, if_neg (hx.resolve_left c)]; rfl
theorem m_kindX (hM : xMB X h S nm A) (hn : n ≤ 7) (hA : A 0 1 = nI n) {x : Int32} (hx : x < 0 ∨ ¬ x < nI n) : xR X m_X12_kind 0 [.ref 169, .int x] [] h = some (some (.int cBAD), h) := by
  have q := m_isSpotF hM hn hA hx
  have hc := hM.1
  simp (disch := first | exact xnl_i _ | exact xnl_r _ | exact xnl_u _ | exact xnl_n | exact zI_2 | exact zI_24 | assumption | omega | (simp only [xset_len]; omega)) only [↓reduceIte, xbd_s, xpv_n, xpv_s, e_X12_kind_0, e_X12_kind_1, e_X12_kind_2, c_X12_kind_167_11_0, e_X12_kind_5, e_X12_kind_8, e_X12_kind_9, e_X12_kind_12, e_X12_kind_13, e_X12_kind_14, e_X12_kind_15, e_X12_kind_16, e_X12_kind_19, e_X12_kind_21, g_12_7_11, hc, q]
theorem m_kind (hM : xMB X h S nm A) (hn : n ≤ 7) (hA : A 0 1 = nI n) {s : Nat} (hs : s < n) : xR X m_X12_kind 0 [.ref 169, .int (nI s)] [] h = some (some (.int (A 0 (3 + s))), h) := by
  have q := m_isSpotT hM hn hA hs
  have hc := hM.1
  have a0 := hM.2.1
  simp (disch := first | exact xnl_i _ | exact xnl_r _ | exact xnl_u _ | exact xnl_n | exact zI_2 | exact zI_24 | assumption | omega | (simp only [xset_len]; omega)) only [↓reduceIte, xbd_s, xpv_n, xpv_s, e_X12_kind_0, e_X12_kind_1, e_X12_kind_2, c_X12_kind_167_11_0, e_X12_kind_5, e_X12_kind_8, e_X12_kind_9, e_X12_kind_12, e_X12_kind_13, e_X12_kind_14, e_X12_kind_15, e_X12_kind_16, e_X12_kind_19, e_X12_kind_21, g_12_7_11, hc, a0, q, ne10, nI_add, xl_i]
theorem m_spotX (hM : xMB X h S nm A) (hn : n ≤ 7) (hA : A 0 1 = nI n) {x : Int32} (w : Int32) (hx : x < 0 ∨ ¬ x < nI n) : xR X m_X12_spot 0 [.ref 169, .int x, .int w, xU] [] h = some (some (.int cBAD), h) := by
  have q := m_isSpotF hM hn hA hx
  have hc := hM.1
  simp (disch := first | exact xnl_i _ | exact xnl_r _ | exact xnl_u _ | exact xnl_n | exact zI_2 | exact zI_24 | assumption | omega | (simp only [xset_len]; omega)) only [↓reduceIte, xbd_s, xpv_n, xpv_s, e_X12_spot_0, e_X12_spot_1, e_X12_spot_2, c_X12_spot_167_11_0, e_X12_spot_5, e_X12_spot_8, e_X12_spot_9, e_X12_spot_10, e_X12_spot_11, e_X12_spot_14, e_X12_spot_17, e_X12_spot_19, e_X12_spot_20, e_X12_spot_21, e_X12_spot_24, e_X12_spot_26, e_X12_spot_27, e_X12_spot_28, e_X12_spot_29, e_X12_spot_30, e_X12_spot_31, e_X12_spot_34, e_X12_spot_35, e_X12_spot_38, e_X12_spot_40, e_X12_spot_41, e_X12_spot_42, e_X12_spot_43, e_X12_spot_46, e_X12_spot_47, e_X12_spot_48, e_X12_spot_51, e_X12_spot_52, e_X12_spot_55, e_X12_spot_57, e_X12_spot_58, e_X12_spot_59, e_X12_spot_60, e_X12_spot_63, e_X12_spot_64, e_X12_spot_65, e_X12_spot_68, e_X12_spot_69, e_X12_spot_72, e_X12_spot_73, e_X12_spot_74, e_X12_spot_77, e_X12_spot_78, e_X12_spot_81, e_X12_spot_83, e_X12_spot_84, e_X12_spot_85, e_X12_spot_86, e_X12_spot_89, e_X12_spot_90, e_X12_spot_93, e_X12_spot_95, e_X12_spot_96, e_X12_spot_97, e_X12_spot_98, g_12_7_11, hc, q]
theorem m_spot (hM : xMB X h S nm A) (hn : n ≤ 7) (hA : A 0 1 = nI n) {s b : Nat} (hs : s < n) (hb : b < 7) (hk : A 0 (33 + s) = nI b) (w : Int32) : xR X m_X12_spot 0 [.ref 169, .int (nI s), .int w, xU] [] h = some (some (.int (spS (fun s => A 0 (10 + s)) (fun s => A 0 (26 + s)) (fun s => A 0 (33 + s)) (fun _ => A 0 (40 + b)) (fun s => A 0 (47 + s)) s w)), h) := by
  have q := m_isSpotT hM hn hA hs
  have hc := hM.1
  have a0 := hM.2.1
  have b0 : (nI 0).toInt = 0 := by decide
  have b4 : (nI 4).toInt = 4 := by decide
  unfold spS
  by_cases c0 : w = nI 0
  · subst c0
    have q2 := fun hh : xH => m_inT (X := X) (h := hh) (x := 0) (lo := 0) (hi := nI 4) (by decide) (by decide)
    simp (disch := first | exact xnl_i _ | exact xnl_r _ | exact xnl_u _ | exact xnl_n | exact zI_2 | exact zI_24 | assumption | omega | (simp only [xset_len]; omega)) only [↓reduceIte, xbd_s, xpv_n, xpv_s, e_X12_spot_0, e_X12_spot_1, e_X12_spot_2, c_X12_spot_167_11_0, e_X12_spot_5, e_X12_spot_8, e_X12_spot_9, e_X12_spot_10, e_X12_spot_11, e_X12_spot_14, e_X12_spot_17, e_X12_spot_19, e_X12_spot_20, e_X12_spot_21, e_X12_spot_24, e_X12_spot_26, e_X12_spot_27, e_X12_spot_28, e_X12_spot_29, e_X12_spot_30, e_X12_spot_31, e_X12_spot_34, e_X12_spot_35, e_X12_spot_38, e_X12_spot_40, e_X12_spot_41, e_X12_spot_42, e_X12_spot_43, e_X12_spot_46, e_X12_spot_47, e_X12_spot_48, e_X12_spot_51, e_X12_spot_52, e_X12_spot_55, e_X12_spot_57, e_X12_spot_58, e_X12_spot_59, e_X12_spot_60, e_X12_spot_63, e_X12_spot_64, e_X12_spot_65, e_X12_spot_68, e_X12_spot_69, e_X12_spot_72, e_X12_spot_73, e_X12_spot_74, e_X12_spot_77, e_X12_spot_78, e_X12_spot_81, e_X12_spot_83, e_X12_spot_84, e_X12_spot_85, e_X12_spot_86, e_X12_spot_89, e_X12_spot_90, e_X12_spot_93, e_X12_spot_95, e_X12_spot_96, e_X12_spot_97, e_X12_spot_98, g_12_7_11, hc, a0, q, q2, ne10, nI_add, xl_i, z0]
  by_cases c1 : w = nI 1
  · subst c1
    have q2 := fun hh : xH => m_inT (X := X) (h := hh) (x := nI 1) (lo := nI 0) (hi := nI 4) (by decide) (by decide)
    simp (disch := first | exact xnl_i _ | exact xnl_r _ | exact xnl_u _ | exact xnl_n | exact zI_2 | exact zI_24 | assumption | omega | (simp only [xset_len]; omega)) only [↓reduceIte, xbd_s, xpv_n, xpv_s, e_X12_spot_0, e_X12_spot_1, e_X12_spot_2, c_X12_spot_167_11_0, e_X12_spot_5, e_X12_spot_8, e_X12_spot_9, e_X12_spot_10, e_X12_spot_11, e_X12_spot_14, e_X12_spot_17, e_X12_spot_19, e_X12_spot_20, e_X12_spot_21, e_X12_spot_24, e_X12_spot_26, e_X12_spot_27, e_X12_spot_28, e_X12_spot_29, e_X12_spot_30, e_X12_spot_31, e_X12_spot_34, e_X12_spot_35, e_X12_spot_38, e_X12_spot_40, e_X12_spot_41, e_X12_spot_42, e_X12_spot_43, e_X12_spot_46, e_X12_spot_47, e_X12_spot_48, e_X12_spot_51, e_X12_spot_52, e_X12_spot_55, e_X12_spot_57, e_X12_spot_58, e_X12_spot_59, e_X12_spot_60, e_X12_spot_63, e_X12_spot_64, e_X12_spot_65, e_X12_spot_68, e_X12_spot_69, e_X12_spot_72, e_X12_spot_73, e_X12_spot_74, e_X12_spot_77, e_X12_spot_78, e_X12_spot_81, e_X12_spot_83, e_X12_spot_84, e_X12_spot_85, e_X12_spot_86, e_X12_spot_89, e_X12_spot_90, e_X12_spot_93, e_X12_spot_95, e_X12_spot_96, e_X12_spot_97, e_X12_spot_98, g_12_7_11, hc, a0, q, q2, ne10, nI_add, xl_i, if_neg c0, zI_1]
  by_cases c2 : w = nI 2
  · subst c2
    have q2 := fun hh : xH => m_inT (X := X) (h := hh) (x := nI 2) (lo := nI 0) (hi := nI 4) (by decide) (by decide)
    simp (disch := first | exact xnl_i _ | exact xnl_r _ | exact xnl_u _ | exact xnl_n | exact zI_2 | exact zI_24 | assumption | omega | (simp only [xset_len]; omega)) only [↓reduceIte, xbd_s, xpv_n, xpv_s, e_X12_spot_0, e_X12_spot_1, e_X12_spot_2, c_X12_spot_167_11_0, e_X12_spot_5, e_X12_spot_8, e_X12_spot_9, e_X12_spot_10, e_X12_spot_11, e_X12_spot_14, e_X12_spot_17, e_X12_spot_19, e_X12_spot_20, e_X12_spot_21, e_X12_spot_24, e_X12_spot_26, e_X12_spot_27, e_X12_spot_28, e_X12_spot_29, e_X12_spot_30, e_X12_spot_31, e_X12_spot_34, e_X12_spot_35, e_X12_spot_38, e_X12_spot_40, e_X12_spot_41, e_X12_spot_42, e_X12_spot_43, e_X12_spot_46, e_X12_spot_47, e_X12_spot_48, e_X12_spot_51, e_X12_spot_52, e_X12_spot_55, e_X12_spot_57, e_X12_spot_58, e_X12_spot_59, e_X12_spot_60, e_X12_spot_63, e_X12_spot_64, e_X12_spot_65, e_X12_spot_68, e_X12_spot_69, e_X12_spot_72, e_X12_spot_73, e_X12_spot_74, e_X12_spot_77, e_X12_spot_78, e_X12_spot_81, e_X12_spot_83, e_X12_spot_84, e_X12_spot_85, e_X12_spot_86, e_X12_spot_89, e_X12_spot_90, e_X12_spot_93, e_X12_spot_95, e_X12_spot_96, e_X12_spot_97, e_X12_spot_98, g_12_7_11, hc, a0, q, q2, ne10, nI_add, xl_i, if_neg c0, if_neg c1, zI_2]
  by_cases c3 : w = nI 3
  · subst c3
    have q2 := fun hh : xH => m_inT (X := X) (h := hh) (x := nI 3) (lo := nI 0) (hi := nI 4) (by decide) (by decide)
    have z3 : ¬ nI 3 = 0 := by decide
    simp (disch := first | exact xnl_i _ | exact xnl_r _ | exact xnl_u _ | exact xnl_n | exact zI_2 | exact zI_24 | assumption | omega | (simp only [xset_len]; omega)) only [↓reduceIte, xbd_s, xpv_n, xpv_s, e_X12_spot_0, e_X12_spot_1, e_X12_spot_2, c_X12_spot_167_11_0, e_X12_spot_5, e_X12_spot_8, e_X12_spot_9, e_X12_spot_10, e_X12_spot_11, e_X12_spot_14, e_X12_spot_17, e_X12_spot_19, e_X12_spot_20, e_X12_spot_21, e_X12_spot_24, e_X12_spot_26, e_X12_spot_27, e_X12_spot_28, e_X12_spot_29, e_X12_spot_30, e_X12_spot_31, e_X12_spot_34, e_X12_spot_35, e_X12_spot_38, e_X12_spot_40, e_X12_spot_41, e_X12_spot_42, e_X12_spot_43, e_X12_spot_46, e_X12_spot_47, e_X12_spot_48, e_X12_spot_51, e_X12_spot_52, e_X12_spot_55, e_X12_spot_57, e_X12_spot_58, e_X12_spot_59, e_X12_spot_60, e_X12_spot_63, e_X12_spot_64, e_X12_spot_65, e_X12_spot_68, e_X12_spot_69, e_X12_spot_72, e_X12_spot_73, e_X12_spot_74, e_X12_spot_77, e_X12_spot_78, e_X12_spot_81, e_X12_spot_83, e_X12_spot_84, e_X12_spot_85, e_X12_spot_86, e_X12_spot_89, e_X12_spot_90, e_X12_spot_93, e_X12_spot_95, e_X12_spot_96, e_X12_spot_97, e_X12_spot_98, g_12_7_11, hc, a0, q, q2, ne10, nI_add, xl_i, hk, if_neg c0, if_neg c1, if_neg c2, z3]
  by_cases c4 : w = nI 4
  · subst c4
    have q2 := fun hh : xH => m_inT (X := X) (h := hh) (x := nI 4) (lo := nI 0) (hi := nI 4) (by decide) (by decide)
    have z4 : ¬ nI 4 = 0 := by decide
    simp (disch := first | exact xnl_i _ | exact xnl_r _ | exact xnl_u _ | exact xnl_n | exact zI_2 | exact zI_24 | assumption | omega | (simp only [xset_len]; omega)) only [↓reduceIte, xbd_s, xpv_n, xpv_s, e_X12_spot_0, e_X12_spot_1, e_X12_spot_2, c_X12_spot_167_11_0, e_X12_spot_5, e_X12_spot_8, e_X12_spot_9, e_X12_spot_10, e_X12_spot_11, e_X12_spot_14, e_X12_spot_17, e_X12_spot_19, e_X12_spot_20, e_X12_spot_21, e_X12_spot_24, e_X12_spot_26, e_X12_spot_27, e_X12_spot_28, e_X12_spot_29, e_X12_spot_30, e_X12_spot_31, e_X12_spot_34, e_X12_spot_35, e_X12_spot_38, e_X12_spot_40, e_X12_spot_41, e_X12_spot_42, e_X12_spot_43, e_X12_spot_46, e_X12_spot_47, e_X12_spot_48, e_X12_spot_51, e_X12_spot_52, e_X12_spot_55, e_X12_spot_57, e_X12_spot_58, e_X12_spot_59, e_X12_spot_60, e_X12_spot_63, e_X12_spot_64, e_X12_spot_65, e_X12_spot_68, e_X12_spot_69, e_X12_spot_72, e_X12_spot_73, e_X12_spot_74, e_X12_spot_77, e_X12_spot_78, e_X12_spot_81, e_X12_spot_83, e_X12_spot_84, e_X12_spot_85, e_X12_spot_86, e_X12_spot_89, e_X12_spot_90, e_X12_spot_93, e_X12_spot_95, e_X12_spot_96, e_X12_spot_97, e_X12_spot_98, g_12_7_11, hc, a0, q, q2, ne10, nI_add, xl_i, if_neg c0, if_neg c1, if_neg c2, if_neg c3, z4]
  have e : w.toInt < 0 ∨ 4 < w.toInt := sw_out (c := 4) (by omega) (by
    intro j hj
    rcases j with _ | _ | _ | _ | _ | j
    · exact c0
    · exact c1
    · exact c2
    · exact c3
    · exact c4
    · omega)
  have q2 := fun hh : xH => m_inF (X := X) (h := hh) (x := w) (lo := nI 0) (hi := nI 4) (by rw [xlt_i, xlt_i]; omega)
  rw [if_neg c0, if_neg c1, if_neg c2, if_neg c3, if_neg c4]
  simp (disch := first | exact xnl_i _ | exact xnl_r _ | exact xnl_u _ | exact xnl_n | exact zI_2 | exact zI_24 | assumption | omega | (simp only [xset_len]; omega)) only [↓reduceIte, xbd_s, xpv_n, xpv_s, e_X12_spot_0, e_X12_spot_1, e_X12_spot_2, c_X12_spot_167_11_0, e_X12_spot_5, e_X12_spot_8, e_X12_spot_9, e_X12_spot_10, e_X12_spot_11, e_X12_spot_14, e_X12_spot_17, e_X12_spot_19, e_X12_spot_20, e_X12_spot_21, e_X12_spot_24, e_X12_spot_26, e_X12_spot_27, e_X12_spot_28, e_X12_spot_29, e_X12_spot_30, e_X12_spot_31, e_X12_spot_34, e_X12_spot_35, e_X12_spot_38, e_X12_spot_40, e_X12_spot_41, e_X12_spot_42, e_X12_spot_43, e_X12_spot_46, e_X12_spot_47, e_X12_spot_48, e_X12_spot_51, e_X12_spot_52, e_X12_spot_55, e_X12_spot_57, e_X12_spot_58, e_X12_spot_59, e_X12_spot_60, e_X12_spot_63, e_X12_spot_64, e_X12_spot_65, e_X12_spot_68, e_X12_spot_69, e_X12_spot_72, e_X12_spot_73, e_X12_spot_74, e_X12_spot_77, e_X12_spot_78, e_X12_spot_81, e_X12_spot_83, e_X12_spot_84, e_X12_spot_85, e_X12_spot_86, e_X12_spot_89, e_X12_spot_90, e_X12_spot_93, e_X12_spot_95, e_X12_spot_96, e_X12_spot_97, e_X12_spot_98, g_12_7_11, hc, a0, q, q2, ne10]
theorem m_movedN (hM : xMB X h S nm A) (hA : ¬ A 0 0 = nI 1) : xR X m_X12_moved 0 [.ref 169, xU, xU] [] h = some (some (.int cSTATE), h) := by
  have q := m_isLibrary hM
  rw [if_neg hA] at q
  have hc := hM.1
  simp (disch := first | exact xnl_i _ | exact xnl_r _ | exact xnl_u _ | exact xnl_n | exact zI_2 | exact zI_24 | assumption | omega | (simp only [xset_len]; omega)) only [↓reduceIte, xbd_s, xpv_n, xpv_s, e_X12_moved_0, e_X12_moved_1, c_X12_moved_149_11_0, e_X12_moved_4, e_X12_moved_7, e_X12_moved_9, e_X12_moved_10, e_X12_moved_11, e_X12_moved_12, e_X12_moved_13, e_X12_moved_14, e_X12_moved_15, e_X12_moved_16, e_X12_moved_19, e_X12_moved_20, e_X12_moved_21, e_X12_moved_24, e_X12_moved_25, e_X12_moved_26, e_X12_moved_29, e_X12_moved_31, e_X12_moved_32, e_X12_moved_33, e_X12_moved_34, e_X12_moved_35, e_X12_moved_38, e_X12_moved_39, e_X12_moved_42, e_X12_moved_43, e_X12_moved_44, e_X12_moved_45, e_X12_moved_46, e_X12_moved_47, e_X12_moved_50, e_X12_moved_53, e_X12_moved_54, g_12_7_11, hc, q, z0]
theorem m_fallX (hM : xMB X h S nm A) (hn : n ≤ 7) (hA : A 0 1 = nI n) {x : Int32} (t w : Int32) (hx : x < 0 ∨ ¬ x < nI n) : xR X m_X12_fall 0 [.ref 169, .int x, .int t, .int w] [] h = some (some (.int cBAD), h) := by
  have q := m_isSpotF hM hn hA hx
  have hc := hM.1
  simp (disch := first | exact xnl_i _ | exact xnl_r _ | exact xnl_u _ | exact xnl_n | exact zI_2 | exact zI_24 | assumption | omega | (simp only [xset_len]; omega)) only [↓reduceIte, xbd_s, xpv_n, xpv_s, e_X12_fall_0, e_X12_fall_1, e_X12_fall_2, c_X12_fall_167_11_0, c_X12_fall_157_11_0, c_X12_fall_164_11_0, e_X12_fall_5, e_X12_fall_8, e_X12_fall_9, e_X12_fall_10, e_X12_fall_13, e_X12_fall_16, e_X12_fall_19, e_X12_fall_20, e_X12_fall_21, e_X12_fall_22, e_X12_fall_25, e_X12_fall_28, e_X12_fall_30, e_X12_fall_31, e_X12_fall_32, e_X12_fall_35, e_X12_fall_36, e_X12_fall_37, e_X12_fall_38, e_X12_fall_41, e_X12_fall_44, e_X12_fall_45, e_X12_fall_46, e_X12_fall_47, e_X12_fall_50, hc, q]
theorem m_fall (hM : xMB X h S nm A) (hn : n ≤ 7) (hA : A 0 1 = nI n) {s so : Nat} (hs : s < n) (hso : A 0 (3 + s) = nI so) (h1 : 1 ≤ so) (h2 : so ≤ 5) (t w : Int32) : xR X m_X12_fall 0 [.ref 169, .int (nI s), .int t, .int w] [] h = some (some (.int (if t < 0 then cBAD else if nI 999 < t then cBAD else if w = 0 then fallS (nI so) (A 0 (10 + s)) t else if w = 1 then sunS (nI so) t else cBAD)), h) := by
  have q := m_isSpotT hM hn hA hs
  have q3 := m_fallOf hM (s := s) (by omega) hso h1 h2 t
  have q4 := m_sunOf hM (s := s) (by omega) hso t
  have hc := hM.1
  by_cases c1 : t < 0
  · have q2 := fun hh : xH => m_inF (X := X) (h := hh) (x := t) (lo := 0) (hi := nI 999) (Or.inl c1)
    simp (disch := first | exact xnl_i _ | exact xnl_r _ | exact xnl_u _ | exact xnl_n | exact zI_2 | exact zI_24 | assumption | omega | (simp only [xset_len]; omega)) only [↓reduceIte, xbd_s, xpv_n, xpv_s, e_X12_fall_0, e_X12_fall_1, e_X12_fall_2, c_X12_fall_167_11_0, c_X12_fall_157_11_0, c_X12_fall_164_11_0, e_X12_fall_5, e_X12_fall_8, e_X12_fall_9, e_X12_fall_10, e_X12_fall_13, e_X12_fall_16, e_X12_fall_19, e_X12_fall_20, e_X12_fall_21, e_X12_fall_22, e_X12_fall_25, e_X12_fall_28, e_X12_fall_30, e_X12_fall_31, e_X12_fall_32, e_X12_fall_35, e_X12_fall_36, e_X12_fall_37, e_X12_fall_38, e_X12_fall_41, e_X12_fall_44, e_X12_fall_45, e_X12_fall_46, e_X12_fall_47, e_X12_fall_50, hc, q, z0, q2, ne10, if_pos c1]
  by_cases c2 : nI 999 < t
  · have q2 := fun hh : xH => m_inF (X := X) (h := hh) (x := t) (lo := 0) (hi := nI 999) (Or.inr c2)
    simp (disch := first | exact xnl_i _ | exact xnl_r _ | exact xnl_u _ | exact xnl_n | exact zI_2 | exact zI_24 | assumption | omega | (simp only [xset_len]; omega)) only [↓reduceIte, xbd_s, xpv_n, xpv_s, e_X12_fall_0, e_X12_fall_1, e_X12_fall_2, c_X12_fall_167_11_0, c_X12_fall_157_11_0, c_X12_fall_164_11_0, e_X12_fall_5, e_X12_fall_8, e_X12_fall_9, e_X12_fall_10, e_X12_fall_13, e_X12_fall_16, e_X12_fall_19, e_X12_fall_20, e_X12_fall_21, e_X12_fall_22, e_X12_fall_25, e_X12_fall_28, e_X12_fall_30, e_X12_fall_31, e_X12_fall_32, e_X12_fall_35, e_X12_fall_36, e_X12_fall_37, e_X12_fall_38, e_X12_fall_41, e_X12_fall_44, e_X12_fall_45, e_X12_fall_46, e_X12_fall_47, e_X12_fall_50, hc, q, z0, q2, ne10, if_neg c1, if_pos c2]
  have q2 := fun hh : xH => m_inT (X := X) (h := hh) (x := t) (lo := 0) (hi := nI 999) c1 c2
  by_cases c3 : w = 0
  · subst c3
    have q5 := fun hh : xH => m_inT (X := X) (h := hh) (x := 0) (lo := 0) (hi := 1) (by decide) (by decide)
    simp (disch := first | exact xnl_i _ | exact xnl_r _ | exact xnl_u _ | exact xnl_n | exact zI_2 | exact zI_24 | assumption | omega | (simp only [xset_len]; omega)) only [↓reduceIte, xbd_s, xpv_n, xpv_s, e_X12_fall_0, e_X12_fall_1, e_X12_fall_2, c_X12_fall_167_11_0, c_X12_fall_157_11_0, c_X12_fall_164_11_0, e_X12_fall_5, e_X12_fall_8, e_X12_fall_9, e_X12_fall_10, e_X12_fall_13, e_X12_fall_16, e_X12_fall_19, e_X12_fall_20, e_X12_fall_21, e_X12_fall_22, e_X12_fall_25, e_X12_fall_28, e_X12_fall_30, e_X12_fall_31, e_X12_fall_32, e_X12_fall_35, e_X12_fall_36, e_X12_fall_37, e_X12_fall_38, e_X12_fall_41, e_X12_fall_44, e_X12_fall_45, e_X12_fall_46, e_X12_fall_47, e_X12_fall_50, hc, q, z0, z1, q2, q5, ne10, if_neg c1, if_neg c2, q3]
  by_cases c4 : w = 1
  · subst c4
    have q5 := fun hh : xH => m_inT (X := X) (h := hh) (x := 1) (lo := 0) (hi := 1) (by decide) (by decide)
    simp (disch := first | exact xnl_i _ | exact xnl_r _ | exact xnl_u _ | exact xnl_n | exact zI_2 | exact zI_24 | assumption | omega | (simp only [xset_len]; omega)) only [↓reduceIte, xbd_s, xpv_n, xpv_s, e_X12_fall_0, e_X12_fall_1, e_X12_fall_2, c_X12_fall_167_11_0, c_X12_fall_157_11_0, c_X12_fall_164_11_0, e_X12_fall_5, e_X12_fall_8, e_X12_fall_9, e_X12_fall_10, e_X12_fall_13, e_X12_fall_16, e_X12_fall_19, e_X12_fall_20, e_X12_fall_21, e_X12_fall_22, e_X12_fall_25, e_X12_fall_28, e_X12_fall_30, e_X12_fall_31, e_X12_fall_32, e_X12_fall_35, e_X12_fall_36, e_X12_fall_37, e_X12_fall_38, e_X12_fall_41, e_X12_fall_44, e_X12_fall_45, e_X12_fall_46, e_X12_fall_47, e_X12_fall_50, hc, q, z0, z1, q2, q5, ne10, if_neg c1, if_neg c2, q4]
  · have e : w.toInt < 0 ∨ 1 < w.toInt := sw_out (c := 1) (by omega) (by
      intro j hj
      rcases j with _ | _ | j
      · exact c3
      · exact c4
      · omega)
    have b0 : (0 : Int32).toInt = 0 := by decide
    have b1 : (1 : Int32).toInt = 1 := by decide
    have q5 := fun hh : xH => m_inF (X := X) (h := hh) (x := w) (lo := 0) (hi := 1) (by rw [xlt_i, xlt_i]; omega)
    simp (disch := first | exact xnl_i _ | exact xnl_r _ | exact xnl_u _ | exact xnl_n | exact zI_2 | exact zI_24 | assumption | omega | (simp only [xset_len]; omega)) only [↓reduceIte, xbd_s, xpv_n, xpv_s, e_X12_fall_0, e_X12_fall_1, e_X12_fall_2, c_X12_fall_167_11_0, c_X12_fall_157_11_0, c_X12_fall_164_11_0, e_X12_fall_5, e_X12_fall_8, e_X12_fall_9, e_X12_fall_10, e_X12_fall_13, e_X12_fall_16, e_X12_fall_19, e_X12_fall_20, e_X12_fall_21, e_X12_fall_22, e_X12_fall_25, e_X12_fall_28, e_X12_fall_30, e_X12_fall_31, e_X12_fall_32, e_X12_fall_35, e_X12_fall_36, e_X12_fall_37, e_X12_fall_38, e_X12_fall_41, e_X12_fall_44, e_X12_fall_45, e_X12_fall_46, e_X12_fall_47, e_X12_fall_50, hc, q, z0, z1, q2, q5, ne10, if_neg c1, if_neg c2, if_neg c3, if_neg c4]
end XMS
