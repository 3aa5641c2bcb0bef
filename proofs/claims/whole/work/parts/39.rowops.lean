/-! the class: row, set, copy, drop, feed, status, fault -/
def xCc (fi ta lf : Int32) (lib : Nat) (ol un : Int32) : xE := .inl (10, [.ref 17, .int fi, .ref 29, .int ta, .int lf, .ref lib, .ref 35, .int ol, .int un, .ref 156, .ref 167])
def xCB (X : xS) (h : xH) (fi ta lf : Int32) (lib : Nat) (ol un : Int32) : Prop := xget X h 16 = some (.inl (10, [.ref 17, .int fi, .ref 29, .int ta, .int lf, .ref lib, .ref 35, .int ol, .int un, .ref 156, .ref 167]))
section XRP
variable {X : xS} {h : xH} {fi ta lf ol un : Int32} {lib : Nat} {it : Nat → Nat → Int32} {la si : Nat → Int32}
theorem xCB_set {fi' ta' lf' ol' un' : Int32} {lib' : Nat} (hC : xCB X h fi ta lf lib ol un) : xCB X (xset h 16 (xCc fi' ta' lf' lib' ol' un')) fi' ta' lf' lib' ol' un' := xg_same (by omega) (xg_live (by omega) hC)
theorem xRW_fr {A : Nat → Prop} {h' : xH} (hR : xRW X h it la si) (hF : xFr X A h h') (hA : ∀ c, 17 ≤ c → c ≤ 28 → ¬ A c) : xRW X h' it la si := by
  obtain ⟨r0, ⟨g, r1, rg⟩, r2, r3, r4⟩ := hR
  exact ⟨(hF.2 _ (hA _ (by omega) (by omega))).trans r0, ⟨g, (hF.2 _ (hA _ (by omega) (by omega))).trans r1, rg⟩, (hF.2 _ (hA _ (by omega) (by omega))).trans r2, (hF.2 _ (hA _ (by omega) (by omega))).trans r3, fun r hr => (hF.2 _ (hA _ (by omega) (by omega))).trans (r4 r hr)⟩
theorem r_isRowT {q r : Nat} (hr : r < 8) : xR X m_X8_isRow 0 [.ref q, .int (nI r)] [] h = some (some (.int (nI 1)), h) := by
  have e1 : ¬ nI r < 0 := nI_pos (by omega)
  have e2 : nI r < nI 8 := nI_lt hr (by omega)
  rw [r_isRow, if_neg e1, if_pos e2]
theorem r_isRowF {q : Nat} {x : Int32} (hx : x < 0 ∨ ¬ x < nI 8) : xR X m_X8_isRow 0 [.ref q, .int x] [] h = some (some (.int 0), h) := by
  rw [r_isRow]
  by_cases c : x < 0
  · rw [if_pos c]; rfl
  · rw [if_neg c, if_neg (hx.resolve_left c)]; rfl
abbrev cBAD : Int32 := -1000001
abbrev cSTATE : Int32 := -1000002
abbrev cFULL : Int32 := -1000003
abbrev cFIND : Int32 := -1000010
theorem z1 : nI 1 = 1 := rfl
theorem z0 : nI 0 = 0 := rfl
theorem ne10 : ¬ (1 : Int32) = 0 := by decide
theorem r_rowX (hC : xCB X h fi ta lf lib ol un) (hR : xRW X h it la si) {x l n : Int32} (hx : (x < 0 ∨ ¬ x < nI 8) ∨ l < 0 ∨ ¬ l < nI 3 ∨ nI 40 < n) : xR X m_X11_row 0 [.ref 16, .int x, .int l, .int n] [] h = some (some (.int cBAD), h) := by
  have hc : xget X h 16 = _ := hC
  have r0 := hR.1
  by_cases c : x < 0 ∨ ¬ x < nI 8
  · have q := fun (p : Nat) (hh : xH) => r_isRowF (X := X) (h := hh) (q := p) c
    simp (disch := first | exact xnl_i _ | exact xnl_r _ | exact xnl_u _ | exact xnl_n | exact zI_2 | exact zI_24 | assumption | omega | (simp only [xset_len]; omega)) only [↓reduceIte, xbd_s, xpv_n, xpv_s, e_X11_row_0, e_X11_row_1, e_X11_row_4, e_X11_row_5, c_X11_row_43_7_0, c_X11_row_53_7_0, e_X11_row_8, e_X11_row_11, e_X11_row_12, e_X11_row_15, e_X11_row_16, e_X11_row_17, e_X11_row_20, e_X11_row_21, e_X11_row_23, e_X11_row_26, e_X11_row_28, e_X11_row_29, e_X11_row_30, e_X11_row_31, e_X11_row_34, e_X11_row_35, e_X11_row_38, e_X11_row_39, e_X11_row_42, e_X11_row_43, e_X11_row_46, e_X11_row_49, e_X11_row_51, e_X11_row_52, e_X11_row_55, e_X11_row_56, e_X11_row_57, e_X11_row_58, e_X11_row_61, e_X11_row_62, e_X11_row_63, e_X11_row_64, e_X11_row_67, e_X11_row_68, g_11_10_10, g_11_48_10, p_11_48_10, hc, r0, q]
  · have q : ∀ hh : xH, xR X m_X8_isRow 0 [.ref 17, .int x] [] hh = some (some (.int (nI 1)), hh) := by
      intro hh
      rw [r_isRow, if_neg (fun e => c (Or.inl e)), if_pos (Classical.byContradiction fun e => c (Or.inr e))]
    have c2 := hx.resolve_left c
    simp (disch := first | exact xnl_i _ | exact xnl_r _ | exact xnl_u _ | exact xnl_n | exact zI_2 | exact zI_24 | assumption | omega | (simp only [xset_len]; omega)) only [↓reduceIte, xbd_s, xpv_n, xpv_s, e_X11_row_0, e_X11_row_1, e_X11_row_4, e_X11_row_5, c_X11_row_43_7_0, c_X11_row_53_7_0, e_X11_row_8, e_X11_row_11, e_X11_row_12, e_X11_row_15, e_X11_row_16, e_X11_row_17, e_X11_row_20, e_X11_row_21, e_X11_row_23, e_X11_row_29, e_X11_row_30, e_X11_row_31, e_X11_row_34, e_X11_row_35, e_X11_row_38, e_X11_row_39, e_X11_row_42, e_X11_row_43, e_X11_row_46, e_X11_row_49, e_X11_row_51, e_X11_row_52, e_X11_row_55, e_X11_row_56, e_X11_row_57, e_X11_row_58, e_X11_row_61, e_X11_row_62, e_X11_row_63, e_X11_row_64, e_X11_row_67, e_X11_row_68, g_11_10_10, g_11_48_10, p_11_48_10, hc, r0, q, z1, ne10]
    have e26 : xR X m_X11_row 26 [.ref 16, .int x, .int l, .int n] [] h = some (some (.int cBAD), h) := by simp (disch := first | exact xnl_i _ | exact xnl_r _ | exact xnl_u _ | exact xnl_n | exact zI_2 | exact zI_24 | assumption | omega | (simp only [xset_len]; omega)) only [↓reduceIte, xbd_s, xpv_n, xpv_s, e_X11_row_0, e_X11_row_1, e_X11_row_4, e_X11_row_5, c_X11_row_43_7_0, c_X11_row_53_7_0, e_X11_row_8, e_X11_row_11, e_X11_row_12, e_X11_row_15, e_X11_row_16, e_X11_row_17, e_X11_row_20, e_X11_row_21, e_X11_row_23, e_X11_row_26, e_X11_row_28, e_X11_row_29, e_X11_row_30, e_X11_row_31, e_X11_row_34, e_X11_row_35, e_X11_row_38, e_X11_row_39, e_X11_row_42, e_X11_row_43, e_X11_row_46, e_X11_row_49, e_X11_row_51, e_X11_row_52, e_X11_row_55, e_X11_row_56, e_X11_row_57, e_X11_row_58, e_X11_row_61, e_X11_row_62, e_X11_row_63, e_X11_row_64, e_X11_row_67, e_X11_row_68, g_11_10_10, g_11_48_10, p_11_48_10]
    by_cases c3 : l < 0
    · rw [if_pos c3, e26]
    · rw [if_neg c3]
      by_cases c4 : l < nI 3
      · rw [if_pos c4, if_pos ((c2.resolve_left c3).resolve_left (fun e => e c4)), e26]
      · rw [if_neg c4, e26]
theorem r_rowN (hC : xCB X h fi ta lf lib ol un) (hR : xRW X h it la si) {r : Nat} {l n : Int32} (hr : r < 8) (hl : ¬ l < 0) (hl2 : l < nI 3) (hn : n < 0) : xR X m_X11_row 0 [.ref 16, .int (nI r), .int l, .int n] [] h = some (some (.int (cFIND - nI 4)), xset h 16 (xCc (nI 4) ta lf lib ol un)) := by
  have hc : xget X h 16 = _ := hC
  have lv := xg_live (by omega) hc
  have r0 := hR.1
  have q := fun hh : xH => r_isRowT (X := X) (h := hh) (q := 17) hr
  have e4 : ¬ nI 40 < n := by
    rw [xlt_i] at hn ⊢
    rw [xti0] at hn
    rw [nI_toInt (by omega)]
    omega
  have e5 : ¬ nI 4 = 0 := by decide
  simp (disch := first | exact xnl_i _ | exact xnl_r _ | exact xnl_u _ | exact xnl_n | exact zI_2 | exact zI_24 | assumption | omega | (simp only [xset_len]; omega)) only [↓reduceIte, xbd_s, xpv_n, xpv_s, e_X11_row_0, e_X11_row_1, e_X11_row_4, e_X11_row_5, c_X11_row_43_7_0, c_X11_row_53_7_0, e_X11_row_8, e_X11_row_11, e_X11_row_12, e_X11_row_15, e_X11_row_16, e_X11_row_17, e_X11_row_20, e_X11_row_21, e_X11_row_23, e_X11_row_26, e_X11_row_28, e_X11_row_29, e_X11_row_30, e_X11_row_31, e_X11_row_34, e_X11_row_35, e_X11_row_38, e_X11_row_39, e_X11_row_42, e_X11_row_43, e_X11_row_46, e_X11_row_49, e_X11_row_51, e_X11_row_52, e_X11_row_55, e_X11_row_56, e_X11_row_57, e_X11_row_58, e_X11_row_61, e_X11_row_62, e_X11_row_63, e_X11_row_64, e_X11_row_67, e_X11_row_68, g_11_10_10, g_11_48_10, p_11_48_10, hc, r0, q, z1, ne10, hl, hl2, hn, e4, e5, xg_same]
  rfl
theorem r_rowG (hC : xCB X h fi ta lf lib ol un) (hR : xRW X h it la si) {r : Nat} {l n : Int32} (hr : r < 8) (hl : ¬ l < 0) (hl2 : l < nI 3) (hn : ¬ n < 0) (hn2 : ¬ nI 40 < n) : ∃ h' f', xR X m_X11_row 0 [.ref 16, .int (nI r), .int l, .int n] [] h = some (some (.int n), h') ∧ xCB X h' (nI 0) ta lf lib ol un ∧ xRW X h' (fun q => if q = r then f' else it q) (upd la r l) (upd si r n) ∧ (∀ j, j < 40 → f' j = nI 0) ∧ xFr X (fun c => 16 ≤ c ∧ c ≤ 28) h h' := by
  have hc : xget X h 16 = _ := hC
  have lv := xg_live (by omega) hc
  have q := fun hh : xH => r_isRowT (X := X) (h := hh) (q := 17) hr
  have f1 : xFr X (fun c => c = 16) h (xset h 16 (xCc (nI 0) ta lf lib ol un)) := xFr_set (by omega) rfl
  have hR1 := xRW_fr hR f1 (by omega)
  have hC1 : xCB X (xset h 16 (xCc (nI 0) ta lf lib ol un)) (nI 0) ta lf lib ol un := xCB_set hC
  obtain ⟨h', f', e1, e2, e3, e4⟩ := r_lay hR1 hr l n
  refine ⟨h', f', ?_, (e4.2 16 (by omega)).trans hC1, e2, e3, xFr_tr (xFr_mo f1 (by omega)) (xFr_mo e4 (by omega))⟩
  unfold xCc at e1
  have r0 := hR1.1
  have r00 := hR.1
  unfold xCc at r0
  have e5 : nI 0 = 0 := rfl
  rw [e5] at e1 r0
  simp (disch := first | exact xnl_i _ | exact xnl_r _ | exact xnl_u _ | exact xnl_n | exact zI_2 | exact zI_24 | assumption | omega | (simp only [xset_len]; omega)) only [↓reduceIte, xbd_s, xpv_n, xpv_s, e_X11_row_0, e_X11_row_1, e_X11_row_4, e_X11_row_5, c_X11_row_43_7_0, c_X11_row_53_7_0, e_X11_row_8, e_X11_row_11, e_X11_row_12, e_X11_row_15, e_X11_row_16, e_X11_row_17, e_X11_row_20, e_X11_row_21, e_X11_row_23, e_X11_row_26, e_X11_row_28, e_X11_row_29, e_X11_row_30, e_X11_row_31, e_X11_row_34, e_X11_row_35, e_X11_row_38, e_X11_row_39, e_X11_row_42, e_X11_row_43, e_X11_row_46, e_X11_row_49, e_X11_row_51, e_X11_row_52, e_X11_row_55, e_X11_row_56, e_X11_row_57, e_X11_row_58, e_X11_row_61, e_X11_row_62, e_X11_row_63, e_X11_row_64, e_X11_row_67, e_X11_row_68, g_11_10_10, g_11_48_10, p_11_48_10, hc, q, z1, ne10, hl, hl2, hn, hn2, e5, xg_same, r00, r0, e1]
theorem r_setX (hC : xCB X h fi ta lf lib ol un) (hR : xRW X h it la si) {x i v : Int32} (hx : x < 0 ∨ ¬ x < nI 8) : xR X m_X11_set 0 [.ref 16, .int x, .int i, .int v] [] h = some (some (.int cBAD), h) := by
  have hc : xget X h 16 = _ := hC
  have r0 := hR.1
  have q := fun (p : Nat) (hh : xH) => r_isRowF (X := X) (h := hh) (q := p) hx
  simp (disch := first | exact xnl_i _ | exact xnl_r _ | exact xnl_u _ | exact xnl_n | exact zI_2 | exact zI_24 | assumption | omega | (simp only [xset_len]; omega)) only [↓reduceIte, xbd_s, xpv_n, xpv_s, e_X11_set_0, e_X11_set_1, e_X11_set_4, e_X11_set_5, c_X11_set_43_7_0, c_X11_set_57_7_1, c_X11_set_61_7_0, e_X11_set_8, e_X11_set_11, e_X11_set_13, e_X11_set_14, e_X11_set_15, e_X11_set_16, e_X11_set_19, e_X11_set_20, e_X11_set_21, e_X11_set_22, e_X11_set_25, e_X11_set_28, e_X11_set_29, e_X11_set_32, e_X11_set_35, e_X11_set_37, e_X11_set_38, e_X11_set_41, e_X11_set_42, e_X11_set_45, e_X11_set_46, e_X11_set_49, e_X11_set_50, e_X11_set_51, e_X11_set_52, e_X11_set_55, g_11_10_10, g_11_48_10, p_11_48_10, hc, r0, q]
theorem r_setF (hC : xCB X h fi ta lf lib ol un) (hR : xRW X h it la si) {r : Nat} {i v : Int32} (hr : r < 8) (hf : ¬ fiA (si r) i (nI 1) = 0) : xR X m_X11_set 0 [.ref 16, .int (nI r), .int i, .int v] [] h = some (some (.int (cFIND - fiA (si r) i (nI 1))), xset h 16 (xCc (fiA (si r) i (nI 1)) ta lf lib ol un)) := by
  have hc : xget X h 16 = _ := hC
  have lv := xg_live (by omega) hc
  have r0 := hR.1
  have q := fun hh : xH => r_isRowT (X := X) (h := hh) (q := 17) hr
  have q2 := r_findingAt hR hr i (nI 1)
  rw [z1] at q2 hf ⊢
  simp (disch := first | exact xnl_i _ | exact xnl_r _ | exact xnl_u _ | exact xnl_n | exact zI_2 | exact zI_24 | assumption | omega | (simp only [xset_len]; omega)) only [↓reduceIte, xbd_s, xpv_n, xpv_s, e_X11_set_0, e_X11_set_1, e_X11_set_4, e_X11_set_5, c_X11_set_43_7_0, c_X11_set_57_7_1, c_X11_set_61_7_0, e_X11_set_8, e_X11_set_11, e_X11_set_13, e_X11_set_14, e_X11_set_15, e_X11_set_16, e_X11_set_19, e_X11_set_20, e_X11_set_21, e_X11_set_22, e_X11_set_25, e_X11_set_28, e_X11_set_29, e_X11_set_32, e_X11_set_35, e_X11_set_37, e_X11_set_38, e_X11_set_41, e_X11_set_42, e_X11_set_45, e_X11_set_46, e_X11_set_49, e_X11_set_50, e_X11_set_51, e_X11_set_52, e_X11_set_55, g_11_10_10, g_11_48_10, p_11_48_10, hc, r0, q, q2, z1, ne10, hf, xg_same]
  rfl
theorem r_setG (hC : xCB X h fi ta lf lib ol un) (hR : xRW X h it la si) {r i : Nat} {v : Int32} (hr : r < 8) (hi : i < 40) (hf : fiA (si r) (nI i) (nI 1) = 0) : ∃ h', xR X m_X11_set 0 [.ref 16, .int (nI r), .int (nI i), .int v] [] h = some (some (.int (kpS (la r) v)), h') ∧ xCB X h' 0 ta lf lib ol un ∧ xRW X h' (fun q => if q = r then upd (it r) i (kpS (la r) v) else it q) la si ∧ xFr X (fun c => 16 ≤ c ∧ c ≤ 28) h h' := by
  have hc : xget X h 16 = _ := hC
  have lv := xg_live (by omega) hc
  have r0 := hR.1
  have q := fun hh : xH => r_isRowT (X := X) (h := hh) (q := 17) hr
  have q2 := r_findingAt hR hr (nI i) (nI 1)
  have f1 : xFr X (fun c => c = 16) h (xset h 16 (xCc 0 ta lf lib ol un)) := xFr_set (by omega) rfl
  have hR1 := xRW_fr hR f1 (by omega)
  have hC1 : xCB X (xset h 16 (xCc 0 ta lf lib ol un)) 0 ta lf lib ol un := xCB_set hC
  have e1 := r_put hR1 hr hi v
  have lr := xg_live (by omega) (hR.2.2.2.2 r hr)
  have f2 : xFr X (fun c => c = 19 + r) _ (xset (xset h 16 (xCc 0 ta lf lib ol un)) (19 + r) (.inr ((0, 40), .inl (upd (it r) i (kpS (la r) v))))) := xFr_set (by omega) rfl
  refine ⟨_, ?_, (f2.2 16 (by omega)).trans hC1, ⟨?_, ?_, ?_, ?_, ?_⟩, xFr_tr (xFr_mo f1 (by omega)) (xFr_mo f2 (by omega))⟩
  · rw [hf] at q2
    have r01 := hR1.1
    unfold xCc at e1 r01
    rw [z1] at q2
    simp (disch := first | exact xnl_i _ | exact xnl_r _ | exact xnl_u _ | exact xnl_n | exact zI_2 | exact zI_24 | assumption | omega | (simp only [xset_len]; omega)) only [↓reduceIte, xbd_s, xpv_n, xpv_s, e_X11_set_0, e_X11_set_1, e_X11_set_4, e_X11_set_5, c_X11_set_43_7_0, c_X11_set_57_7_1, c_X11_set_61_7_0, e_X11_set_8, e_X11_set_11, e_X11_set_13, e_X11_set_14, e_X11_set_15, e_X11_set_16, e_X11_set_19, e_X11_set_20, e_X11_set_21, e_X11_set_22, e_X11_set_25, e_X11_set_28, e_X11_set_29, e_X11_set_32, e_X11_set_35, e_X11_set_37, e_X11_set_38, e_X11_set_41, e_X11_set_42, e_X11_set_45, e_X11_set_46, e_X11_set_49, e_X11_set_50, e_X11_set_51, e_X11_set_52, e_X11_set_55, g_11_10_10, g_11_48_10, p_11_48_10, hc, r0, q, q2, z1, ne10, xg_same, r01, e1]
    rfl
  · exact (f2.2 _ (by omega)).trans hR1.1
  · obtain ⟨g, g1, g2⟩ := hR1.2.1
    exact ⟨g, (f2.2 _ (by omega)).trans g1, g2⟩
  · exact (f2.2 _ (by omega)).trans hR1.2.2.1
  · exact (f2.2 _ (by omega)).trans hR1.2.2.2.1
  · intro q hq
    dsimp only
    by_cases c : q = r
    · rw [if_pos c, c]
      exact xg_same (by omega) (by rw [xset_len]; omega)
    · rw [if_neg c]
      exact (f2.2 _ (by omega)).trans (hR1.2.2.2.2 q hq)
theorem r_dropX (hC : xCB X h fi ta lf lib ol un) (hR : xRW X h it la si) {x : Int32} (hx : x < 0 ∨ ¬ x < nI 8) : xR X m_X11_drop 0 [.ref 16, .int x] [] h = some (some (.int cBAD), h) := by
  have hc : xget X h 16 = _ := hC
  have r0 := hR.1
  have q := fun (p : Nat) (hh : xH) => r_isRowF (X := X) (h := hh) (q := p) hx
  simp (disch := first | exact xnl_i _ | exact xnl_r _ | exact xnl_u _ | exact xnl_n | exact zI_2 | exact zI_24 | assumption | omega | (simp only [xset_len]; omega)) only [↓reduceIte, xbd_s, xpv_n, xpv_s, e_X11_drop_0, e_X11_drop_1, e_X11_drop_4, e_X11_drop_5, c_X11_drop_43_7_0, c_X11_drop_72_7_1, c_X11_drop_75_7_0, e_X11_drop_8, e_X11_drop_11, e_X11_drop_13, e_X11_drop_14, e_X11_drop_15, e_X11_drop_16, e_X11_drop_19, e_X11_drop_20, e_X11_drop_23, e_X11_drop_26, e_X11_drop_27, e_X11_drop_30, e_X11_drop_31, e_X11_drop_34, e_X11_drop_35, e_X11_drop_38, e_X11_drop_41, e_X11_drop_43, e_X11_drop_44, e_X11_drop_47, e_X11_drop_48, e_X11_drop_51, e_X11_drop_52, e_X11_drop_55, e_X11_drop_56, e_X11_drop_59, g_11_10_10, g_11_48_10, p_11_48_10, hc, r0, q]
theorem r_dropF (hC : xCB X h fi ta lf lib ol un) (hR : xRW X h it la si) {r : Nat} (hr : r < 8) (hf : si r < 0) : xR X m_X11_drop 0 [.ref 16, .int (nI r)] [] h = some (some (.int (cFIND - 1)), xset h 16 (xCc 1 ta lf lib ol un)) := by
  have hc : xget X h 16 = _ := hC
  have lv := xg_live (by omega) hc
  have r0 := hR.1
  have q := fun hh : xH => r_isRowT (X := X) (h := hh) (q := 17) hr
  have q2 := r_isMissing hR hr
  rw [if_pos hf] at q2
  simp (disch := first | exact xnl_i _ | exact xnl_r _ | exact xnl_u _ | exact xnl_n | exact zI_2 | exact zI_24 | assumption | omega | (simp only [xset_len]; omega)) only [↓reduceIte, xbd_s, xpv_n, xpv_s, e_X11_drop_0, e_X11_drop_1, e_X11_drop_4, e_X11_drop_5, c_X11_drop_43_7_0, c_X11_drop_72_7_1, c_X11_drop_75_7_0, e_X11_drop_8, e_X11_drop_11, e_X11_drop_13, e_X11_drop_14, e_X11_drop_15, e_X11_drop_16, e_X11_drop_19, e_X11_drop_20, e_X11_drop_23, e_X11_drop_26, e_X11_drop_27, e_X11_drop_30, e_X11_drop_31, e_X11_drop_34, e_X11_drop_35, e_X11_drop_38, e_X11_drop_41, e_X11_drop_43, e_X11_drop_44, e_X11_drop_47, e_X11_drop_48, e_X11_drop_51, e_X11_drop_52, e_X11_drop_55, e_X11_drop_56, e_X11_drop_59, g_11_10_10, g_11_48_10, p_11_48_10, hc, r0, q, q2, z1, ne10, xg_same]
  rfl
theorem r_dropG (hC : xCB X h fi ta lf lib ol un) (hR : xRW X h it la si) {r : Nat} (hr : r < 8) (hf : ¬ si r < 0) : ∃ h', xR X m_X11_drop 0 [.ref 16, .int (nI r)] [] h = some (some (.int (si r)), h') ∧ xCB X h' 0 ta lf lib ol un ∧ xRW X h' it la (upd si r (-1)) ∧ xFr X (fun c => 16 ≤ c ∧ c ≤ 28) h h' := by
  have hc : xget X h 16 = _ := hC
  have lv := xg_live (by omega) hc
  have r0 := hR.1
  have q := fun hh : xH => r_isRowT (X := X) (h := hh) (q := 17) hr
  have q2 := r_isMissing hR hr
  rw [if_neg hf] at q2
  have f1 : xFr X (fun c => c = 16) h (xset h 16 (xCc 0 ta lf lib ol un)) := xFr_set (by omega) rfl
  have hR1 := xRW_fr hR f1 (by omega)
  have hC1 : xCB X (xset h 16 (xCc 0 ta lf lib ol un)) 0 ta lf lib ol un := xCB_set hC
  have e1 := r_remove hR1 hr
  have l3 := xg_live (by omega) hR.2.2.2.1
  have f2 : xFr X (fun c => c = 28) _ (xset (xset h 16 (xCc 0 ta lf lib ol un)) 28 (.inr ((0, 8), .inl (upd si r (-1))))) := xFr_set (by omega) rfl
  refine ⟨_, ?_, (f2.2 16 (by omega)).trans hC1, ⟨?_, ?_, ?_, ?_, ?_⟩, xFr_tr (xFr_mo f1 (by omega)) (xFr_mo f2 (by omega))⟩
  · have r01 := hR1.1
    unfold xCc at e1 r01
    rw [z0] at q2
    simp (disch := first | exact xnl_i _ | exact xnl_r _ | exact xnl_u _ | exact xnl_n | exact zI_2 | exact zI_24 | assumption | omega | (simp only [xset_len]; omega)) only [↓reduceIte, xbd_s, xpv_n, xpv_s, e_X11_drop_0, e_X11_drop_1, e_X11_drop_4, e_X11_drop_5, c_X11_drop_43_7_0, c_X11_drop_72_7_1, c_X11_drop_75_7_0, e_X11_drop_8, e_X11_drop_11, e_X11_drop_13, e_X11_drop_14, e_X11_drop_15, e_X11_drop_16, e_X11_drop_19, e_X11_drop_20, e_X11_drop_23, e_X11_drop_26, e_X11_drop_27, e_X11_drop_30, e_X11_drop_31, e_X11_drop_34, e_X11_drop_35, e_X11_drop_38, e_X11_drop_41, e_X11_drop_43, e_X11_drop_44, e_X11_drop_47, e_X11_drop_48, e_X11_drop_51, e_X11_drop_52, e_X11_drop_55, e_X11_drop_56, e_X11_drop_59, g_11_10_10, g_11_48_10, p_11_48_10, hc, r0, q, q2, z1, z0, ne10, xg_same, r01, e1]
    rfl
  · exact (f2.2 _ (by omega)).trans hR1.1
  · obtain ⟨g, g1, g2⟩ := hR1.2.1
    exact ⟨g, (f2.2 _ (by omega)).trans g1, g2⟩
  · exact (f2.2 _ (by omega)).trans hR1.2.2.1
  · exact xg_same (by omega) (by rw [xset_len]; omega)
  · intro q hq
    exact (f2.2 _ (by omega)).trans (hR1.2.2.2.2 q hq)
theorem r_status (hC : xCB X h fi ta lf lib ol un) : xR X m_X11_status 0 [.ref 16] [] h = some (some (.int fi), h) := by
  have hc : xget X h 16 = _ := hC
  simp (disch := first | exact xnl_i _ | exact xnl_r _ | exact xnl_u _ | exact xnl_n | exact zI_2 | exact zI_24 | assumption | omega | (simp only [xset_len]; omega)) only [↓reduceIte, xbd_s, xpv_n, xpv_s, e_X11_status_0, e_X11_status_1, e_X11_status_4, g_11_48_10, hc]
theorem r_fault (hC : xCB X h fi ta lf lib ol un) : xR X m_X11_fault 0 [.ref 16] [] h = some (some (.int lf), h) := by
  have hc : xget X h 16 = _ := hC
  simp (disch := first | exact xnl_i _ | exact xnl_r _ | exact xnl_u _ | exact xnl_n | exact zI_2 | exact zI_24 | assumption | omega | (simp only [xset_len]; omega)) only [↓reduceIte, xbd_s, xpv_n, xpv_s, e_X11_fault_0, e_X11_fault_1, e_X11_fault_4, g_11_95_10, hc]
theorem r_copyX (hC : xCB X h fi ta lf lib ol un) (hR : xRW X h it la si) {x i y j n : Int32} (hx : (x < 0 ∨ ¬ x < nI 8) ∨ (y < 0 ∨ ¬ y < nI 8)) : xR X m_X11_copy 0 [.ref 16, .int x, .int i, .int y, .int j, .int n] [] h = some (some (.int cBAD), h) := by
  have hc : xget X h 16 = _ := hC
  have r0 := hR.1
  by_cases c : x < 0 ∨ ¬ x < nI 8
  · have q := fun (p : Nat) (hh : xH) => r_isRowF (X := X) (h := hh) (q := p) c
    simp (disch := first | exact xnl_i _ | exact xnl_r _ | exact xnl_u _ | exact xnl_n | exact zI_2 | exact zI_24 | assumption | omega | (simp only [xset_len]; omega)) only [↓reduceIte, xbd_s, xpv_n, xpv_s, e_X11_copy_0, e_X11_copy_1, e_X11_copy_4, e_X11_copy_5, c_X11_copy_43_7_0, c_X11_copy_64_7_1, c_X11_copy_68_7_0, e_X11_copy_8, e_X11_copy_11, e_X11_copy_12, e_X11_copy_15, e_X11_copy_16, e_X11_copy_19, e_X11_copy_22, e_X11_copy_24, e_X11_copy_25, e_X11_copy_26, e_X11_copy_27, e_X11_copy_30, e_X11_copy_31, e_X11_copy_32, e_X11_copy_33, e_X11_copy_35, e_X11_copy_37, e_X11_copy_40, e_X11_copy_43, e_X11_copy_44, e_X11_copy_47, e_X11_copy_50, e_X11_copy_52, e_X11_copy_53, e_X11_copy_56, e_X11_copy_57, e_X11_copy_58, e_X11_copy_59, e_X11_copy_62, e_X11_copy_63, e_X11_copy_64, e_X11_copy_65, e_X11_copy_67, e_X11_copy_69, e_X11_copy_72, e_X11_copy_74, g_11_10_10, g_11_48_10, p_11_48_10, hc, r0, q]
  · have q : ∀ hh : xH, xR X m_X8_isRow 0 [.ref 17, .int x] [] hh = some (some (.int (nI 1)), hh) := by
      intro hh
      rw [r_isRow, if_neg (fun e => c (Or.inl e)), if_pos (Classical.byContradiction fun e => c (Or.inr e))]
    have q2 := fun (p : Nat) (hh : xH) => r_isRowF (X := X) (h := hh) (q := p) (hx.resolve_left c)
    simp (disch := first | exact xnl_i _ | exact xnl_r _ | exact xnl_u _ | exact xnl_n | exact zI_2 | exact zI_24 | assumption | omega | (simp only [xset_len]; omega)) only [↓reduceIte, xbd_s, xpv_n, xpv_s, e_X11_copy_0, e_X11_copy_1, e_X11_copy_4, e_X11_copy_5, c_X11_copy_43_7_0, c_X11_copy_64_7_1, c_X11_copy_68_7_0, e_X11_copy_8, e_X11_copy_11, e_X11_copy_12, e_X11_copy_15, e_X11_copy_16, e_X11_copy_19, e_X11_copy_22, e_X11_copy_24, e_X11_copy_25, e_X11_copy_26, e_X11_copy_27, e_X11_copy_30, e_X11_copy_31, e_X11_copy_32, e_X11_copy_33, e_X11_copy_35, e_X11_copy_37, e_X11_copy_40, e_X11_copy_43, e_X11_copy_44, e_X11_copy_47, e_X11_copy_50, e_X11_copy_52, e_X11_copy_53, e_X11_copy_56, e_X11_copy_57, e_X11_copy_58, e_X11_copy_59, e_X11_copy_62, e_X11_copy_63, e_X11_copy_64, e_X11_copy_65, e_X11_copy_67, e_X11_copy_69, e_X11_copy_72, e_X11_copy_74, g_11_10_10, g_11_48_10, p_11_48_10, hc, r0, q, q2, z1, ne10]
theorem r_copyF (hC : xCB X h fi ta lf lib ol un) (hR : xRW X h it la si) {r s : Nat} {i j n : Int32} (hr : r < 8) (hs : s < 8) (hf : ¬ fiB (si r) (si s) (la r) (la s) i j n = 0) : xR X m_X11_copy 0 [.ref 16, .int (nI r), .int i, .int (nI s), .int j, .int n] [] h = some (some (.int (cFIND - fiB (si r) (si s) (la r) (la s) i j n)), xset h 16 (xCc (fiB (si r) (si s) (la r) (la s) i j n) ta lf lib ol un)) := by
  have hc : xget X h 16 = _ := hC
  have lv := xg_live (by omega) hc
  have r0 := hR.1
  have q := fun hh : xH => r_isRowT (X := X) (h := hh) (q := 17) hr
  have q1 := fun hh : xH => r_isRowT (X := X) (h := hh) (q := 17) hs
  have q2 := r_findingBetween hR hr hs i j n
  simp (disch := first | exact xnl_i _ | exact xnl_r _ | exact xnl_u _ | exact xnl_n | exact zI_2 | exact zI_24 | assumption | omega | (simp only [xset_len]; omega)) only [↓reduceIte, xbd_s, xpv_n, xpv_s, e_X11_copy_0, e_X11_copy_1, e_X11_copy_4, e_X11_copy_5, c_X11_copy_43_7_0, c_X11_copy_64_7_1, c_X11_copy_68_7_0, e_X11_copy_8, e_X11_copy_11, e_X11_copy_12, e_X11_copy_15, e_X11_copy_16, e_X11_copy_19, e_X11_copy_22, e_X11_copy_24, e_X11_copy_25, e_X11_copy_26, e_X11_copy_27, e_X11_copy_30, e_X11_copy_31, e_X11_copy_32, e_X11_copy_33, e_X11_copy_35, e_X11_copy_37, e_X11_copy_40, e_X11_copy_43, e_X11_copy_44, e_X11_copy_47, e_X11_copy_50, e_X11_copy_52, e_X11_copy_53, e_X11_copy_56, e_X11_copy_57, e_X11_copy_58, e_X11_copy_59, e_X11_copy_62, e_X11_copy_63, e_X11_copy_64, e_X11_copy_65, e_X11_copy_67, e_X11_copy_69, e_X11_copy_72, e_X11_copy_74, g_11_10_10, g_11_48_10, p_11_48_10, hc, r0, q, q1, q2, z1, ne10, hf, xg_same]
  rfl
theorem r_copyG (hC : xCB X h fi ta lf lib ol un) (hR : xRW X h it la si) {r s i j n : Nat} (hr : r < 8) (hs : s < 8) (hi : i + n ≤ 40) (hj : j + n ≤ 40) (hf : fiB (si r) (si s) (la r) (la s) (nI i) (nI j) (nI n) = 0) : ∃ h', xR X m_X11_copy 0 [.ref 16, .int (nI r), .int (nI i), .int (nI s), .int (nI j), .int (nI n)] [] h = some (some (.int (nI n)), h') ∧ xCB X h' 0 ta lf lib ol un ∧ xRW X h' (fun q => if q = s then (fun k => if j ≤ k ∧ k < j + n then it r (i + (k - j)) else it s k) else it q) la si ∧ xFr X (fun c => 16 ≤ c ∧ c ≤ 28) h h' := by
  have hc : xget X h 16 = _ := hC
  have lv := xg_live (by omega) hc
  have r0 := hR.1
  have q := fun hh : xH => r_isRowT (X := X) (h := hh) (q := 17) hr
  have q1 := fun hh : xH => r_isRowT (X := X) (h := hh) (q := 17) hs
  have q2 := r_findingBetween hR hr hs (nI i) (nI j) (nI n)
  have f1 : xFr X (fun c => c = 16) h (xset h 16 (xCc 0 ta lf lib ol un)) := xFr_set (by omega) rfl
  have hR1 := xRW_fr hR f1 (by omega)
  have hC1 : xCB X (xset h 16 (xCc 0 ta lf lib ol un)) 0 ta lf lib ol un := xCB_set hC
  have e1 := r_carry hR1 hr hs hi hj
  have lr := xg_live (by omega) (hR.2.2.2.2 s hs)
  have f2 : xFr X (fun c => c = 19 + s) _ (xset (xset h 16 (xCc 0 ta lf lib ol un)) (19 + s) (.inr ((0, 40), .inl (fun k => if j ≤ k ∧ k < j + n then it r (i + (k - j)) else it s k)))) := xFr_set (by omega) rfl
  refine ⟨_, ?_, (f2.2 16 (by omega)).trans hC1, ⟨?_, ?_, ?_, ?_, ?_⟩, xFr_tr (xFr_mo f1 (by omega)) (xFr_mo f2 (by omega))⟩
  · rw [hf] at q2
    have r01 := hR1.1
    unfold xCc at e1 r01
    simp (disch := first | exact xnl_i _ | exact xnl_r _ | exact xnl_u _ | exact xnl_n | exact zI_2 | exact zI_24 | assumption | omega | (simp only [xset_len]; omega)) only [↓reduceIte, xbd_s, xpv_n, xpv_s, e_X11_copy_0, e_X11_copy_1, e_X11_copy_4, e_X11_copy_5, c_X11_copy_43_7_0, c_X11_copy_64_7_1, c_X11_copy_68_7_0, e_X11_copy_8, e_X11_copy_11, e_X11_copy_12, e_X11_copy_15, e_X11_copy_16, e_X11_copy_19, e_X11_copy_22, e_X11_copy_24, e_X11_copy_25, e_X11_copy_26, e_X11_copy_27, e_X11_copy_30, e_X11_copy_31, e_X11_copy_32, e_X11_copy_33, e_X11_copy_35, e_X11_copy_37, e_X11_copy_40, e_X11_copy_43, e_X11_copy_44, e_X11_copy_47, e_X11_copy_50, e_X11_copy_52, e_X11_copy_53, e_X11_copy_56, e_X11_copy_57, e_X11_copy_58, e_X11_copy_59, e_X11_copy_62, e_X11_copy_63, e_X11_copy_64, e_X11_copy_65, e_X11_copy_67, e_X11_copy_69, e_X11_copy_72, e_X11_copy_74, g_11_10_10, g_11_48_10, p_11_48_10, hc, r0, q, q1, q2, z1, ne10, xg_same, r01, e1]
    rfl
  · exact (f2.2 _ (by omega)).trans hR1.1
  · obtain ⟨g, g1, g2⟩ := hR1.2.1
    exact ⟨g, (f2.2 _ (by omega)).trans g1, g2⟩
  · exact (f2.2 _ (by omega)).trans hR1.2.2.1
  · exact (f2.2 _ (by omega)).trans hR1.2.2.2.1
  · intro q hq
    dsimp only
    by_cases c : q = s
    · rw [if_pos c, c]
      exact xg_same (by omega) (by rw [xset_len]; omega)
    · rw [if_neg c]
      exact (f2.2 _ (by omega)).trans (hR1.2.2.2.2 q hq)
end XRP
