/-! the reference: take, change, dusts, undo, hours -/
def rmS (un : Nat) (st was : Nat → Int32) : Nat → Int32 := if un < 24 then xfold (rmF st un) 29 was else xfold (rmF st 23) 29 (xfold shF 667 was)
section XMN
variable {X : xS} {h : xH} {S : Nat → Int32} {nm : Int64} {A : Nat → Nat → Int32} {n m hr un : Nat}
theorem m_remT (hM : xMB X h S nm A) (hun : un ≤ 24) (hS : S 0 = nI un) : ∃ h', xR X m_X12_remembers 0 [.ref 169, xU] [] h = some (none, h') ∧ xMB X h' (upd S 0 (nI (kUn un))) nm (setA A 3 (rmS un (A 0) (A 3))) ∧ xFr X inM h h' := by
  obtain ⟨h', e1, e2, e3⟩ := m_remembers hM hun hS
  refine ⟨h', e1, ?_, e3⟩
  have e : (if un < 24 then un + 1 else 24) = kUn un := by
    unfold kUn
    split
    · rfl
    · omega
  rw [e] at e2
  exact e2
theorem m_takeX (hM : xMB X h S nm A) (hn : n ≤ 7) (hA : A 0 1 = nI n) {x : Int32} (y : Int32) (hx : x < 0 ∨ ¬ x < nI n) : xR X m_X12_take 0 [.ref 169, .int x, .int y, xU] [] h = some (some (.int cBAD), h) := by
  have q := m_isSpotF hM hn hA hx
  have hc := hM.1
  simp (disch := first | exact xnl_i _ | exact xnl_r _ | exact xnl_u _ | exact xnl_n | exact zI_2 | exact zI_24 | assumption | omega | (simp only [xset_len]; omega)) only [↓reduceIte, xbd_s, xpv_n, xpv_s, e_X12_take_0, e_X12_take_1, e_X12_take_2, c_X12_take_167_11_0, c_X12_take_154_11_0, e_X12_take_5, e_X12_take_8, e_X12_take_9, e_X12_take_10, e_X12_take_12, e_X12_take_15, e_X12_take_18, e_X12_take_20, e_X12_take_21, e_X12_take_22, e_X12_take_25, e_X12_take_27, e_X12_take_28, e_X12_take_29, e_X12_take_30, e_X12_take_33, e_X12_take_35, e_X12_take_36, e_X12_take_37, e_X12_take_40, e_X12_take_41, e_X12_take_44, e_X12_take_46, e_X12_take_47, e_X12_take_48, e_X12_take_49, e_X12_take_50, e_X12_take_51, e_X12_take_54, e_X12_take_56, e_X12_take_57, e_X12_take_58, e_X12_take_59, e_X12_take_60, e_X12_take_61, e_X12_take_64, e_X12_take_66, e_X12_take_67, e_X12_take_68, e_X12_take_69, e_X12_take_70, e_X12_take_71, g_12_7_11, hc, q]
theorem m_takeB (hM : xMB X h S nm A) (hn : n ≤ 7) (hA : A 0 1 = nI n) {s : Nat} (hs : s < n) {x : Int32} (hx : x < nI 1 ∨ nI 48 < x) : xR X m_X12_take 0 [.ref 169, .int (nI s), .int x, xU] [] h = some (some (.int cBAD), h) := by
  have q := m_isSpotT hM hn hA hs
  have q1 := fun hh : xH => m_inF (X := X) (h := hh) (x := x) (lo := nI 1) (hi := nI 48) hx
  have hc := hM.1
  simp (disch := first | exact xnl_i _ | exact xnl_r _ | exact xnl_u _ | exact xnl_n | exact zI_2 | exact zI_24 | assumption | omega | (simp only [xset_len]; omega)) only [↓reduceIte, xbd_s, xpv_n, xpv_s, e_X12_take_0, e_X12_take_1, e_X12_take_2, c_X12_take_167_11_0, c_X12_take_154_11_0, e_X12_take_5, e_X12_take_8, e_X12_take_9, e_X12_take_10, e_X12_take_12, e_X12_take_15, e_X12_take_18, e_X12_take_20, e_X12_take_21, e_X12_take_22, e_X12_take_25, e_X12_take_27, e_X12_take_28, e_X12_take_29, e_X12_take_30, e_X12_take_33, e_X12_take_35, e_X12_take_36, e_X12_take_37, e_X12_take_40, e_X12_take_41, e_X12_take_44, e_X12_take_46, e_X12_take_47, e_X12_take_48, e_X12_take_49, e_X12_take_50, e_X12_take_51, e_X12_take_54, e_X12_take_56, e_X12_take_57, e_X12_take_58, e_X12_take_59, e_X12_take_60, e_X12_take_61, e_X12_take_64, e_X12_take_66, e_X12_take_67, e_X12_take_68, e_X12_take_69, e_X12_take_70, e_X12_take_71, g_12_7_11, hc, q, q1, ne10]
theorem m_takeS (hM : xMB X h S nm A) (hn : n ≤ 7) (hA : A 0 1 = nI n) {s : Nat} (hs : s < n) {x : Int32} (h1 : ¬ x < nI 1) (h2 : ¬ nI 48 < x) (ho : 0 < A 0 (47 + s)) : xR X m_X12_take 0 [.ref 169, .int (nI s), .int x, xU] [] h = some (some (.int cSTATE), h) := by
  have q := m_isSpotT hM hn hA hs
  have q1 := fun hh : xH => m_inT (X := X) (h := hh) (x := x) (lo := nI 1) (hi := nI 48) h1 h2
  have hc := hM.1
  have a0 := hM.2.1
  simp (disch := first | exact xnl_i _ | exact xnl_r _ | exact xnl_u _ | exact xnl_n | exact zI_2 | exact zI_24 | assumption | omega | (simp only [xset_len]; omega)) only [↓reduceIte, xbd_s, xpv_n, xpv_s, e_X12_take_0, e_X12_take_1, e_X12_take_2, c_X12_take_167_11_0, c_X12_take_154_11_0, e_X12_take_5, e_X12_take_8, e_X12_take_9, e_X12_take_10, e_X12_take_12, e_X12_take_15, e_X12_take_18, e_X12_take_20, e_X12_take_21, e_X12_take_22, e_X12_take_25, e_X12_take_27, e_X12_take_28, e_X12_take_29, e_X12_take_30, e_X12_take_33, e_X12_take_35, e_X12_take_36, e_X12_take_37, e_X12_take_40, e_X12_take_41, e_X12_take_44, e_X12_take_46, e_X12_take_47, e_X12_take_48, e_X12_take_49, e_X12_take_50, e_X12_take_51, e_X12_take_54, e_X12_take_56, e_X12_take_57, e_X12_take_58, e_X12_take_59, e_X12_take_60, e_X12_take_61, e_X12_take_64, e_X12_take_66, e_X12_take_67, e_X12_take_68, e_X12_take_69, e_X12_take_70, e_X12_take_71, g_12_7_11, hc, a0, q, q1, ne10, nI_add, xl_i, if_pos ho]
theorem m_take (hM : xMB X h S nm A) (hn : n ≤ 7) (hA : A 0 1 = nI n) (hun : un ≤ 24) (hS : S 0 = nI un) {s : Nat} (hs : s < n) {x : Int32} (h1 : ¬ x < nI 1) (h2 : ¬ nI 48 < x) (ho : ¬ 0 < A 0 (47 + s)) : ∃ h', xR X m_X12_take 0 [.ref 169, .int (nI s), .int x, xU] [] h = some (some (.int (A 0 (26 + s))), h') ∧ xMB X h' (upd S 0 (nI (kUn un))) nm (setA (setA A 3 (rmS un (A 0) (A 3))) 0 (upd (upd (A 0) (26 + s) (nI 0)) (47 + s) x)) ∧ xFr X inM h h' := by
  have q := m_isSpotT hM hn hA hs
  have q1 := fun hh : xH => m_inT (X := X) (h := hh) (x := x) (lo := nI 1) (hi := nI 48) h1 h2
  obtain ⟨h1, e1, e2, e3⟩ := m_remT hM hun hS
  have M1 := xMB_0 (f := upd (A 0) (26 + s) (nI 0)) e2
  have M2 := xMB_0 (f := upd (upd (A 0) (26 + s) (nI 0)) (47 + s) x) M1
  rw [setA_setA] at M2
  refine ⟨_, ?_, M2, xFr_tr e3 (xFr_tr (xFr_set (by omega) ⟨by omega, by omega⟩) (xFr_set (by omega) ⟨by omega, by omega⟩))⟩
  have hc := hM.1
  have a0 := hM.2.1
  have c1 := e2.1
  have b0 := e2.2.1
  rw [setA_ne (by decide)] at b0
  have c2 := M1.1
  have d0 := M1.2.1
  rw [setA_eq] at d0
  simp (disch := first | exact xnl_i _ | exact xnl_r _ | exact xnl_u _ | exact xnl_n | exact zI_2 | exact zI_24 | assumption | omega | (simp only [xset_len]; omega)) only [↓reduceIte, xbd_s, xpv_n, xpv_s, e_X12_take_0, e_X12_take_1, e_X12_take_2, c_X12_take_167_11_0, c_X12_take_154_11_0, e_X12_take_5, e_X12_take_8, e_X12_take_9, e_X12_take_10, e_X12_take_12, e_X12_take_15, e_X12_take_18, e_X12_take_20, e_X12_take_21, e_X12_take_22, e_X12_take_25, e_X12_take_27, e_X12_take_28, e_X12_take_29, e_X12_take_30, e_X12_take_33, e_X12_take_35, e_X12_take_36, e_X12_take_37, e_X12_take_40, e_X12_take_41, e_X12_take_44, e_X12_take_46, e_X12_take_47, e_X12_take_48, e_X12_take_49, e_X12_take_50, e_X12_take_51, e_X12_take_54, e_X12_take_56, e_X12_take_57, e_X12_take_58, e_X12_take_59, e_X12_take_60, e_X12_take_61, e_X12_take_64, e_X12_take_66, e_X12_take_67, e_X12_take_68, e_X12_take_69, e_X12_take_70, e_X12_take_71, g_12_7_11, hc, a0, q, q1, ne10, nI_add, xl_i, if_neg ho, e1, c1, b0, c2, d0, xs_i]
theorem m_changeB (hM : xMB X h S nm A) (hn : n ≤ 7) (hA : A 0 1 = nI n) {x y : Int32} (hx : (x < 0 ∨ ¬ x < nI n) ∨ (y < 0 ∨ ¬ y < nI n) ∨ x = y) : xR X m_X12_change 0 [.ref 169, .int x, .int y, xU] [] h = some (some (.int cBAD), h) := by
  have hc := hM.1
  by_cases c1 : x < 0 ∨ ¬ x < nI n
  · have q := m_isSpotF hM hn hA c1
    simp (disch := first | exact xnl_i _ | exact xnl_r _ | exact xnl_u _ | exact xnl_n | exact zI_2 | exact zI_24 | assumption | omega | (simp only [xset_len]; omega)) only [↓reduceIte, xbd_s, xpv_n, xpv_s, e_X12_change_0, e_X12_change_1, e_X12_change_2, c_X12_change_167_11_0, c_X12_change_154_11_0, e_X12_change_5, e_X12_change_8, e_X12_change_9, e_X12_change_10, e_X12_change_13, e_X12_change_16, e_X12_change_17, e_X12_change_18, e_X12_change_21, e_X12_change_23, e_X12_change_24, e_X12_change_25, e_X12_change_28, e_X12_change_30, e_X12_change_31, e_X12_change_32, e_X12_change_33, e_X12_change_36, e_X12_change_37, e_X12_change_40, e_X12_change_42, e_X12_change_43, e_X12_change_44, e_X12_change_45, e_X12_change_48, e_X12_change_50, e_X12_change_51, e_X12_change_52, e_X12_change_55, e_X12_change_56, e_X12_change_59, e_X12_change_61, e_X12_change_62, e_X12_change_63, e_X12_change_64, e_X12_change_65, e_X12_change_66, e_X12_change_69, e_X12_change_71, e_X12_change_72, e_X12_change_73, e_X12_change_74, e_X12_change_77, e_X12_change_79, e_X12_change_80, e_X12_change_81, e_X12_change_82, e_X12_change_83, e_X12_change_84, e_X12_change_87, e_X12_change_89, e_X12_change_90, e_X12_change_91, e_X12_change_92, e_X12_change_93, e_X12_change_94, e_X12_change_97, e_X12_change_99, e_X12_change_100, e_X12_change_101, e_X12_change_102, e_X12_change_103, e_X12_change_104, e_X12_change_107, e_X12_change_109, e_X12_change_110, e_X12_change_111, e_X12_change_112, e_X12_change_113, e_X12_change_114, e_X12_change_117, e_X12_change_119, e_X12_change_120, e_X12_change_121, e_X12_change_122, g_12_7_11, hc, q]
  have q : xR X m_X12_isSpot 0 [.ref 169, .int x] [] h = some (some (.int 1), h) := by
    rw [m_isSpot hM hn hA, if_neg (fun e => c1 (Or.inl e)), if_pos (Classical.byContradiction fun e => c1 (Or.inr e))]; rfl
  by_cases c2 : y < 0 ∨ ¬ y < nI n
  · have q1 := m_isSpotF hM hn hA c2
    simp (disch := first | exact xnl_i _ | exact xnl_r _ | exact xnl_u _ | exact xnl_n | exact zI_2 | exact zI_24 | assumption | omega | (simp only [xset_len]; omega)) only [↓reduceIte, xbd_s, xpv_n, xpv_s, e_X12_change_0, e_X12_change_1, e_X12_change_2, c_X12_change_167_11_0, c_X12_change_154_11_0, e_X12_change_5, e_X12_change_8, e_X12_change_9, e_X12_change_10, e_X12_change_13, e_X12_change_16, e_X12_change_17, e_X12_change_18, e_X12_change_21, e_X12_change_23, e_X12_change_24, e_X12_change_25, e_X12_change_28, e_X12_change_30, e_X12_change_31, e_X12_change_32, e_X12_change_33, e_X12_change_36, e_X12_change_37, e_X12_change_40, e_X12_change_42, e_X12_change_43, e_X12_change_44, e_X12_change_45, e_X12_change_48, e_X12_change_50, e_X12_change_51, e_X12_change_52, e_X12_change_55, e_X12_change_56, e_X12_change_59, e_X12_change_61, e_X12_change_62, e_X12_change_63, e_X12_change_64, e_X12_change_65, e_X12_change_66, e_X12_change_69, e_X12_change_71, e_X12_change_72, e_X12_change_73, e_X12_change_74, e_X12_change_77, e_X12_change_79, e_X12_change_80, e_X12_change_81, e_X12_change_82, e_X12_change_83, e_X12_change_84, e_X12_change_87, e_X12_change_89, e_X12_change_90, e_X12_change_91, e_X12_change_92, e_X12_change_93, e_X12_change_94, e_X12_change_97, e_X12_change_99, e_X12_change_100, e_X12_change_101, e_X12_change_102, e_X12_change_103, e_X12_change_104, e_X12_change_107, e_X12_change_109, e_X12_change_110, e_X12_change_111, e_X12_change_112, e_X12_change_113, e_X12_change_114, e_X12_change_117, e_X12_change_119, e_X12_change_120, e_X12_change_121, e_X12_change_122, g_12_7_11, hc, q, q1, ne10]
  have q1 : xR X m_X12_isSpot 0 [.ref 169, .int y] [] h = some (some (.int 1), h) := by
    rw [m_isSpot hM hn hA, if_neg (fun e => c2 (Or.inl e)), if_pos (Classical.byContradiction fun e => c2 (Or.inr e))]; rfl
  have c3 := (hx.resolve_left c1).resolve_left c2
  simp (disch := first | exact xnl_i _ | exact xnl_r _ | exact xnl_u _ | exact xnl_n | exact zI_2 | exact zI_24 | assumption | omega | (simp only [xset_len]; omega)) only [↓reduceIte, xbd_s, xpv_n, xpv_s, e_X12_change_0, e_X12_change_1, e_X12_change_2, c_X12_change_167_11_0, c_X12_change_154_11_0, e_X12_change_5, e_X12_change_8, e_X12_change_9, e_X12_change_10, e_X12_change_13, e_X12_change_16, e_X12_change_17, e_X12_change_18, e_X12_change_21, e_X12_change_23, e_X12_change_24, e_X12_change_25, e_X12_change_28, e_X12_change_30, e_X12_change_31, e_X12_change_32, e_X12_change_33, e_X12_change_36, e_X12_change_37, e_X12_change_40, e_X12_change_42, e_X12_change_43, e_X12_change_44, e_X12_change_45, e_X12_change_48, e_X12_change_50, e_X12_change_51, e_X12_change_52, e_X12_change_55, e_X12_change_56, e_X12_change_59, e_X12_change_61, e_X12_change_62, e_X12_change_63, e_X12_change_64, e_X12_change_65, e_X12_change_66, e_X12_change_69, e_X12_change_71, e_X12_change_72, e_X12_change_73, e_X12_change_74, e_X12_change_77, e_X12_change_79, e_X12_change_80, e_X12_change_81, e_X12_change_82, e_X12_change_83, e_X12_change_84, e_X12_change_87, e_X12_change_89, e_X12_change_90, e_X12_change_91, e_X12_change_92, e_X12_change_93, e_X12_change_94, e_X12_change_97, e_X12_change_99, e_X12_change_100, e_X12_change_101, e_X12_change_102, e_X12_change_103, e_X12_change_104, e_X12_change_107, e_X12_change_109, e_X12_change_110, e_X12_change_111, e_X12_change_112, e_X12_change_113, e_X12_change_114, e_X12_change_117, e_X12_change_119, e_X12_change_120, e_X12_change_121, e_X12_change_122, g_12_7_11, hc, q, q1, ne10, if_pos c3]
theorem m_changeS (hM : xMB X h S nm A) (hn : n ≤ 7) (hA : A 0 1 = nI n) {s t : Nat} (hs : s < n) (ht : t < n) (hst : s ≠ t) (ho : 0 < A 0 (47 + s) ∨ 0 < A 0 (47 + t)) : xR X m_X12_change 0 [.ref 169, .int (nI s), .int (nI t), xU] [] h = some (some (.int cSTATE), h) := by
  have hc := hM.1
  have a0 := hM.2.1
  have q := m_isSpotT hM hn hA hs
  have q1 := m_isSpotT hM hn hA ht
  have e0 : ¬ nI s = nI t := by
    rw [xeq_i, nI_toInt (by omega), nI_toInt (by omega)]
    omega
  by_cases c : 0 < A 0 (47 + s)
  · simp (disch := first | exact xnl_i _ | exact xnl_r _ | exact xnl_u _ | exact xnl_n | exact zI_2 | exact zI_24 | assumption | omega | (simp only [xset_len]; omega)) only [↓reduceIte, xbd_s, xpv_n, xpv_s, e_X12_change_0, e_X12_change_1, e_X12_change_2, c_X12_change_167_11_0, c_X12_change_154_11_0, e_X12_change_5, e_X12_change_8, e_X12_change_9, e_X12_change_10, e_X12_change_13, e_X12_change_16, e_X12_change_17, e_X12_change_18, e_X12_change_21, e_X12_change_23, e_X12_change_24, e_X12_change_25, e_X12_change_28, e_X12_change_30, e_X12_change_31, e_X12_change_32, e_X12_change_33, e_X12_change_36, e_X12_change_37, e_X12_change_40, e_X12_change_42, e_X12_change_43, e_X12_change_44, e_X12_change_45, e_X12_change_48, e_X12_change_50, e_X12_change_51, e_X12_change_52, e_X12_change_55, e_X12_change_56, e_X12_change_59, e_X12_change_61, e_X12_change_62, e_X12_change_63, e_X12_change_64, e_X12_change_65, e_X12_change_66, e_X12_change_69, e_X12_change_71, e_X12_change_72, e_X12_change_73, e_X12_change_74, e_X12_change_77, e_X12_change_79, e_X12_change_80, e_X12_change_81, e_X12_change_82, e_X12_change_83, e_X12_change_84, e_X12_change_87, e_X12_change_89, e_X12_change_90, e_X12_change_91, e_X12_change_92, e_X12_change_93, e_X12_change_94, e_X12_change_97, e_X12_change_99, e_X12_change_100, e_X12_change_101, e_X12_change_102, e_X12_change_103, e_X12_change_104, e_X12_change_107, e_X12_change_109, e_X12_change_110, e_X12_change_111, e_X12_change_112, e_X12_change_113, e_X12_change_114, e_X12_change_117, e_X12_change_119, e_X12_change_120, e_X12_change_121, e_X12_change_122, g_12_7_11, hc, a0, q, q1, ne10, if_neg e0, nI_add, xl_i, if_pos c]
  · simp (disch := first | exact xnl_i _ | exact xnl_r _ | exact xnl_u _ | exact xnl_n | exact zI_2 | exact zI_24 | assumption | omega | (simp only [xset_len]; omega)) only [↓reduceIte, xbd_s, xpv_n, xpv_s, e_X12_change_0, e_X12_change_1, e_X12_change_2, c_X12_change_167_11_0, c_X12_change_154_11_0, e_X12_change_5, e_X12_change_8, e_X12_change_9, e_X12_change_10, e_X12_change_13, e_X12_change_16, e_X12_change_17, e_X12_change_18, e_X12_change_21, e_X12_change_23, e_X12_change_24, e_X12_change_25, e_X12_change_28, e_X12_change_30, e_X12_change_31, e_X12_change_32, e_X12_change_33, e_X12_change_36, e_X12_change_37, e_X12_change_40, e_X12_change_42, e_X12_change_43, e_X12_change_44, e_X12_change_45, e_X12_change_48, e_X12_change_50, e_X12_change_51, e_X12_change_52, e_X12_change_55, e_X12_change_56, e_X12_change_59, e_X12_change_61, e_X12_change_62, e_X12_change_63, e_X12_change_64, e_X12_change_65, e_X12_change_66, e_X12_change_69, e_X12_change_71, e_X12_change_72, e_X12_change_73, e_X12_change_74, e_X12_change_77, e_X12_change_79, e_X12_change_80, e_X12_change_81, e_X12_change_82, e_X12_change_83, e_X12_change_84, e_X12_change_87, e_X12_change_89, e_X12_change_90, e_X12_change_91, e_X12_change_92, e_X12_change_93, e_X12_change_94, e_X12_change_97, e_X12_change_99, e_X12_change_100, e_X12_change_101, e_X12_change_102, e_X12_change_103, e_X12_change_104, e_X12_change_107, e_X12_change_109, e_X12_change_110, e_X12_change_111, e_X12_change_112, e_X12_change_113, e_X12_change_114, e_X12_change_117, e_X12_change_119, e_X12_change_120, e_X12_change_121, e_X12_change_122, g_12_7_11, hc, a0, q, q1, ne10, if_neg e0, nI_add, xl_i, if_neg c, if_pos (ho.resolve_left c)]
theorem m_change (hM : xMB X h S nm A) (hn : n ≤ 7) (hA : A 0 1 = nI n) (hun : un ≤ 24) (hS : S 0 = nI un) {s t : Nat} (hs : s < n) (ht : t < n) (hst : s ≠ t) (ho : ¬ 0 < A 0 (47 + s)) (ho2 : ¬ 0 < A 0 (47 + t)) : ∃ h', xR X m_X12_change 0 [.ref 169, .int (nI s), .int (nI t), xU] [] h = some (some (.int (A 0 (33 + t))), h') ∧ xMB X h' (upd S 0 (nI (kUn un))) nm (setA (setA A 3 (rmS un (A 0) (A 3))) 0 (upd (upd (upd (upd (A 0) (33 + s) (A 0 (33 + t))) (33 + t) (A 0 (33 + s))) (26 + s) (nI 0)) (26 + t) (nI 0))) ∧ xFr X inM h h' := by
  have q := m_isSpotT hM hn hA hs
  have q1 := m_isSpotT hM hn hA ht
  have e0 : ¬ nI s = nI t := by
    rw [xeq_i, nI_toInt (by omega), nI_toInt (by omega)]
    omega
  obtain ⟨h1, e1, e2, e3⟩ := m_remT hM hun hS
  have M1 := xMB_0 (f := upd (A 0) (33 + s) (A 0 (33 + t))) e2
  have M2 := xMB_0 (f := upd (upd (A 0) (33 + s) (A 0 (33 + t))) (33 + t) (A 0 (33 + s))) M1
  have M3 := xMB_0 (f := upd (upd (upd (A 0) (33 + s) (A 0 (33 + t))) (33 + t) (A 0 (33 + s))) (26 + s) (nI 0)) M2
  have M4 := xMB_0 (f := upd (upd (upd (upd (A 0) (33 + s) (A 0 (33 + t))) (33 + t) (A 0 (33 + s))) (26 + s) (nI 0)) (26 + t) (nI 0)) M3
  rw [setA_setA] at M2
  rw [setA_setA, setA_setA] at M3
  rw [setA_setA, setA_setA, setA_setA] at M4
  refine ⟨_, ?_, M4, xFr_tr e3 (xFr_tr (xFr_tr (xFr_tr (xFr_set (by omega) ⟨by omega, by omega⟩) (xFr_set (by omega) ⟨by omega, by omega⟩)) (xFr_set (by omega) ⟨by omega, by omega⟩)) (xFr_set (by omega) ⟨by omega, by omega⟩))⟩
  have hc := hM.1
  have a0 := hM.2.1
  have c1 := e2.1
  have b0 := e2.2.1
  rw [setA_ne (by decide)] at b0
  have c2 := M1.1
  have d0 := M1.2.1
  have c3 := M2.1
  have d1 := M2.2.1
  have c4 := M3.1
  have d2 := M3.2.1
  have c5 := M4.1
  have d3 := M4.2.1
  rw [setA_eq] at d0 d1 d2 d3
  have u1 : upd (upd (upd (upd (A 0) (33 + s) (A 0 (33 + t))) (33 + t) (A 0 (33 + s))) (26 + s) (nI 0)) (26 + t) (nI 0) (33 + s) = A 0 (33 + t) := by
    rw [upd_ne (by omega), upd_ne (by omega), upd_ne (by omega), upd_eq]
  have u2 : upd (A 0) (33 + s) (A 0 (33 + t)) (33 + t) = A 0 (33 + t) := upd_ne (by omega)
  simp (disch := first | exact xnl_i _ | exact xnl_r _ | exact xnl_u _ | exact xnl_n | exact zI_2 | exact zI_24 | assumption | omega | (simp only [xset_len]; omega)) only [↓reduceIte, xbd_s, xpv_n, xpv_s, e_X12_change_0, e_X12_change_1, e_X12_change_2, c_X12_change_167_11_0, c_X12_change_154_11_0, e_X12_change_5, e_X12_change_8, e_X12_change_9, e_X12_change_10, e_X12_change_13, e_X12_change_16, e_X12_change_17, e_X12_change_18, e_X12_change_21, e_X12_change_23, e_X12_change_24, e_X12_change_25, e_X12_change_28, e_X12_change_30, e_X12_change_31, e_X12_change_32, e_X12_change_33, e_X12_change_36, e_X12_change_37, e_X12_change_40, e_X12_change_42, e_X12_change_43, e_X12_change_44, e_X12_change_45, e_X12_change_48, e_X12_change_50, e_X12_change_51, e_X12_change_52, e_X12_change_55, e_X12_change_56, e_X12_change_59, e_X12_change_61, e_X12_change_62, e_X12_change_63, e_X12_change_64, e_X12_change_65, e_X12_change_66, e_X12_change_69, e_X12_change_71, e_X12_change_72, e_X12_change_73, e_X12_change_74, e_X12_change_77, e_X12_change_79, e_X12_change_80, e_X12_change_81, e_X12_change_82, e_X12_change_83, e_X12_change_84, e_X12_change_87, e_X12_change_89, e_X12_change_90, e_X12_change_91, e_X12_change_92, e_X12_change_93, e_X12_change_94, e_X12_change_97, e_X12_change_99, e_X12_change_100, e_X12_change_101, e_X12_change_102, e_X12_change_103, e_X12_change_104, e_X12_change_107, e_X12_change_109, e_X12_change_110, e_X12_change_111, e_X12_change_112, e_X12_change_113, e_X12_change_114, e_X12_change_117, e_X12_change_119, e_X12_change_120, e_X12_change_121, e_X12_change_122, g_12_7_11, hc, a0, q, q1, ne10, if_neg e0, nI_add, xl_i, if_neg ho, if_neg ho2, e1, c1, b0, c2, d0, c3, d1, c4, d2, c5, d3, xs_i, u1]
theorem m_dustsN (hM : xMB X h S nm A) (hA : ¬ A 0 0 = nI 1) (x : Int32) : xR X m_X12_dusts 0 [.ref 169, .int x, xU, xU] [] h = some (some (.int cSTATE), h) := by
  have q := m_libF hM hA
  have hc := hM.1
  simp (disch := first | exact xnl_i _ | exact xnl_r _ | exact xnl_u _ | exact xnl_n | exact zI_2 | exact zI_24 | assumption | omega | (simp only [xset_len]; omega)) only [↓reduceIte, xbd_s, xpv_n, xpv_s, e_X12_dusts_0, e_X12_dusts_1, c_X12_dusts_149_11_0, c_X12_dusts_170_11_0, c_X12_dusts_154_11_0, e_X12_dusts_4, e_X12_dusts_7, e_X12_dusts_9, e_X12_dusts_10, e_X12_dusts_11, e_X12_dusts_12, e_X12_dusts_15, e_X12_dusts_18, e_X12_dusts_20, e_X12_dusts_21, e_X12_dusts_22, e_X12_dusts_25, e_X12_dusts_26, e_X12_dusts_27, e_X12_dusts_28, e_X12_dusts_29, e_X12_dusts_30, e_X12_dusts_31, e_X12_dusts_34, e_X12_dusts_35, e_X12_dusts_36, e_X12_dusts_39, e_X12_dusts_40, e_X12_dusts_41, e_X12_dusts_44, e_X12_dusts_47, e_X12_dusts_48, e_X12_dusts_49, e_X12_dusts_52, e_X12_dusts_54, e_X12_dusts_55, e_X12_dusts_56, e_X12_dusts_57, e_X12_dusts_58, e_X12_dusts_59, e_X12_dusts_60, e_X12_dusts_63, e_X12_dusts_65, e_X12_dusts_66, e_X12_dusts_67, e_X12_dusts_68, e_X12_dusts_69, e_X12_dusts_72, e_X12_dusts_75, e_X12_dusts_76, g_12_7_11, hc, q]
theorem m_dustsB (hM : xMB X h S nm A) (hn : n ≤ 7) (hA : A 0 1 = nI n) (hA0 : A 0 0 = nI 1) {x : Int32} (hx : ¬ x &&& (allS n ^^^ (-1)) = 0) : xR X m_X12_dusts 0 [.ref 169, .int x, xU, xU] [] h = some (some (.int cBAD), h) := by
  have q := m_libT hM hA0
  have q1 := m_isSetF hM hn hA hx
  have hc := hM.1
  simp (disch := first | exact xnl_i _ | exact xnl_r _ | exact xnl_u _ | exact xnl_n | exact zI_2 | exact zI_24 | assumption | omega | (simp only [xset_len]; omega)) only [↓reduceIte, xbd_s, xpv_n, xpv_s, e_X12_dusts_0, e_X12_dusts_1, c_X12_dusts_149_11_0, c_X12_dusts_170_11_0, c_X12_dusts_154_11_0, e_X12_dusts_4, e_X12_dusts_7, e_X12_dusts_9, e_X12_dusts_10, e_X12_dusts_11, e_X12_dusts_12, e_X12_dusts_15, e_X12_dusts_18, e_X12_dusts_20, e_X12_dusts_21, e_X12_dusts_22, e_X12_dusts_25, e_X12_dusts_26, e_X12_dusts_27, e_X12_dusts_28, e_X12_dusts_29, e_X12_dusts_30, e_X12_dusts_31, e_X12_dusts_34, e_X12_dusts_35, e_X12_dusts_36, e_X12_dusts_39, e_X12_dusts_40, e_X12_dusts_41, e_X12_dusts_44, e_X12_dusts_47, e_X12_dusts_48, e_X12_dusts_49, e_X12_dusts_52, e_X12_dusts_54, e_X12_dusts_55, e_X12_dusts_56, e_X12_dusts_57, e_X12_dusts_58, e_X12_dusts_59, e_X12_dusts_60, e_X12_dusts_63, e_X12_dusts_65, e_X12_dusts_66, e_X12_dusts_67, e_X12_dusts_68, e_X12_dusts_69, e_X12_dusts_72, e_X12_dusts_75, e_X12_dusts_76, g_12_7_11, hc, q, q1, ne10]
def mduF (x : Int32) (s : Nat) (y : Int32 × (Nat → Int32)) : Int32 × (Nat → Int32) := if (x >>> (nI s &&& 31)) &&& nI 1 = nI 1 then (y.1 + y.2 (26 + s), upd y.2 (26 + s) (nI 0)) else y
theorem m_dusts (hM : xMB X h S nm A) (hn : n ≤ 7) (hA : A 0 1 = nI n) (hA0 : A 0 0 = nI 1) (hun : un ≤ 24) (hS : S 0 = nI un) {x : Int32} (hx : x &&& (allS n ^^^ (-1)) = 0) : ∃ h', xR X m_X12_dusts 0 [.ref 169, .int x, xU, xU] [] h = some (some (.int (xfold (mduF x) n (nI 0, A 0)).1), h') ∧ xMB X h' (upd S 0 (nI (kUn un))) nm (setA (setA A 3 (rmS un (A 0) (A 3))) 0 (xfold (mduF x) n (nI 0, A 0)).2) ∧ xFr X inM h h' := by
  have q := m_libT hM hA0
  have q1 := m_isSetT hM hn hA hx
  obtain ⟨h1, e1, e2, e3⟩ := m_remT hM hun hS
  have L := x_loopH (X := X) (A := inM) (fun k (y : Int32 × (Nat → Int32)) h => xR X m_X12_dusts 29 [.ref 169, .int x, .int y.1, .int (nI k)] [] h) (fun y h => y.2 1 = nI n ∧ xMB X h (upd S 0 (nI (kUn un))) nm (setA (setA A 3 (rmS un (A 0) (A 3))) 0 y.2)) (mduF x) n (by
    intro k hk y h hI
    obtain ⟨t, y⟩ := y
    obtain ⟨hy, hM⟩ := hI
    dsimp only at hy hM ⊢
    have hc := hM.1
    have a0 := hM.2.1
    rw [setA_eq] at a0
    have e1 : nI k < nI n := nI_lt hk (by omega)
    unfold mduF
    by_cases c : (x >>> (nI k &&& 31)) &&& nI 1 = nI 1
    · rw [if_pos c]
      dsimp only
      have M1 := xMB_0 (f := upd y (26 + k) (nI 0)) hM
      rw [setA_setA] at M1
      refine ⟨_, ?_, ⟨by rw [upd_ne (by omega)]; exact hy, M1⟩, xFr_set (by omega) ⟨by omega, by omega⟩⟩
      rw [e_X12_dusts_29]
      simp (disch := first | exact xnl_i _ | exact xnl_r _ | exact xnl_u _ | exact xnl_n | exact zI_2 | exact zI_24 | assumption | omega | (simp only [xset_len]; omega)) only [↓reduceIte, xbd_s, xpv_n, xpv_s, e_X12_dusts_0, e_X12_dusts_1, c_X12_dusts_149_11_0, c_X12_dusts_170_11_0, c_X12_dusts_154_11_0, e_X12_dusts_4, e_X12_dusts_7, e_X12_dusts_9, e_X12_dusts_10, e_X12_dusts_11, e_X12_dusts_12, e_X12_dusts_15, e_X12_dusts_18, e_X12_dusts_20, e_X12_dusts_21, e_X12_dusts_22, e_X12_dusts_25, e_X12_dusts_26, e_X12_dusts_27, e_X12_dusts_28, e_X12_dusts_30, e_X12_dusts_31, e_X12_dusts_34, e_X12_dusts_35, e_X12_dusts_36, e_X12_dusts_39, e_X12_dusts_40, e_X12_dusts_41, e_X12_dusts_44, e_X12_dusts_47, e_X12_dusts_48, e_X12_dusts_49, e_X12_dusts_52, e_X12_dusts_54, e_X12_dusts_55, e_X12_dusts_56, e_X12_dusts_57, e_X12_dusts_58, e_X12_dusts_59, e_X12_dusts_60, e_X12_dusts_63, e_X12_dusts_65, e_X12_dusts_66, e_X12_dusts_67, e_X12_dusts_68, e_X12_dusts_69, e_X12_dusts_72, e_X12_dusts_75, e_X12_dusts_76, g_12_7_11, hc, a0, hy, xl_i, xs_i, if_pos e1, m_has, if_pos c, zI_1, nI_add, nI_inc]
    · rw [if_neg c]
      refine ⟨h, ?_, ⟨hy, hM⟩, xFr_rfl⟩
      rw [e_X12_dusts_29]
      simp (disch := first | exact xnl_i _ | exact xnl_r _ | exact xnl_u _ | exact xnl_n | exact zI_2 | exact zI_24 | assumption | omega | (simp only [xset_len]; omega)) only [↓reduceIte, xbd_s, xpv_n, xpv_s, e_X12_dusts_0, e_X12_dusts_1, c_X12_dusts_149_11_0, c_X12_dusts_170_11_0, c_X12_dusts_154_11_0, e_X12_dusts_4, e_X12_dusts_7, e_X12_dusts_9, e_X12_dusts_10, e_X12_dusts_11, e_X12_dusts_12, e_X12_dusts_15, e_X12_dusts_18, e_X12_dusts_20, e_X12_dusts_21, e_X12_dusts_22, e_X12_dusts_25, e_X12_dusts_26, e_X12_dusts_27, e_X12_dusts_28, e_X12_dusts_30, e_X12_dusts_31, e_X12_dusts_34, e_X12_dusts_35, e_X12_dusts_36, e_X12_dusts_39, e_X12_dusts_40, e_X12_dusts_41, e_X12_dusts_44, e_X12_dusts_47, e_X12_dusts_48, e_X12_dusts_49, e_X12_dusts_52, e_X12_dusts_54, e_X12_dusts_55, e_X12_dusts_56, e_X12_dusts_57, e_X12_dusts_58, e_X12_dusts_59, e_X12_dusts_60, e_X12_dusts_63, e_X12_dusts_65, e_X12_dusts_66, e_X12_dusts_67, e_X12_dusts_68, e_X12_dusts_69, e_X12_dusts_72, e_X12_dusts_75, e_X12_dusts_76, g_12_7_11, hc, a0, hy, xl_i, if_pos e1, m_has, if_neg c, z0, nI_inc]) (nI 0, A 0) h1 ⟨hA, by
        have e : A 0 = (setA A 3 (rmS un (A 0) (A 3))) 0 := (setA_ne (by decide)).symm
        have := e2
        rw [← setA_id (A := setA A 3 (rmS un (A 0) (A 3))) (i := 0), ← e] at this
        exact this⟩
  obtain ⟨h2, f1, ⟨f2, f3⟩, f4⟩ := L
  refine ⟨h2, ?_, f3, xFr_tr e3 f4⟩
  have hc := hM.1
  have hc1 := f3.1
  have a1 := f3.2.1
  rw [setA_eq] at a1
  have e9 : ¬ nI n < nI n := nI_nlt (Nat.le_refl n) (by omega)
  simp (disch := first | exact xnl_i _ | exact xnl_r _ | exact xnl_u _ | exact xnl_n | exact zI_2 | exact zI_24 | assumption | omega | (simp only [xset_len]; omega)) only [↓reduceIte, xbd_s, xpv_n, xpv_s, e_X12_dusts_0, e_X12_dusts_1, c_X12_dusts_149_11_0, c_X12_dusts_170_11_0, c_X12_dusts_154_11_0, e_X12_dusts_4, e_X12_dusts_7, e_X12_dusts_9, e_X12_dusts_10, e_X12_dusts_11, e_X12_dusts_12, e_X12_dusts_15, e_X12_dusts_18, e_X12_dusts_20, e_X12_dusts_21, e_X12_dusts_22, e_X12_dusts_25, e_X12_dusts_26, e_X12_dusts_27, e_X12_dusts_28, e_X12_dusts_30, e_X12_dusts_31, e_X12_dusts_34, e_X12_dusts_35, e_X12_dusts_36, e_X12_dusts_39, e_X12_dusts_40, e_X12_dusts_41, e_X12_dusts_44, e_X12_dusts_47, e_X12_dusts_48, e_X12_dusts_49, e_X12_dusts_52, e_X12_dusts_54, e_X12_dusts_55, e_X12_dusts_56, e_X12_dusts_57, e_X12_dusts_58, e_X12_dusts_59, e_X12_dusts_60, e_X12_dusts_63, e_X12_dusts_65, e_X12_dusts_66, e_X12_dusts_67, e_X12_dusts_68, e_X12_dusts_69, e_X12_dusts_72, e_X12_dusts_75, e_X12_dusts_76, g_12_7_11, hc, q, q1, ne10, e1]
  refine f1.trans ?_
  simp (disch := first | exact xnl_i _ | exact xnl_r _ | exact xnl_u _ | exact xnl_n | exact zI_2 | exact zI_24 | assumption | omega | (simp only [xset_len]; omega)) only [↓reduceIte, xbd_s, xpv_n, xpv_s, e_X12_dusts_0, e_X12_dusts_1, c_X12_dusts_149_11_0, c_X12_dusts_170_11_0, c_X12_dusts_154_11_0, e_X12_dusts_4, e_X12_dusts_7, e_X12_dusts_9, e_X12_dusts_10, e_X12_dusts_11, e_X12_dusts_12, e_X12_dusts_15, e_X12_dusts_18, e_X12_dusts_20, e_X12_dusts_21, e_X12_dusts_22, e_X12_dusts_25, e_X12_dusts_26, e_X12_dusts_27, e_X12_dusts_28, e_X12_dusts_29, e_X12_dusts_30, e_X12_dusts_31, e_X12_dusts_34, e_X12_dusts_35, e_X12_dusts_36, e_X12_dusts_39, e_X12_dusts_40, e_X12_dusts_41, e_X12_dusts_44, e_X12_dusts_47, e_X12_dusts_48, e_X12_dusts_49, e_X12_dusts_52, e_X12_dusts_54, e_X12_dusts_55, e_X12_dusts_56, e_X12_dusts_57, e_X12_dusts_58, e_X12_dusts_59, e_X12_dusts_60, e_X12_dusts_63, e_X12_dusts_65, e_X12_dusts_66, e_X12_dusts_67, e_X12_dusts_68, e_X12_dusts_69, e_X12_dusts_72, e_X12_dusts_75, e_X12_dusts_76, g_12_7_11, hc1, a1, f2, xl_i, if_neg e9]
theorem m_undoS (hM : xMB X h S nm A) (hS : S 0 = nI 0) : xR X m_X12_undo 0 [.ref 169, xU] [] h = some (some (.int cSTATE), h) := by
  have hc := hM.1
  rw [hS] at hc
  simp (disch := first | exact xnl_i _ | exact xnl_r _ | exact xnl_u _ | exact xnl_n | exact zI_2 | exact zI_24 | assumption | omega | (simp only [xset_len]; omega)) only [↓reduceIte, xbd_s, xpv_n, xpv_s, e_X12_undo_0, e_X12_undo_1, e_X12_undo_4, e_X12_undo_7, e_X12_undo_9, e_X12_undo_10, e_X12_undo_11, e_X12_undo_12, e_X12_undo_15, e_X12_undo_16, e_X12_undo_17, e_X12_undo_20, e_X12_undo_21, e_X12_undo_22, e_X12_undo_23, e_X12_undo_25, e_X12_undo_28, e_X12_undo_29, e_X12_undo_32, e_X12_undo_34, e_X12_undo_35, e_X12_undo_36, e_X12_undo_37, e_X12_undo_40, e_X12_undo_42, e_X12_undo_43, e_X12_undo_46, e_X12_undo_47, e_X12_undo_48, e_X12_undo_49, e_X12_undo_50, e_X12_undo_51, e_X12_undo_54, e_X12_undo_57, e_X12_undo_58, e_X12_undo_61, g_12_143_11, g_12_20_11, g_12_7_11, p_12_143_11, hc, z0]
def muF (was : Nat → Int32) (c k : Nat) (y : Nat → Int32) : Nat → Int32 := upd y (25 + k) (was (29 * c + k))
theorem m_undo (hM : xMB X h S nm A) (hun : un < 24) (hS : S 0 = nI (un + 1)) : ∃ h', xR X m_X12_undo 0 [.ref 169, xU] [] h = some (some (.int (nI un)), h') ∧ xMB X h' (upd S 0 (nI un)) nm (setA A 0 (xfold (muF (A 3) un) 29 (A 0))) ∧ xFr X inM h h' := by
  have M1 := xMB_S (S' := upd S 0 (nI un)) (nm' := nm) hM
  have L := x_loopH (X := X) (A := inM) (fun k (y : Nat → Int32) h => xR X m_X12_undo 22 [.ref 169, .int (nI k)] [] h) (fun y h => xMB X h (upd S 0 (nI un)) nm (setA A 0 y)) (muF (A 3) un) 29 (by
    intro k hk y h hM
    have hc := hM.1
    rw [upd_eq] at hc
    have a3 := hM.2.2.2.2.1
    rw [setA_ne (by decide)] at a3
    have a0 := hM.2.1
    rw [setA_eq] at a0
    have e1 : nI k < nI 29 := nI_lt hk (by omega)
    have hM1 := xMB_0 (f := muF (A 3) un k y) hM
    rw [setA_setA] at hM1
    refine ⟨_, ?_, hM1, xFr_set (by omega) ⟨by omega, by omega⟩⟩
    rw [e_X12_undo_22]
    simp (disch := first | exact xnl_i _ | exact xnl_r _ | exact xnl_u _ | exact xnl_n | exact zI_2 | exact zI_24 | assumption | omega | (simp only [xset_len]; omega)) only [↓reduceIte, xbd_s, xpv_n, xpv_s, e_X12_undo_0, e_X12_undo_1, e_X12_undo_4, e_X12_undo_7, e_X12_undo_9, e_X12_undo_10, e_X12_undo_11, e_X12_undo_12, e_X12_undo_15, e_X12_undo_16, e_X12_undo_17, e_X12_undo_20, e_X12_undo_21, e_X12_undo_23, e_X12_undo_25, e_X12_undo_28, e_X12_undo_29, e_X12_undo_32, e_X12_undo_34, e_X12_undo_35, e_X12_undo_36, e_X12_undo_37, e_X12_undo_40, e_X12_undo_42, e_X12_undo_43, e_X12_undo_46, e_X12_undo_47, e_X12_undo_48, e_X12_undo_49, e_X12_undo_50, e_X12_undo_51, e_X12_undo_54, e_X12_undo_57, e_X12_undo_58, e_X12_undo_61, g_12_143_11, g_12_20_11, g_12_7_11, p_12_143_11, hc, a0, a3, if_pos e1, nI_mul, nI_add, xl_i, xs_i, nI_inc]
    all_goals rfl) (A 0) _ (by rw [setA_id]; exact M1)
  obtain ⟨h1, e1, e2, e3⟩ := L
  refine ⟨h1, ?_, e2, xFr_tr (xFr_set (by omega) ⟨by omega, by omega⟩) e3⟩
  have hc := hM.1
  rw [hS] at hc
  have hc1 := e2.1
  rw [upd_eq] at hc1
  have e4 : ¬ nI 29 < nI 29 := by decide
  have e5 : ¬ nI (un + 1) = 0 := by
    rw [xeq_i, nI_toInt (by omega), xti0]
    omega
  refine Eq.trans (b := xR X m_X12_undo 20 [.ref 169, xU] [] (xset h 169 (xMc (upd S 0 (nI un)) nm))) ?_ ?_
  · simp (disch := first | exact xnl_i _ | exact xnl_r _ | exact xnl_u _ | exact xnl_n | exact zI_2 | exact zI_24 | assumption | omega | (simp only [xset_len]; omega)) only [↓reduceIte, xbd_s, xpv_n, xpv_s, e_X12_undo_0, e_X12_undo_1, e_X12_undo_4, e_X12_undo_7, e_X12_undo_9, e_X12_undo_10, e_X12_undo_11, e_X12_undo_12, e_X12_undo_15, e_X12_undo_16, e_X12_undo_17, e_X12_undo_21, e_X12_undo_22, e_X12_undo_23, e_X12_undo_25, e_X12_undo_28, e_X12_undo_29, e_X12_undo_32, e_X12_undo_34, e_X12_undo_35, e_X12_undo_36, e_X12_undo_37, e_X12_undo_40, e_X12_undo_42, e_X12_undo_43, e_X12_undo_46, e_X12_undo_47, e_X12_undo_48, e_X12_undo_49, e_X12_undo_50, e_X12_undo_51, e_X12_undo_54, e_X12_undo_57, e_X12_undo_58, e_X12_undo_61, g_12_143_11, g_12_20_11, g_12_7_11, p_12_143_11, hc, if_neg e5, nI_sub1]
    all_goals rfl
  simp (disch := first | exact xnl_i _ | exact xnl_r _ | exact xnl_u _ | exact xnl_n | exact zI_2 | exact zI_24 | assumption | omega | (simp only [xset_len]; omega)) only [↓reduceIte, xbd_s, xpv_n, xpv_s, e_X12_undo_0, e_X12_undo_1, e_X12_undo_4, e_X12_undo_7, e_X12_undo_9, e_X12_undo_10, e_X12_undo_11, e_X12_undo_12, e_X12_undo_15, e_X12_undo_16, e_X12_undo_17, e_X12_undo_20, e_X12_undo_21, e_X12_undo_23, e_X12_undo_25, e_X12_undo_28, e_X12_undo_29, e_X12_undo_32, e_X12_undo_34, e_X12_undo_35, e_X12_undo_36, e_X12_undo_37, e_X12_undo_40, e_X12_undo_42, e_X12_undo_43, e_X12_undo_46, e_X12_undo_47, e_X12_undo_48, e_X12_undo_49, e_X12_undo_50, e_X12_undo_51, e_X12_undo_54, e_X12_undo_57, e_X12_undo_58, e_X12_undo_61, g_12_143_11, g_12_20_11, g_12_7_11, p_12_143_11]
  refine e1.trans ?_
  simp (disch := first | exact xnl_i _ | exact xnl_r _ | exact xnl_u _ | exact xnl_n | exact zI_2 | exact zI_24 | assumption | omega | (simp only [xset_len]; omega)) only [↓reduceIte, xbd_s, xpv_n, xpv_s, e_X12_undo_0, e_X12_undo_1, e_X12_undo_4, e_X12_undo_7, e_X12_undo_9, e_X12_undo_10, e_X12_undo_11, e_X12_undo_12, e_X12_undo_15, e_X12_undo_16, e_X12_undo_17, e_X12_undo_20, e_X12_undo_21, e_X12_undo_22, e_X12_undo_23, e_X12_undo_25, e_X12_undo_28, e_X12_undo_29, e_X12_undo_32, e_X12_undo_34, e_X12_undo_35, e_X12_undo_36, e_X12_undo_37, e_X12_undo_40, e_X12_undo_42, e_X12_undo_43, e_X12_undo_46, e_X12_undo_47, e_X12_undo_48, e_X12_undo_49, e_X12_undo_50, e_X12_undo_51, e_X12_undo_54, e_X12_undo_57, e_X12_undo_58, e_X12_undo_61, g_12_143_11, g_12_20_11, g_12_7_11, p_12_143_11, hc1, if_neg e4]
end XMN
