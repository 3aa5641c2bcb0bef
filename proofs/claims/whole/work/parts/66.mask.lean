/-! the reference: TRACE, SIZE and MARK, as, count -/
def mAk (X : xS) (h h' : xH) (S : Nat → Int32) (nm : Int64) (A : Nat → Nat → Int32) (len : Nat) (bs : List Int32) : Prop := xMB X h' (upd S 13 (nI (len + bs.length))) nm (setA A 9 (lvS bs len (A 9))) ∧ xFr X inM h h'
theorem mAk_tr {X : xS} {h h1 h2 : xH} {S : Nat → Int32} {nm : Int64} {A : Nat → Nat → Int32} {len : Nat} {b1 b2 : List Int32} (e : mAk X h h1 S nm A len b1) (f : mAk X h1 h2 (upd S 13 (nI (len + b1.length))) nm (setA A 9 (lvS b1 len (A 9))) (len + b1.length) b2) : mAk X h h2 S nm A len (b1 ++ b2) := by
  refine ⟨?_, xFr_tr e.2 f.2⟩
  have := f.1
  rw [upd_upd, setA_setA, setA_eq, ← lvS_app, Nat.add_assoc, ← List.length_append] at this
  exact this
/-- one body of the reference -/
def mBo (X : xS) (m : xMd) (as : List Value) (f : Nat → Int32) (v : Int32) (bs : List Int32) : Prop := ∀ h S nm A len, xMB X h S nm A → (∀ k, A 0 k = f k) → S 13 = nI len → len + bs.length ≤ 16 → ∃ h', xR X m 0 as [] h = some (some (.int v), h') ∧ mAk X h h' S nm A len bs
section XMA
variable {X : xS} {h : xH} {S : Nat → Int32} {nm : Int64} {A : Nat → Nat → Int32} {f : Nat → Int32} {s : Nat}
theorem m_begins (hM : xMB X h S nm A) {len : Nat} (hS : S 13 = nI len) (hl : len < 16) (x : Int32) : ∃ h', xR X m_X12_begins 0 [.ref 169, .int x] [] h = some (none, h') ∧ mAk X h h' S nm A len [x] := by
  have M1 := xMB_9 (f := upd (A 9) len x) hM
  have M2 := xMB_S (S' := upd S 13 (nI (len + 1))) (nm' := nm) M1
  refine ⟨_, ?_, M2, xFr_tr (xFr_set (by omega) ⟨by omega, by omega⟩) (xFr_set (by omega) ⟨by omega, by omega⟩)⟩
  have c1 := M1.1
  obtain ⟨hc, a0, a1, a2, a3, a4, a5, a6, a7, a8, a9⟩ := hM
  rw [hS] at hc c1
  have e1 : nI len < nI 16 := nI_lt hl (by omega)
  simp (disch := first | exact xnl_i _ | exact xnl_r _ | exact xnl_u _ | exact xnl_n | exact zI_2 | exact zI_24 | assumption | omega | (simp only [xset_len]; omega)) only [↓reduceIte, xbd_s, xpv_n, xpv_s, e_X12_begins_0, e_X12_begins_1, e_X12_begins_4, e_X12_begins_6, e_X12_begins_9, e_X12_begins_10, e_X12_begins_13, e_X12_begins_14, e_X12_begins_17, e_X12_begins_18, e_X12_begins_19, e_X12_begins_20, e_X12_begins_21, e_X12_begins_24, e_X12_begins_25, e_X12_begins_26, e_X12_begins_29, g_12_209_11, g_12_38_11, p_12_209_11, hc, a9, if_pos e1, xs_i, c1, nI_inc]
  rfl
theorem mb_lentSize (hs : s < 7) : mBo X m_X12_lentSize [.ref 169, .int (nI s)] f (f (10 + s)) [nI 10] := by
  intro h S nm A len hM hA hS hl
  dsimp only [List.length_cons, List.length_nil] at hl
  have hc := hM.1
  have a0 := hM.2.1
  obtain ⟨h1, e1, j1⟩ := m_begins hM hS (by first | omega | (simp only [List.length_cons, List.length_nil, List.length_append]; omega)) (nI 10)
  have k1 := j1
  have c1 := k1.1.1
  have b1 := k1.1.2.1
  rw [setA_ne (by decide)] at b1
  exact ⟨h1, by simp (disch := first | exact xnl_i _ | exact xnl_r _ | exact xnl_u _ | exact xnl_n | exact zI_2 | exact zI_24 | assumption | omega | (simp only [xset_len]; omega)) only [↓reduceIte, xbd_s, xpv_n, xpv_s, e_X12_lentSize_0, e_X12_lentSize_1, e_X12_lentSize_3, c_X12_lentSize_212_11_0, e_X12_lentSize_6, e_X12_lentSize_7, e_X12_lentSize_10, e_X12_lentSize_12, e_X12_lentSize_13, e_X12_lentSize_14, e_X12_lentSize_15, g_12_7_11, hc, a0, e1, c1, b1, nI_add, xl_i, hA], k1⟩
theorem mb_lentMark (hs : s < 7) : mBo X m_X12_lentMark [.ref 169, .int (nI s)] f (nI s) [nI 20] := by
  intro h S nm A len hM hA hS hl
  dsimp only [List.length_cons, List.length_nil] at hl
  have hc := hM.1
  have a0 := hM.2.1
  obtain ⟨h1, e1, j1⟩ := m_begins hM hS (by first | omega | (simp only [List.length_cons, List.length_nil, List.length_append]; omega)) (nI 20)
  have k1 := j1
  have c1 := k1.1.1
  have b1 := k1.1.2.1
  rw [setA_ne (by decide)] at b1
  exact ⟨h1, by simp (disch := first | exact xnl_i _ | exact xnl_r _ | exact xnl_u _ | exact xnl_n | exact zI_2 | exact zI_24 | assumption | omega | (simp only [xset_len]; omega)) only [↓reduceIte, xbd_s, xpv_n, xpv_s, e_X12_lentMark_0, e_X12_lentMark_1, e_X12_lentMark_3, c_X12_lentMark_212_11_0, e_X12_lentMark_6, e_X12_lentMark_7, hc, a0, e1, c1, b1, nI_add, xl_i, hA], k1⟩
theorem mb_openMark (hs : s < 7) : mBo X m_X12_openMark [.ref 169, .int (nI s)] f (nI s + f (26 + s)) [nI 21, nI 20] := by
  intro h S nm A len hM hA hS hl
  dsimp only [List.length_cons, List.length_nil] at hl
  have hc := hM.1
  have a0 := hM.2.1
  obtain ⟨h1, e1, j1⟩ := m_begins hM hS (by first | omega | (simp only [List.length_cons, List.length_nil, List.length_append]; omega)) (nI 21)
  have k1 := j1
  have c1 := k1.1.1
  have b1 := k1.1.2.1
  rw [setA_ne (by decide)] at b1
  obtain ⟨h2, e2, j2⟩ := mb_lentMark (f := f) hs _ _ _ _ _ k1.1 (fun k => by rw [setA_ne (by decide)]; exact hA k) upd_eq (by first | omega | (simp only [List.length_cons, List.length_nil, List.length_append]; omega))
  have k2 := mAk_tr k1 j2
  have c2 := k2.1.1
  have b2 := k2.1.2.1
  rw [setA_ne (by decide)] at b2
  exact ⟨h2, by simp (disch := first | exact xnl_i _ | exact xnl_r _ | exact xnl_u _ | exact xnl_n | exact zI_2 | exact zI_24 | assumption | omega | (simp only [xset_len]; omega)) only [↓reduceIte, xbd_s, xpv_n, xpv_s, e_X12_openMark_0, e_X12_openMark_1, e_X12_openMark_3, c_X12_openMark_212_11_0, c_X12_openMark_216_11_0, e_X12_openMark_6, e_X12_openMark_7, e_X12_openMark_8, e_X12_openMark_11, e_X12_openMark_12, e_X12_openMark_15, e_X12_openMark_17, e_X12_openMark_18, e_X12_openMark_19, e_X12_openMark_20, e_X12_openMark_21, g_12_7_11, hc, a0, e1, c1, b1, e2, c2, b2, nI_add, xl_i, hA], k2⟩
theorem ni_eq {i j : Nat} (hi : i < 100) (hj : j < 100) (hij : i ≠ j) : ¬ nI i = nI j := by
  rw [xeq_i, nI_toInt (by omega), nI_toInt (by omega)]
  omega
theorem mb_markOfOpen_1 (hs : s < 7) (hk : f (3 + s) = nI 1) : mBo X m_X12_markOfOpen [.ref 169, .int (nI s), xU] f (nI s + f (26 + s)) [nI 21, nI 20] := by
  intro h S nm A len hM hA hS hl
  dsimp only [List.length_cons, List.length_nil] at hl
  have hc := hM.1
  have a0 := hM.2.1
  obtain ⟨h1, e1, j1⟩ := mb_openMark (f := f) hs _ _ _ _ _ hM hA hS (by first | omega | (simp only [List.length_cons, List.length_nil, List.length_append]; omega))
  have k1 := j1
  have c1 := k1.1.1
  have b1 := k1.1.2.1
  rw [setA_ne (by decide)] at b1
  exact ⟨h1, by simp (disch := first | exact xnl_i _ | exact xnl_r _ | exact xnl_u _ | exact xnl_n | exact zI_2 | exact zI_24 | assumption | omega | (simp only [xset_len]; omega)) only [↓reduceIte, xbd_s, xpv_n, xpv_s, e_X12_markOfOpen_0, e_X12_markOfOpen_1, e_X12_markOfOpen_4, e_X12_markOfOpen_5, e_X12_markOfOpen_6, e_X12_markOfOpen_7, e_X12_markOfOpen_8, e_X12_markOfOpen_9, e_X12_markOfOpen_10, e_X12_markOfOpen_11, e_X12_markOfOpen_14, e_X12_markOfOpen_15, e_X12_markOfOpen_17, c_X12_markOfOpen_212_11_0, c_X12_markOfOpen_219_11_1, c_X12_markOfOpen_219_11_0, e_X12_markOfOpen_20, e_X12_markOfOpen_21, e_X12_markOfOpen_22, e_X12_markOfOpen_23, e_X12_markOfOpen_26, e_X12_markOfOpen_27, e_X12_markOfOpen_28, e_X12_markOfOpen_29, e_X12_markOfOpen_30, e_X12_markOfOpen_33, e_X12_markOfOpen_34, e_X12_markOfOpen_36, e_X12_markOfOpen_39, e_X12_markOfOpen_40, e_X12_markOfOpen_41, e_X12_markOfOpen_44, e_X12_markOfOpen_47, e_X12_markOfOpen_48, e_X12_markOfOpen_49, e_X12_markOfOpen_50, e_X12_markOfOpen_51, e_X12_markOfOpen_54, g_12_7_11, hc, a0, e1, c1, b1, nI_add, xl_i, hA, hk, if_neg (ni_eq (i := 1) (j := 2) (by omega) (by omega) (by omega)), if_neg (ni_eq (i := 1) (j := 3) (by omega) (by omega) (by omega))], k1⟩
theorem mb_markOfOpen_2 (hs : s < 7) (hk : f (3 + s) = nI 2) : mBo X m_X12_markOfOpen [.ref 169, .int (nI s), xU] f (nI 2 * (nI s + f (26 + s))) [nI 24, nI 21, nI 20] := by
  intro h S nm A len hM hA hS hl
  dsimp only [List.length_cons, List.length_nil] at hl
  have hc := hM.1
  have a0 := hM.2.1
  obtain ⟨h1, e1, j1⟩ := m_begins hM hS (by first | omega | (simp only [List.length_cons, List.length_nil, List.length_append]; omega)) (nI 24)
  have k1 := j1
  have c1 := k1.1.1
  have b1 := k1.1.2.1
  rw [setA_ne (by decide)] at b1
  obtain ⟨h2, e2, j2⟩ := mb_openMark (f := f) hs _ _ _ _ _ k1.1 (fun k => by rw [setA_ne (by decide)]; exact hA k) upd_eq (by first | omega | (simp only [List.length_cons, List.length_nil, List.length_append]; omega))
  have k2 := mAk_tr k1 j2
  have c2 := k2.1.1
  have b2 := k2.1.2.1
  rw [setA_ne (by decide)] at b2
  exact ⟨h2, by simp (disch := first | exact xnl_i _ | exact xnl_r _ | exact xnl_u _ | exact xnl_n | exact zI_2 | exact zI_24 | assumption | omega | (simp only [xset_len]; omega)) only [↓reduceIte, xbd_s, xpv_n, xpv_s, e_X12_markOfOpen_0, e_X12_markOfOpen_1, e_X12_markOfOpen_4, e_X12_markOfOpen_5, e_X12_markOfOpen_6, e_X12_markOfOpen_7, e_X12_markOfOpen_8, e_X12_markOfOpen_9, e_X12_markOfOpen_10, e_X12_markOfOpen_11, e_X12_markOfOpen_14, e_X12_markOfOpen_15, e_X12_markOfOpen_17, c_X12_markOfOpen_212_11_0, c_X12_markOfOpen_219_11_1, c_X12_markOfOpen_219_11_0, e_X12_markOfOpen_20, e_X12_markOfOpen_21, e_X12_markOfOpen_22, e_X12_markOfOpen_23, e_X12_markOfOpen_26, e_X12_markOfOpen_27, e_X12_markOfOpen_28, e_X12_markOfOpen_29, e_X12_markOfOpen_30, e_X12_markOfOpen_33, e_X12_markOfOpen_34, e_X12_markOfOpen_36, e_X12_markOfOpen_39, e_X12_markOfOpen_40, e_X12_markOfOpen_41, e_X12_markOfOpen_44, e_X12_markOfOpen_47, e_X12_markOfOpen_48, e_X12_markOfOpen_49, e_X12_markOfOpen_50, e_X12_markOfOpen_51, e_X12_markOfOpen_54, g_12_7_11, hc, a0, e1, c1, b1, e2, c2, b2, nI_add, xl_i, hA, hk, if_pos (show nI 2 = nI 2 from rfl), if_neg (ni_eq (i := 2) (j := 3) (by omega) (by omega) (by omega))], k2⟩
theorem mb_markOfOpen_3 (hs : s < 7) (hk : f (3 + s) = nI 3) : mBo X m_X12_markOfOpen [.ref 169, .int (nI s), xU] f (nI s + f (26 + s) - nI 1000) [nI 22, nI 21, nI 20] := by
  intro h S nm A len hM hA hS hl
  dsimp only [List.length_cons, List.length_nil] at hl
  have hc := hM.1
  have a0 := hM.2.1
  obtain ⟨h1, e1, j1⟩ := m_begins hM hS (by first | omega | (simp only [List.length_cons, List.length_nil, List.length_append]; omega)) (nI 22)
  have k1 := j1
  have c1 := k1.1.1
  have b1 := k1.1.2.1
  rw [setA_ne (by decide)] at b1
  obtain ⟨h2, e2, j2⟩ := mb_openMark (f := f) hs _ _ _ _ _ k1.1 (fun k => by rw [setA_ne (by decide)]; exact hA k) upd_eq (by first | omega | (simp only [List.length_cons, List.length_nil, List.length_append]; omega))
  have k2 := mAk_tr k1 j2
  have c2 := k2.1.1
  have b2 := k2.1.2.1
  rw [setA_ne (by decide)] at b2
  exact ⟨h2, by simp (disch := first | exact xnl_i _ | exact xnl_r _ | exact xnl_u _ | exact xnl_n | exact zI_2 | exact zI_24 | assumption | omega | (simp only [xset_len]; omega)) only [↓reduceIte, xbd_s, xpv_n, xpv_s, e_X12_markOfOpen_0, e_X12_markOfOpen_1, e_X12_markOfOpen_4, e_X12_markOfOpen_5, e_X12_markOfOpen_6, e_X12_markOfOpen_7, e_X12_markOfOpen_8, e_X12_markOfOpen_9, e_X12_markOfOpen_10, e_X12_markOfOpen_11, e_X12_markOfOpen_14, e_X12_markOfOpen_15, e_X12_markOfOpen_17, c_X12_markOfOpen_212_11_0, c_X12_markOfOpen_219_11_1, c_X12_markOfOpen_219_11_0, e_X12_markOfOpen_20, e_X12_markOfOpen_21, e_X12_markOfOpen_22, e_X12_markOfOpen_23, e_X12_markOfOpen_26, e_X12_markOfOpen_27, e_X12_markOfOpen_28, e_X12_markOfOpen_29, e_X12_markOfOpen_30, e_X12_markOfOpen_33, e_X12_markOfOpen_34, e_X12_markOfOpen_36, e_X12_markOfOpen_39, e_X12_markOfOpen_40, e_X12_markOfOpen_41, e_X12_markOfOpen_44, e_X12_markOfOpen_47, e_X12_markOfOpen_48, e_X12_markOfOpen_49, e_X12_markOfOpen_50, e_X12_markOfOpen_51, e_X12_markOfOpen_54, g_12_7_11, hc, a0, e1, c1, b1, e2, c2, b2, nI_add, xl_i, hA, hk, if_neg (ni_eq (i := 3) (j := 2) (by omega) (by omega) (by omega)), if_pos (show nI 3 = nI 3 from rfl)], k2⟩
theorem mb_openSize_1 (hs : s < 7) (hk : f (3 + s) = nI 1) : mBo X m_X12_openSize [.ref 169, .int (nI s), xU] f (f (10 + s) + (nI s + f (26 + s))) [nI 11, nI 10, nI 21, nI 20] := by
  intro h S nm A len hM hA hS hl
  dsimp only [List.length_cons, List.length_nil] at hl
  have hc := hM.1
  have a0 := hM.2.1
  obtain ⟨h1, e1, j1⟩ := m_begins hM hS (by first | omega | (simp only [List.length_cons, List.length_nil, List.length_append]; omega)) (nI 11)
  have k1 := j1
  have c1 := k1.1.1
  have b1 := k1.1.2.1
  rw [setA_ne (by decide)] at b1
  obtain ⟨h2, e2, j2⟩ := mb_lentSize (f := f) hs _ _ _ _ _ k1.1 (fun k => by rw [setA_ne (by decide)]; exact hA k) upd_eq (by first | omega | (simp only [List.length_cons, List.length_nil, List.length_append]; omega))
  have k2 := mAk_tr k1 j2
  have c2 := k2.1.1
  have b2 := k2.1.2.1
  rw [setA_ne (by decide)] at b2
  obtain ⟨h3, e3, j3⟩ := mb_markOfOpen_1 (f := f) hs hk _ _ _ _ _ k2.1 (fun k => by rw [setA_ne (by decide)]; exact hA k) upd_eq (by first | omega | (simp only [List.length_cons, List.length_nil, List.length_append]; omega))
  have k3 := mAk_tr k2 j3
  have c3 := k3.1.1
  have b3 := k3.1.2.1
  rw [setA_ne (by decide)] at b3
  exact ⟨h3, by simp (disch := first | exact xnl_i _ | exact xnl_r _ | exact xnl_u _ | exact xnl_n | exact zI_2 | exact zI_24 | assumption | omega | (simp only [xset_len]; omega)) only [↓reduceIte, xbd_s, xpv_n, xpv_s, e_X12_openSize_0, e_X12_openSize_1, e_X12_openSize_3, c_X12_openSize_212_11_0, c_X12_openSize_222_11_0, c_X12_openSize_225_11_1, e_X12_openSize_6, e_X12_openSize_7, e_X12_openSize_8, e_X12_openSize_11, e_X12_openSize_12, e_X12_openSize_13, e_X12_openSize_14, e_X12_openSize_15, e_X12_openSize_18, e_X12_openSize_19, hc, a0, e1, c1, b1, e2, c2, b2, e3, c3, b3, nI_add, xl_i, hA], k3⟩
theorem mb_openSize_2 (hs : s < 7) (hk : f (3 + s) = nI 2) : mBo X m_X12_openSize [.ref 169, .int (nI s), xU] f (f (10 + s) + (nI 2 * (nI s + f (26 + s)))) [nI 11, nI 10, nI 24, nI 21, nI 20] := by
  intro h S nm A len hM hA hS hl
  dsimp only [List.length_cons, List.length_nil] at hl
  have hc := hM.1
  have a0 := hM.2.1
  obtain ⟨h1, e1, j1⟩ := m_begins hM hS (by first | omega | (simp only [List.length_cons, List.length_nil, List.length_append]; omega)) (nI 11)
  have k1 := j1
  have c1 := k1.1.1
  have b1 := k1.1.2.1
  rw [setA_ne (by decide)] at b1
  obtain ⟨h2, e2, j2⟩ := mb_lentSize (f := f) hs _ _ _ _ _ k1.1 (fun k => by rw [setA_ne (by decide)]; exact hA k) upd_eq (by first | omega | (simp only [List.length_cons, List.length_nil, List.length_append]; omega))
  have k2 := mAk_tr k1 j2
  have c2 := k2.1.1
  have b2 := k2.1.2.1
  rw [setA_ne (by decide)] at b2
  obtain ⟨h3, e3, j3⟩ := mb_markOfOpen_2 (f := f) hs hk _ _ _ _ _ k2.1 (fun k => by rw [setA_ne (by decide)]; exact hA k) upd_eq (by first | omega | (simp only [List.length_cons, List.length_nil, List.length_append]; omega))
  have k3 := mAk_tr k2 j3
  have c3 := k3.1.1
  have b3 := k3.1.2.1
  rw [setA_ne (by decide)] at b3
  exact ⟨h3, by simp (disch := first | exact xnl_i _ | exact xnl_r _ | exact xnl_u _ | exact xnl_n | exact zI_2 | exact zI_24 | assumption | omega | (simp only [xset_len]; omega)) only [↓reduceIte, xbd_s, xpv_n, xpv_s, e_X12_openSize_0, e_X12_openSize_1, e_X12_openSize_3, c_X12_openSize_212_11_0, c_X12_openSize_222_11_0, c_X12_openSize_225_11_1, e_X12_openSize_6, e_X12_openSize_7, e_X12_openSize_8, e_X12_openSize_11, e_X12_openSize_12, e_X12_openSize_13, e_X12_openSize_14, e_X12_openSize_15, e_X12_openSize_18, e_X12_openSize_19, hc, a0, e1, c1, b1, e2, c2, b2, e3, c3, b3, nI_add, xl_i, hA], k3⟩
theorem mb_openSize_3 (hs : s < 7) (hk : f (3 + s) = nI 3) : mBo X m_X12_openSize [.ref 169, .int (nI s), xU] f (f (10 + s) + (nI s + f (26 + s) - nI 1000)) [nI 11, nI 10, nI 22, nI 21, nI 20] := by
  intro h S nm A len hM hA hS hl
  dsimp only [List.length_cons, List.length_nil] at hl
  have hc := hM.1
  have a0 := hM.2.1
  obtain ⟨h1, e1, j1⟩ := m_begins hM hS (by first | omega | (simp only [List.length_cons, List.length_nil, List.length_append]; omega)) (nI 11)
  have k1 := j1
  have c1 := k1.1.1
  have b1 := k1.1.2.1
  rw [setA_ne (by decide)] at b1
  obtain ⟨h2, e2, j2⟩ := mb_lentSize (f := f) hs _ _ _ _ _ k1.1 (fun k => by rw [setA_ne (by decide)]; exact hA k) upd_eq (by first | omega | (simp only [List.length_cons, List.length_nil, List.length_append]; omega))
  have k2 := mAk_tr k1 j2
  have c2 := k2.1.1
  have b2 := k2.1.2.1
  rw [setA_ne (by decide)] at b2
  obtain ⟨h3, e3, j3⟩ := mb_markOfOpen_3 (f := f) hs hk _ _ _ _ _ k2.1 (fun k => by rw [setA_ne (by decide)]; exact hA k) upd_eq (by first | omega | (simp only [List.length_cons, List.length_nil, List.length_append]; omega))
  have k3 := mAk_tr k2 j3
  have c3 := k3.1.1
  have b3 := k3.1.2.1
  rw [setA_ne (by decide)] at b3
  exact ⟨h3, by simp (disch := first | exact xnl_i _ | exact xnl_r _ | exact xnl_u _ | exact xnl_n | exact zI_2 | exact zI_24 | assumption | omega | (simp only [xset_len]; omega)) only [↓reduceIte, xbd_s, xpv_n, xpv_s, e_X12_openSize_0, e_X12_openSize_1, e_X12_openSize_3, c_X12_openSize_212_11_0, c_X12_openSize_222_11_0, c_X12_openSize_225_11_1, e_X12_openSize_6, e_X12_openSize_7, e_X12_openSize_8, e_X12_openSize_11, e_X12_openSize_12, e_X12_openSize_13, e_X12_openSize_14, e_X12_openSize_15, e_X12_openSize_18, e_X12_openSize_19, hc, a0, e1, c1, b1, e2, c2, b2, e3, c3, b3, nI_add, xl_i, hA], k3⟩
theorem mb_cornerSize (hs : s < 7) : mBo X m_X12_cornerSize [.ref 169, .int (nI s)] f (f (10 + s) - nI 100) [nI 13, nI 10] := by
  intro h S nm A len hM hA hS hl
  dsimp only [List.length_cons, List.length_nil] at hl
  have hc := hM.1
  have a0 := hM.2.1
  obtain ⟨h1, e1, j1⟩ := m_begins hM hS (by first | omega | (simp only [List.length_cons, List.length_nil, List.length_append]; omega)) (nI 13)
  have k1 := j1
  have c1 := k1.1.1
  have b1 := k1.1.2.1
  rw [setA_ne (by decide)] at b1
  obtain ⟨h2, e2, j2⟩ := mb_lentSize (f := f) hs _ _ _ _ _ k1.1 (fun k => by rw [setA_ne (by decide)]; exact hA k) upd_eq (by first | omega | (simp only [List.length_cons, List.length_nil, List.length_append]; omega))
  have k2 := mAk_tr k1 j2
  have c2 := k2.1.1
  have b2 := k2.1.2.1
  rw [setA_ne (by decide)] at b2
  exact ⟨h2, by simp (disch := first | exact xnl_i _ | exact xnl_r _ | exact xnl_u _ | exact xnl_n | exact zI_2 | exact zI_24 | assumption | omega | (simp only [xset_len]; omega)) only [↓reduceIte, xbd_s, xpv_n, xpv_s, e_X12_cornerSize_0, e_X12_cornerSize_1, e_X12_cornerSize_3, c_X12_cornerSize_212_11_0, c_X12_cornerSize_222_11_0, e_X12_cornerSize_6, e_X12_cornerSize_7, e_X12_cornerSize_8, e_X12_cornerSize_11, e_X12_cornerSize_13, e_X12_cornerSize_14, hc, a0, e1, c1, b1, e2, c2, b2, nI_add, xl_i, hA], k2⟩
theorem mb_sizeOfCorners_4 (hs : s < 7) (hk : f (3 + s) = nI 4) : mBo X m_X12_sizeOfCorners [.ref 169, .int (nI s)] f (f (10 + s) - nI 100) [nI 13, nI 10] := by
  intro h S nm A len hM hA hS hl
  dsimp only [List.length_cons, List.length_nil] at hl
  have hc := hM.1
  have a0 := hM.2.1
  obtain ⟨h1, e1, j1⟩ := mb_cornerSize (f := f) hs _ _ _ _ _ hM hA hS (by first | omega | (simp only [List.length_cons, List.length_nil, List.length_append]; omega))
  have k1 := j1
  have c1 := k1.1.1
  have b1 := k1.1.2.1
  rw [setA_ne (by decide)] at b1
  exact ⟨h1, by simp (disch := first | exact xnl_i _ | exact xnl_r _ | exact xnl_u _ | exact xnl_n | exact zI_2 | exact zI_24 | assumption | omega | (simp only [xset_len]; omega)) only [↓reduceIte, xbd_s, xpv_n, xpv_s, e_X12_sizeOfCorners_0, e_X12_sizeOfCorners_1, e_X12_sizeOfCorners_4, e_X12_sizeOfCorners_5, e_X12_sizeOfCorners_6, e_X12_sizeOfCorners_7, e_X12_sizeOfCorners_8, e_X12_sizeOfCorners_9, e_X12_sizeOfCorners_12, e_X12_sizeOfCorners_13, e_X12_sizeOfCorners_15, c_X12_sizeOfCorners_212_11_0, c_X12_sizeOfCorners_228_11_1, c_X12_sizeOfCorners_228_11_0, e_X12_sizeOfCorners_18, e_X12_sizeOfCorners_19, e_X12_sizeOfCorners_20, e_X12_sizeOfCorners_21, e_X12_sizeOfCorners_24, e_X12_sizeOfCorners_25, e_X12_sizeOfCorners_26, e_X12_sizeOfCorners_27, e_X12_sizeOfCorners_28, e_X12_sizeOfCorners_31, g_12_7_11, hc, a0, e1, c1, b1, nI_add, xl_i, hA, hk, if_neg (ni_eq (i := 4) (j := 5) (by omega) (by omega) (by omega))], k1⟩
theorem mb_sizeOfCorners_5 (hs : s < 7) (hk : f (3 + s) = nI 5) : mBo X m_X12_sizeOfCorners [.ref 169, .int (nI s)] f (nI 2 * (f (10 + s) - nI 100)) [nI 14, nI 13, nI 10] := by
  intro h S nm A len hM hA hS hl
  dsimp only [List.length_cons, List.length_nil] at hl
  have hc := hM.1
  have a0 := hM.2.1
  obtain ⟨h1, e1, j1⟩ := m_begins hM hS (by first | omega | (simp only [List.length_cons, List.length_nil, List.length_append]; omega)) (nI 14)
  have k1 := j1
  have c1 := k1.1.1
  have b1 := k1.1.2.1
  rw [setA_ne (by decide)] at b1
  obtain ⟨h2, e2, j2⟩ := mb_cornerSize (f := f) hs _ _ _ _ _ k1.1 (fun k => by rw [setA_ne (by decide)]; exact hA k) upd_eq (by first | omega | (simp only [List.length_cons, List.length_nil, List.length_append]; omega))
  have k2 := mAk_tr k1 j2
  have c2 := k2.1.1
  have b2 := k2.1.2.1
  rw [setA_ne (by decide)] at b2
  exact ⟨h2, by simp (disch := first | exact xnl_i _ | exact xnl_r _ | exact xnl_u _ | exact xnl_n | exact zI_2 | exact zI_24 | assumption | omega | (simp only [xset_len]; omega)) only [↓reduceIte, xbd_s, xpv_n, xpv_s, e_X12_sizeOfCorners_0, e_X12_sizeOfCorners_1, e_X12_sizeOfCorners_4, e_X12_sizeOfCorners_5, e_X12_sizeOfCorners_6, e_X12_sizeOfCorners_7, e_X12_sizeOfCorners_8, e_X12_sizeOfCorners_9, e_X12_sizeOfCorners_12, e_X12_sizeOfCorners_13, e_X12_sizeOfCorners_15, c_X12_sizeOfCorners_212_11_0, c_X12_sizeOfCorners_228_11_1, c_X12_sizeOfCorners_228_11_0, e_X12_sizeOfCorners_18, e_X12_sizeOfCorners_19, e_X12_sizeOfCorners_20, e_X12_sizeOfCorners_21, e_X12_sizeOfCorners_24, e_X12_sizeOfCorners_25, e_X12_sizeOfCorners_26, e_X12_sizeOfCorners_27, e_X12_sizeOfCorners_28, e_X12_sizeOfCorners_31, g_12_7_11, hc, a0, e1, c1, b1, e2, c2, b2, nI_add, xl_i, hA, hk, if_pos (show nI 5 = nI 5 from rfl)], k2⟩
theorem in45 {X : xS} {h : xH} (k : Nat) (h1 : 1 ≤ k) (h2 : k ≤ 5) : xR X m_X12_in 0 [.int (nI k), .int (nI 4), .int (nI 5)] [] h = some (some (.int (if k < 4 then 0 else 1)), h) := by
  have i3 : k = 1 ∨ k = 2 ∨ k = 3 ∨ k = 4 ∨ k = 5 := by omega
  rcases i3 with rfl | rfl | rfl | rfl | rfl
  · exact m_inF (Or.inl (by decide))
  · exact m_inF (Or.inl (by decide))
  · exact m_inF (Or.inl (by decide))
  · exact m_inT (by decide) (by decide)
  · exact m_inT (by decide) (by decide)
theorem mb_sizeOf_1 (hs : s < 7) (hk : f (3 + s) = nI 1) : mBo X m_X12_sizeOf [.ref 169, .int (nI s)] f (f (10 + s) + (nI s + f (26 + s))) [nI 11, nI 10, nI 21, nI 20] := by
  intro h S nm A len hM hA hS hl
  dsimp only [List.length_cons, List.length_nil] at hl
  have hc := hM.1
  have a0 := hM.2.1
  obtain ⟨h1, e1, j1⟩ := mb_openSize_1 (f := f) hs hk _ _ _ _ _ hM hA hS (by first | omega | (simp only [List.length_cons, List.length_nil, List.length_append]; omega))
  have k1 := j1
  have c1 := k1.1.1
  have b1 := k1.1.2.1
  rw [setA_ne (by decide)] at b1
  exact ⟨h1, by simp (disch := first | exact xnl_i _ | exact xnl_r _ | exact xnl_u _ | exact xnl_n | exact zI_2 | exact zI_24 | assumption | omega | (simp only [xset_len]; omega)) only [↓reduceIte, xbd_s, xpv_n, xpv_s, e_X12_sizeOf_0, e_X12_sizeOf_1, e_X12_sizeOf_4, e_X12_sizeOf_5, e_X12_sizeOf_6, e_X12_sizeOf_7, e_X12_sizeOf_8, e_X12_sizeOf_9, e_X12_sizeOf_10, e_X12_sizeOf_13, e_X12_sizeOf_16, e_X12_sizeOf_17, e_X12_sizeOf_18, c_X12_sizeOf_231_11_0, c_X12_sizeOf_212_11_0, c_X12_sizeOf_234_11_0, e_X12_sizeOf_21, e_X12_sizeOf_22, e_X12_sizeOf_23, e_X12_sizeOf_26, e_X12_sizeOf_27, e_X12_sizeOf_28, e_X12_sizeOf_29, e_X12_sizeOf_30, e_X12_sizeOf_31, e_X12_sizeOf_34, e_X12_sizeOf_35, e_X12_sizeOf_37, e_X12_sizeOf_40, e_X12_sizeOf_41, e_X12_sizeOf_42, e_X12_sizeOf_45, e_X12_sizeOf_46, e_X12_sizeOf_47, e_X12_sizeOf_48, e_X12_sizeOf_49, e_X12_sizeOf_52, g_12_7_11, hc, a0, e1, c1, b1, nI_add, xl_i, hA, hk, in45 1 (by omega) (by omega), if_pos (show 1 < 4 by omega), ne10, if_neg (ni_eq (i := 1) (j := 2) (by omega) (by omega) (by omega))], k1⟩
theorem mb_sizeOf_2 (hs : s < 7) (hk : f (3 + s) = nI 2) : mBo X m_X12_sizeOf [.ref 169, .int (nI s)] f (-(f (10 + s) + (nI 2 * (nI s + f (26 + s))))) [nI 12, nI 11, nI 10, nI 24, nI 21, nI 20] := by
  intro h S nm A len hM hA hS hl
  dsimp only [List.length_cons, List.length_nil] at hl
  have hc := hM.1
  have a0 := hM.2.1
  obtain ⟨h1, e1, j1⟩ := m_begins hM hS (by first | omega | (simp only [List.length_cons, List.length_nil, List.length_append]; omega)) (nI 12)
  have k1 := j1
  have c1 := k1.1.1
  have b1 := k1.1.2.1
  rw [setA_ne (by decide)] at b1
  obtain ⟨h2, e2, j2⟩ := mb_openSize_2 (f := f) hs hk _ _ _ _ _ k1.1 (fun k => by rw [setA_ne (by decide)]; exact hA k) upd_eq (by first | omega | (simp only [List.length_cons, List.length_nil, List.length_append]; omega))
  have k2 := mAk_tr k1 j2
  have c2 := k2.1.1
  have b2 := k2.1.2.1
  rw [setA_ne (by decide)] at b2
  exact ⟨h2, by simp (disch := first | exact xnl_i _ | exact xnl_r _ | exact xnl_u _ | exact xnl_n | exact zI_2 | exact zI_24 | assumption | omega | (simp only [xset_len]; omega)) only [↓reduceIte, xbd_s, xpv_n, xpv_s, e_X12_sizeOf_0, e_X12_sizeOf_1, e_X12_sizeOf_4, e_X12_sizeOf_5, e_X12_sizeOf_6, e_X12_sizeOf_7, e_X12_sizeOf_8, e_X12_sizeOf_9, e_X12_sizeOf_10, e_X12_sizeOf_13, e_X12_sizeOf_16, e_X12_sizeOf_17, e_X12_sizeOf_18, c_X12_sizeOf_231_11_0, c_X12_sizeOf_212_11_0, c_X12_sizeOf_234_11_0, e_X12_sizeOf_21, e_X12_sizeOf_22, e_X12_sizeOf_23, e_X12_sizeOf_26, e_X12_sizeOf_27, e_X12_sizeOf_28, e_X12_sizeOf_29, e_X12_sizeOf_30, e_X12_sizeOf_31, e_X12_sizeOf_34, e_X12_sizeOf_35, e_X12_sizeOf_37, e_X12_sizeOf_40, e_X12_sizeOf_41, e_X12_sizeOf_42, e_X12_sizeOf_45, e_X12_sizeOf_46, e_X12_sizeOf_47, e_X12_sizeOf_48, e_X12_sizeOf_49, e_X12_sizeOf_52, g_12_7_11, hc, a0, e1, c1, b1, e2, c2, b2, nI_add, xl_i, hA, hk, in45 2 (by omega) (by omega), if_pos (show 2 < 4 by omega), ne10, if_pos (show nI 2 = nI 2 from rfl)], k2⟩
theorem mb_sizeOf_3 (hs : s < 7) (hk : f (3 + s) = nI 3) : mBo X m_X12_sizeOf [.ref 169, .int (nI s)] f (f (10 + s) + (nI s + f (26 + s) - nI 1000)) [nI 11, nI 10, nI 22, nI 21, nI 20] := by
  intro h S nm A len hM hA hS hl
  dsimp only [List.length_cons, List.length_nil] at hl
  have hc := hM.1
  have a0 := hM.2.1
  obtain ⟨h1, e1, j1⟩ := mb_openSize_3 (f := f) hs hk _ _ _ _ _ hM hA hS (by first | omega | (simp only [List.length_cons, List.length_nil, List.length_append]; omega))
  have k1 := j1
  have c1 := k1.1.1
  have b1 := k1.1.2.1
  rw [setA_ne (by decide)] at b1
  exact ⟨h1, by simp (disch := first | exact xnl_i _ | exact xnl_r _ | exact xnl_u _ | exact xnl_n | exact zI_2 | exact zI_24 | assumption | omega | (simp only [xset_len]; omega)) only [↓reduceIte, xbd_s, xpv_n, xpv_s, e_X12_sizeOf_0, e_X12_sizeOf_1, e_X12_sizeOf_4, e_X12_sizeOf_5, e_X12_sizeOf_6, e_X12_sizeOf_7, e_X12_sizeOf_8, e_X12_sizeOf_9, e_X12_sizeOf_10, e_X12_sizeOf_13, e_X12_sizeOf_16, e_X12_sizeOf_17, e_X12_sizeOf_18, c_X12_sizeOf_231_11_0, c_X12_sizeOf_212_11_0, c_X12_sizeOf_234_11_0, e_X12_sizeOf_21, e_X12_sizeOf_22, e_X12_sizeOf_23, e_X12_sizeOf_26, e_X12_sizeOf_27, e_X12_sizeOf_28, e_X12_sizeOf_29, e_X12_sizeOf_30, e_X12_sizeOf_31, e_X12_sizeOf_34, e_X12_sizeOf_35, e_X12_sizeOf_37, e_X12_sizeOf_40, e_X12_sizeOf_41, e_X12_sizeOf_42, e_X12_sizeOf_45, e_X12_sizeOf_46, e_X12_sizeOf_47, e_X12_sizeOf_48, e_X12_sizeOf_49, e_X12_sizeOf_52, g_12_7_11, hc, a0, e1, c1, b1, nI_add, xl_i, hA, hk, in45 3 (by omega) (by omega), if_pos (show 3 < 4 by omega), ne10, if_neg (ni_eq (i := 3) (j := 2) (by omega) (by omega) (by omega))], k1⟩
theorem mb_sizeOf_4 (hs : s < 7) (hk : f (3 + s) = nI 4) : mBo X m_X12_sizeOf [.ref 169, .int (nI s)] f (f (10 + s) - nI 100) [nI 13, nI 10] := by
  intro h S nm A len hM hA hS hl
  dsimp only [List.length_cons, List.length_nil] at hl
  have hc := hM.1
  have a0 := hM.2.1
  obtain ⟨h1, e1, j1⟩ := mb_sizeOfCorners_4 (f := f) hs hk _ _ _ _ _ hM hA hS (by first | omega | (simp only [List.length_cons, List.length_nil, List.length_append]; omega))
  have k1 := j1
  have c1 := k1.1.1
  have b1 := k1.1.2.1
  rw [setA_ne (by decide)] at b1
  exact ⟨h1, by simp (disch := first | exact xnl_i _ | exact xnl_r _ | exact xnl_u _ | exact xnl_n | exact zI_2 | exact zI_24 | assumption | omega | (simp only [xset_len]; omega)) only [↓reduceIte, xbd_s, xpv_n, xpv_s, e_X12_sizeOf_0, e_X12_sizeOf_1, e_X12_sizeOf_4, e_X12_sizeOf_5, e_X12_sizeOf_6, e_X12_sizeOf_7, e_X12_sizeOf_8, e_X12_sizeOf_9, e_X12_sizeOf_10, e_X12_sizeOf_13, e_X12_sizeOf_16, e_X12_sizeOf_17, e_X12_sizeOf_18, c_X12_sizeOf_231_11_0, c_X12_sizeOf_212_11_0, c_X12_sizeOf_234_11_0, e_X12_sizeOf_21, e_X12_sizeOf_22, e_X12_sizeOf_23, e_X12_sizeOf_26, e_X12_sizeOf_27, e_X12_sizeOf_28, e_X12_sizeOf_29, e_X12_sizeOf_30, e_X12_sizeOf_31, e_X12_sizeOf_34, e_X12_sizeOf_35, e_X12_sizeOf_37, e_X12_sizeOf_40, e_X12_sizeOf_41, e_X12_sizeOf_42, e_X12_sizeOf_45, e_X12_sizeOf_46, e_X12_sizeOf_47, e_X12_sizeOf_48, e_X12_sizeOf_49, e_X12_sizeOf_52, g_12_7_11, hc, a0, e1, c1, b1, nI_add, xl_i, hA, hk, in45 4 (by omega) (by omega), if_neg (show ¬ 4 < 4 by omega), ne10], k1⟩
theorem mb_sizeOf_5 (hs : s < 7) (hk : f (3 + s) = nI 5) : mBo X m_X12_sizeOf [.ref 169, .int (nI s)] f (nI 2 * (f (10 + s) - nI 100)) [nI 14, nI 13, nI 10] := by
  intro h S nm A len hM hA hS hl
  dsimp only [List.length_cons, List.length_nil] at hl
  have hc := hM.1
  have a0 := hM.2.1
  obtain ⟨h1, e1, j1⟩ := mb_sizeOfCorners_5 (f := f) hs hk _ _ _ _ _ hM hA hS (by first | omega | (simp only [List.length_cons, List.length_nil, List.length_append]; omega))
  have k1 := j1
  have c1 := k1.1.1
  have b1 := k1.1.2.1
  rw [setA_ne (by decide)] at b1
  exact ⟨h1, by simp (disch := first | exact xnl_i _ | exact xnl_r _ | exact xnl_u _ | exact xnl_n | exact zI_2 | exact zI_24 | assumption | omega | (simp only [xset_len]; omega)) only [↓reduceIte, xbd_s, xpv_n, xpv_s, e_X12_sizeOf_0, e_X12_sizeOf_1, e_X12_sizeOf_4, e_X12_sizeOf_5, e_X12_sizeOf_6, e_X12_sizeOf_7, e_X12_sizeOf_8, e_X12_sizeOf_9, e_X12_sizeOf_10, e_X12_sizeOf_13, e_X12_sizeOf_16, e_X12_sizeOf_17, e_X12_sizeOf_18, c_X12_sizeOf_231_11_0, c_X12_sizeOf_212_11_0, c_X12_sizeOf_234_11_0, e_X12_sizeOf_21, e_X12_sizeOf_22, e_X12_sizeOf_23, e_X12_sizeOf_26, e_X12_sizeOf_27, e_X12_sizeOf_28, e_X12_sizeOf_29, e_X12_sizeOf_30, e_X12_sizeOf_31, e_X12_sizeOf_34, e_X12_sizeOf_35, e_X12_sizeOf_37, e_X12_sizeOf_40, e_X12_sizeOf_41, e_X12_sizeOf_42, e_X12_sizeOf_45, e_X12_sizeOf_46, e_X12_sizeOf_47, e_X12_sizeOf_48, e_X12_sizeOf_49, e_X12_sizeOf_52, g_12_7_11, hc, a0, e1, c1, b1, nI_add, xl_i, hA, hk, in45 5 (by omega) (by omega), if_neg (show ¬ 5 < 4 by omega), ne10], k1⟩
theorem mb_markOf_1 (hs : s < 7) (hk : f (3 + s) = nI 1) : mBo X m_X12_markOf [.ref 169, .int (nI s), xU] f (nI s + f (26 + s)) [nI 21, nI 20] := by
  intro h S nm A len hM hA hS hl
  dsimp only [List.length_cons, List.length_nil] at hl
  have hc := hM.1
  have a0 := hM.2.1
  obtain ⟨h1, e1, j1⟩ := mb_markOfOpen_1 (f := f) hs hk _ _ _ _ _ hM hA hS (by first | omega | (simp only [List.length_cons, List.length_nil, List.length_append]; omega))
  have k1 := j1
  have c1 := k1.1.1
  have b1 := k1.1.2.1
  rw [setA_ne (by decide)] at b1
  exact ⟨h1, by simp (disch := first | exact xnl_i _ | exact xnl_r _ | exact xnl_u _ | exact xnl_n | exact zI_2 | exact zI_24 | assumption | omega | (simp only [xset_len]; omega)) only [↓reduceIte, xbd_s, xpv_n, xpv_s, e_X12_markOf_0, e_X12_markOf_1, e_X12_markOf_4, e_X12_markOf_5, e_X12_markOf_6, e_X12_markOf_7, e_X12_markOf_8, e_X12_markOf_9, e_X12_markOf_10, e_X12_markOf_13, e_X12_markOf_16, e_X12_markOf_17, e_X12_markOf_18, c_X12_markOf_225_11_0, c_X12_markOf_212_11_0, c_X12_markOf_216_11_0, c_X12_markOf_231_11_1, e_X12_markOf_21, e_X12_markOf_22, e_X12_markOf_23, e_X12_markOf_25, e_X12_markOf_28, e_X12_markOf_29, e_X12_markOf_30, e_X12_markOf_33, e_X12_markOf_34, e_X12_markOf_35, e_X12_markOf_36, e_X12_markOf_37, e_X12_markOf_40, e_X12_markOf_41, g_12_7_11, hc, a0, e1, c1, b1, nI_add, xl_i, hA, hk, in45 1 (by omega) (by omega), if_pos (show 1 < 4 by omega), ne10], k1⟩
theorem mb_markOf_2 (hs : s < 7) (hk : f (3 + s) = nI 2) : mBo X m_X12_markOf [.ref 169, .int (nI s), xU] f (nI 2 * (nI s + f (26 + s))) [nI 24, nI 21, nI 20] := by
  intro h S nm A len hM hA hS hl
  dsimp only [List.length_cons, List.length_nil] at hl
  have hc := hM.1
  have a0 := hM.2.1
  obtain ⟨h1, e1, j1⟩ := mb_markOfOpen_2 (f := f) hs hk _ _ _ _ _ hM hA hS (by first | omega | (simp only [List.length_cons, List.length_nil, List.length_append]; omega))
  have k1 := j1
  have c1 := k1.1.1
  have b1 := k1.1.2.1
  rw [setA_ne (by decide)] at b1
  exact ⟨h1, by simp (disch := first | exact xnl_i _ | exact xnl_r _ | exact xnl_u _ | exact xnl_n | exact zI_2 | exact zI_24 | assumption | omega | (simp only [xset_len]; omega)) only [↓reduceIte, xbd_s, xpv_n, xpv_s, e_X12_markOf_0, e_X12_markOf_1, e_X12_markOf_4, e_X12_markOf_5, e_X12_markOf_6, e_X12_markOf_7, e_X12_markOf_8, e_X12_markOf_9, e_X12_markOf_10, e_X12_markOf_13, e_X12_markOf_16, e_X12_markOf_17, e_X12_markOf_18, c_X12_markOf_225_11_0, c_X12_markOf_212_11_0, c_X12_markOf_216_11_0, c_X12_markOf_231_11_1, e_X12_markOf_21, e_X12_markOf_22, e_X12_markOf_23, e_X12_markOf_25, e_X12_markOf_28, e_X12_markOf_29, e_X12_markOf_30, e_X12_markOf_33, e_X12_markOf_34, e_X12_markOf_35, e_X12_markOf_36, e_X12_markOf_37, e_X12_markOf_40, e_X12_markOf_41, g_12_7_11, hc, a0, e1, c1, b1, nI_add, xl_i, hA, hk, in45 2 (by omega) (by omega), if_pos (show 2 < 4 by omega), ne10], k1⟩
theorem mb_markOf_3 (hs : s < 7) (hk : f (3 + s) = nI 3) : mBo X m_X12_markOf [.ref 169, .int (nI s), xU] f (nI s + f (26 + s) - nI 1000) [nI 22, nI 21, nI 20] := by
  intro h S nm A len hM hA hS hl
  dsimp only [List.length_cons, List.length_nil] at hl
  have hc := hM.1
  have a0 := hM.2.1
  obtain ⟨h1, e1, j1⟩ := mb_markOfOpen_3 (f := f) hs hk _ _ _ _ _ hM hA hS (by first | omega | (simp only [List.length_cons, List.length_nil, List.length_append]; omega))
  have k1 := j1
  have c1 := k1.1.1
  have b1 := k1.1.2.1
  rw [setA_ne (by decide)] at b1
  exact ⟨h1, by simp (disch := first | exact xnl_i _ | exact xnl_r _ | exact xnl_u _ | exact xnl_n | exact zI_2 | exact zI_24 | assumption | omega | (simp only [xset_len]; omega)) only [↓reduceIte, xbd_s, xpv_n, xpv_s, e_X12_markOf_0, e_X12_markOf_1, e_X12_markOf_4, e_X12_markOf_5, e_X12_markOf_6, e_X12_markOf_7, e_X12_markOf_8, e_X12_markOf_9, e_X12_markOf_10, e_X12_markOf_13, e_X12_markOf_16, e_X12_markOf_17, e_X12_markOf_18, c_X12_markOf_225_11_0, c_X12_markOf_212_11_0, c_X12_markOf_216_11_0, c_X12_markOf_231_11_1, e_X12_markOf_21, e_X12_markOf_22, e_X12_markOf_23, e_X12_markOf_25, e_X12_markOf_28, e_X12_markOf_29, e_X12_markOf_30, e_X12_markOf_33, e_X12_markOf_34, e_X12_markOf_35, e_X12_markOf_36, e_X12_markOf_37, e_X12_markOf_40, e_X12_markOf_41, g_12_7_11, hc, a0, e1, c1, b1, nI_add, xl_i, hA, hk, in45 3 (by omega) (by omega), if_pos (show 3 < 4 by omega), ne10], k1⟩
theorem mb_markOf_4 (hs : s < 7) (hk : f (3 + s) = nI 4) : mBo X m_X12_markOf [.ref 169, .int (nI s), xU] f (nI s - (f (10 + s) - nI 100)) [nI 23, nI 20, nI 13, nI 10] := by
  intro h S nm A len hM hA hS hl
  dsimp only [List.length_cons, List.length_nil] at hl
  have hc := hM.1
  have a0 := hM.2.1
  obtain ⟨h1, e1, j1⟩ := m_begins hM hS (by first | omega | (simp only [List.length_cons, List.length_nil, List.length_append]; omega)) (nI 23)
  have k1 := j1
  have c1 := k1.1.1
  have b1 := k1.1.2.1
  rw [setA_ne (by decide)] at b1
  obtain ⟨h2, e2, j2⟩ := mb_lentMark (f := f) hs _ _ _ _ _ k1.1 (fun k => by rw [setA_ne (by decide)]; exact hA k) upd_eq (by first | omega | (simp only [List.length_cons, List.length_nil, List.length_append]; omega))
  have k2 := mAk_tr k1 j2
  have c2 := k2.1.1
  have b2 := k2.1.2.1
  rw [setA_ne (by decide)] at b2
  obtain ⟨h3, e3, j3⟩ := mb_sizeOfCorners_4 (f := f) hs hk _ _ _ _ _ k2.1 (fun k => by rw [setA_ne (by decide)]; exact hA k) upd_eq (by first | omega | (simp only [List.length_cons, List.length_nil, List.length_append]; omega))
  have k3 := mAk_tr k2 j3
  have c3 := k3.1.1
  have b3 := k3.1.2.1
  rw [setA_ne (by decide)] at b3
  exact ⟨h3, by simp (disch := first | exact xnl_i _ | exact xnl_r _ | exact xnl_u _ | exact xnl_n | exact zI_2 | exact zI_24 | assumption | omega | (simp only [xset_len]; omega)) only [↓reduceIte, xbd_s, xpv_n, xpv_s, e_X12_markOf_0, e_X12_markOf_1, e_X12_markOf_4, e_X12_markOf_5, e_X12_markOf_6, e_X12_markOf_7, e_X12_markOf_8, e_X12_markOf_9, e_X12_markOf_10, e_X12_markOf_13, e_X12_markOf_16, e_X12_markOf_17, e_X12_markOf_18, c_X12_markOf_225_11_0, c_X12_markOf_212_11_0, c_X12_markOf_216_11_0, c_X12_markOf_231_11_1, e_X12_markOf_21, e_X12_markOf_22, e_X12_markOf_23, e_X12_markOf_25, e_X12_markOf_28, e_X12_markOf_29, e_X12_markOf_30, e_X12_markOf_33, e_X12_markOf_34, e_X12_markOf_35, e_X12_markOf_36, e_X12_markOf_37, e_X12_markOf_40, e_X12_markOf_41, g_12_7_11, hc, a0, e1, c1, b1, e2, c2, b2, e3, c3, b3, nI_add, xl_i, hA, hk, in45 4 (by omega) (by omega), if_neg (show ¬ 4 < 4 by omega), ne10], k3⟩
theorem mb_markOf_5 (hs : s < 7) (hk : f (3 + s) = nI 5) : mBo X m_X12_markOf [.ref 169, .int (nI s), xU] f (nI s - (nI 2 * (f (10 + s) - nI 100))) [nI 23, nI 20, nI 14, nI 13, nI 10] := by
  intro h S nm A len hM hA hS hl
  dsimp only [List.length_cons, List.length_nil] at hl
  have hc := hM.1
  have a0 := hM.2.1
  obtain ⟨h1, e1, j1⟩ := m_begins hM hS (by first | omega | (simp only [List.length_cons, List.length_nil, List.length_append]; omega)) (nI 23)
  have k1 := j1
  have c1 := k1.1.1
  have b1 := k1.1.2.1
  rw [setA_ne (by decide)] at b1
  obtain ⟨h2, e2, j2⟩ := mb_lentMark (f := f) hs _ _ _ _ _ k1.1 (fun k => by rw [setA_ne (by decide)]; exact hA k) upd_eq (by first | omega | (simp only [List.length_cons, List.length_nil, List.length_append]; omega))
  have k2 := mAk_tr k1 j2
  have c2 := k2.1.1
  have b2 := k2.1.2.1
  rw [setA_ne (by decide)] at b2
  obtain ⟨h3, e3, j3⟩ := mb_sizeOfCorners_5 (f := f) hs hk _ _ _ _ _ k2.1 (fun k => by rw [setA_ne (by decide)]; exact hA k) upd_eq (by first | omega | (simp only [List.length_cons, List.length_nil, List.length_append]; omega))
  have k3 := mAk_tr k2 j3
  have c3 := k3.1.1
  have b3 := k3.1.2.1
  rw [setA_ne (by decide)] at b3
  exact ⟨h3, by simp (disch := first | exact xnl_i _ | exact xnl_r _ | exact xnl_u _ | exact xnl_n | exact zI_2 | exact zI_24 | assumption | omega | (simp only [xset_len]; omega)) only [↓reduceIte, xbd_s, xpv_n, xpv_s, e_X12_markOf_0, e_X12_markOf_1, e_X12_markOf_4, e_X12_markOf_5, e_X12_markOf_6, e_X12_markOf_7, e_X12_markOf_8, e_X12_markOf_9, e_X12_markOf_10, e_X12_markOf_13, e_X12_markOf_16, e_X12_markOf_17, e_X12_markOf_18, c_X12_markOf_225_11_0, c_X12_markOf_212_11_0, c_X12_markOf_216_11_0, c_X12_markOf_231_11_1, e_X12_markOf_21, e_X12_markOf_22, e_X12_markOf_23, e_X12_markOf_25, e_X12_markOf_28, e_X12_markOf_29, e_X12_markOf_30, e_X12_markOf_33, e_X12_markOf_34, e_X12_markOf_35, e_X12_markOf_36, e_X12_markOf_37, e_X12_markOf_40, e_X12_markOf_41, g_12_7_11, hc, a0, e1, c1, b1, e2, c2, b2, e3, c3, b3, nI_add, xl_i, hA, hk, in45 5 (by omega) (by omega), if_neg (show ¬ 5 < 4 by omega), ne10], k3⟩
theorem mb_sizeOf (hs : s < 7) {k : Nat} (hk : f (3 + s) = nI k) (h1 : 1 ≤ k) (h2 : k ≤ 5) : mBo X m_X12_sizeOf [.ref 169, .int (nI s)] f (azS (f (3 + s)) (nI s) (f (10 + s)) (f (26 + s))) (azB (f (3 + s))) := by
  have i3 : k = 1 ∨ k = 2 ∨ k = 3 ∨ k = 4 ∨ k = 5 := by omega
  rcases i3 with rfl | rfl | rfl | rfl | rfl
  · rw [hk, azS_1, azB_1]; exact mb_sizeOf_1 hs hk
  · rw [hk, azS_2, azB_2]; exact mb_sizeOf_2 hs hk
  · rw [hk, azS_3, azB_3]; exact mb_sizeOf_3 hs hk
  · rw [hk, azS_4, azB_4]; exact mb_sizeOf_4 hs hk
  · rw [hk, azS_5, azB_5]; exact mb_sizeOf_5 hs hk
theorem mb_markOf (hs : s < 7) {k : Nat} (hk : f (3 + s) = nI k) (h1 : 1 ≤ k) (h2 : k ≤ 5) : mBo X m_X12_markOf [.ref 169, .int (nI s), xU] f (amS (f (3 + s)) (nI s) (f (10 + s)) (f (26 + s))) (amB (f (3 + s))) := by
  have i3 : k = 1 ∨ k = 2 ∨ k = 3 ∨ k = 4 ∨ k = 5 := by omega
  rcases i3 with rfl | rfl | rfl | rfl | rfl
  · rw [hk, amS_1, amB_1]; exact mb_markOf_1 hs hk
  · rw [hk, amS_2, amB_2]; exact mb_markOf_2 hs hk
  · rw [hk, amS_3, amB_3]; exact mb_markOf_3 hs hk
  · rw [hk, amS_4, amB_4]; exact mb_markOf_4 hs hk
  · rw [hk, amS_5, amB_5]; exact mb_markOf_5 hs hk
theorem azB_len {k : Nat} (h1 : 1 ≤ k) (h2 : k ≤ 5) : (azB (nI k)).length ≤ 16 := by
  have i3 : k = 1 ∨ k = 2 ∨ k = 3 ∨ k = 4 ∨ k = 5 := by omega
  rcases i3 with rfl | rfl | rfl | rfl | rfl <;> decide
theorem amB_len {k : Nat} (h1 : 1 ≤ k) (h2 : k ≤ 5) : (amB (nI k)).length ≤ 16 := by
  have i3 : k = 1 ∨ k = 2 ∨ k = 3 ∨ k = 4 ∨ k = 5 := by omega
  rcases i3 with rfl | rfl | rfl | rfl | rfl <;> decide
theorem m_askX (hM : xMB X h S nm A) {n : Nat} (hn : n ≤ 7) (hA : A 0 1 = nI n) {x : Int32} (w : Int32) (hx : x < 0 ∨ ¬ x < nI n) : xR X m_X12_ask 0 [.ref 169, .int x, .int w] [] h = some (some (.int cBAD), h) := by
  have q := m_isSpotF hM hn hA hx
  have hc := hM.1
  simp (disch := first | exact xnl_i _ | exact xnl_r _ | exact xnl_u _ | exact xnl_n | exact zI_2 | exact zI_24 | assumption | omega | (simp only [xset_len]; omega)) only [↓reduceIte, xbd_s, xpv_n, xpv_s, e_X12_ask_0, e_X12_ask_1, e_X12_ask_2, c_X12_ask_167_11_0, c_X12_ask_237_11_0, c_X12_ask_240_11_0, e_X12_ask_5, e_X12_ask_8, e_X12_ask_9, e_X12_ask_10, e_X12_ask_11, e_X12_ask_14, e_X12_ask_17, e_X12_ask_19, e_X12_ask_20, e_X12_ask_21, e_X12_ask_22, e_X12_ask_25, e_X12_ask_26, e_X12_ask_29, e_X12_ask_30, e_X12_ask_31, e_X12_ask_34, e_X12_ask_37, e_X12_ask_38, e_X12_ask_39, e_X12_ask_42, p_12_209_11, hc, q]
theorem m_askE (hM : xMB X h S nm A) {n : Nat} (hn : n ≤ 7) (hA : A 0 1 = nI n) (hs : s < n) {w : Int32} (h0 : ¬ w = 0) (h1 : ¬ w = 1) : xR X m_X12_ask 0 [.ref 169, .int (nI s), .int w] [] h = some (some (.int cBAD), h) := by
  have q := m_isSpotT hM hn hA hs
  have q3 := fun hh : xH => m_inF (X := X) (h := hh) (x := w) (lo := 0) (hi := 1) (in01F h0 h1)
  have hc := hM.1
  simp (disch := first | exact xnl_i _ | exact xnl_r _ | exact xnl_u _ | exact xnl_n | exact zI_2 | exact zI_24 | assumption | omega | (simp only [xset_len]; omega)) only [↓reduceIte, xbd_s, xpv_n, xpv_s, e_X12_ask_0, e_X12_ask_1, e_X12_ask_2, c_X12_ask_167_11_0, c_X12_ask_237_11_0, c_X12_ask_240_11_0, e_X12_ask_5, e_X12_ask_8, e_X12_ask_9, e_X12_ask_10, e_X12_ask_11, e_X12_ask_14, e_X12_ask_17, e_X12_ask_19, e_X12_ask_20, e_X12_ask_21, e_X12_ask_22, e_X12_ask_25, e_X12_ask_26, e_X12_ask_29, e_X12_ask_30, e_X12_ask_31, e_X12_ask_34, e_X12_ask_37, e_X12_ask_38, e_X12_ask_39, e_X12_ask_42, p_12_209_11, hc, q, z0, z1, q3, ne10]
theorem m_askZ (hM : xMB X h S nm A) {n k : Nat} (hn : n ≤ 7) (hA : A 0 1 = nI n) (hs : s < n) (hk : A 0 (3 + s) = nI k) (h1 : 1 ≤ k) (h2 : k ≤ 5) : ∃ h', xR X m_X12_ask 0 [.ref 169, .int (nI s), .int 0] [] h = some (some (.int (azS (A 0 (3 + s)) (nI s) (A 0 (10 + s)) (A 0 (26 + s)))), h') ∧ mAk X h h' (upd S 13 (nI 0)) nm A 0 (azB (A 0 (3 + s))) := by
  have q := m_isSpotT hM hn hA hs
  have q3 := fun hh : xH => m_in01 (X := X) (h := hh) (w := 0) (Or.inl rfl)
  have M1 := xMB_S (S' := upd S 13 (nI 0)) (nm' := nm) hM
  obtain ⟨h', e1, k1⟩ := mb_sizeOf (X := X) (f := A 0) (s := s) (by omega) hk h1 h2 _ _ _ _ 0 M1 (fun _ => rfl) upd_eq (by rw [hk]; have := azB_len h1 h2; omega)
  refine ⟨h', ?_, k1.1, xFr_tr (xFr_set (by omega) ⟨by omega, by omega⟩) k1.2⟩
  have hc := hM.1
  refine Eq.trans (b := xR X m_X12_ask 25 [.ref 169, .int (nI s), .int 0] [] (xset h 169 (xMc (upd S 13 (nI 0)) nm))) ?_ ?_
  · simp (disch := first | exact xnl_i _ | exact xnl_r _ | exact xnl_u _ | exact xnl_n | exact zI_2 | exact zI_24 | assumption | omega | (simp only [xset_len]; omega)) only [↓reduceIte, xbd_s, xpv_n, xpv_s, e_X12_ask_0, e_X12_ask_1, e_X12_ask_2, c_X12_ask_167_11_0, c_X12_ask_237_11_0, c_X12_ask_240_11_0, e_X12_ask_5, e_X12_ask_8, e_X12_ask_9, e_X12_ask_10, e_X12_ask_11, e_X12_ask_14, e_X12_ask_17, e_X12_ask_19, e_X12_ask_20, e_X12_ask_21, e_X12_ask_22, e_X12_ask_26, e_X12_ask_29, e_X12_ask_30, e_X12_ask_31, e_X12_ask_34, e_X12_ask_37, e_X12_ask_38, e_X12_ask_39, e_X12_ask_42, p_12_209_11, hc, q, z0, z1, q3, ne10]
    all_goals rfl
  have c1 := M1.1
  simp (disch := first | exact xnl_i _ | exact xnl_r _ | exact xnl_u _ | exact xnl_n | exact zI_2 | exact zI_24 | assumption | omega | (simp only [xset_len]; omega)) only [↓reduceIte, xbd_s, xpv_n, xpv_s, e_X12_ask_0, e_X12_ask_1, e_X12_ask_2, c_X12_ask_167_11_0, c_X12_ask_237_11_0, c_X12_ask_240_11_0, e_X12_ask_5, e_X12_ask_8, e_X12_ask_9, e_X12_ask_10, e_X12_ask_11, e_X12_ask_14, e_X12_ask_17, e_X12_ask_19, e_X12_ask_20, e_X12_ask_21, e_X12_ask_22, e_X12_ask_25, e_X12_ask_26, e_X12_ask_29, e_X12_ask_30, e_X12_ask_31, e_X12_ask_34, e_X12_ask_37, e_X12_ask_38, e_X12_ask_39, e_X12_ask_42, p_12_209_11, c1, e1]
theorem m_askM (hM : xMB X h S nm A) {n k : Nat} (hn : n ≤ 7) (hA : A 0 1 = nI n) (hs : s < n) (hk : A 0 (3 + s) = nI k) (h1 : 1 ≤ k) (h2 : k ≤ 5) : ∃ h', xR X m_X12_ask 0 [.ref 169, .int (nI s), .int 1] [] h = some (some (.int (amS (A 0 (3 + s)) (nI s) (A 0 (10 + s)) (A 0 (26 + s)))), h') ∧ mAk X h h' (upd S 13 (nI 0)) nm A 0 (amB (A 0 (3 + s))) := by
  have q := m_isSpotT hM hn hA hs
  have q3 := fun hh : xH => m_in01 (X := X) (h := hh) (w := 1) (Or.inr rfl)
  have M1 := xMB_S (S' := upd S 13 (nI 0)) (nm' := nm) hM
  obtain ⟨h', e1, k1⟩ := mb_markOf (X := X) (f := A 0) (s := s) (by omega) hk h1 h2 _ _ _ _ 0 M1 (fun _ => rfl) upd_eq (by rw [hk]; have := amB_len h1 h2; omega)
  refine ⟨h', ?_, k1.1, xFr_tr (xFr_set (by omega) ⟨by omega, by omega⟩) k1.2⟩
  have hc := hM.1
  refine Eq.trans (b := xR X m_X12_ask 25 [.ref 169, .int (nI s), .int 1] [] (xset h 169 (xMc (upd S 13 (nI 0)) nm))) ?_ ?_
  · simp (disch := first | exact xnl_i _ | exact xnl_r _ | exact xnl_u _ | exact xnl_n | exact zI_2 | exact zI_24 | assumption | omega | (simp only [xset_len]; omega)) only [↓reduceIte, xbd_s, xpv_n, xpv_s, e_X12_ask_0, e_X12_ask_1, e_X12_ask_2, c_X12_ask_167_11_0, c_X12_ask_237_11_0, c_X12_ask_240_11_0, e_X12_ask_5, e_X12_ask_8, e_X12_ask_9, e_X12_ask_10, e_X12_ask_11, e_X12_ask_14, e_X12_ask_17, e_X12_ask_19, e_X12_ask_20, e_X12_ask_21, e_X12_ask_22, e_X12_ask_26, e_X12_ask_29, e_X12_ask_30, e_X12_ask_31, e_X12_ask_34, e_X12_ask_37, e_X12_ask_38, e_X12_ask_39, e_X12_ask_42, p_12_209_11, hc, q, z0, z1, q3, ne10]
    all_goals rfl
  have c1 := M1.1
  simp (disch := first | exact xnl_i _ | exact xnl_r _ | exact xnl_u _ | exact xnl_n | exact zI_2 | exact zI_24 | assumption | omega | (simp only [xset_len]; omega)) only [↓reduceIte, xbd_s, xpv_n, xpv_s, e_X12_ask_0, e_X12_ask_1, e_X12_ask_2, c_X12_ask_167_11_0, c_X12_ask_237_11_0, c_X12_ask_240_11_0, e_X12_ask_5, e_X12_ask_8, e_X12_ask_9, e_X12_ask_10, e_X12_ask_11, e_X12_ask_14, e_X12_ask_17, e_X12_ask_19, e_X12_ask_20, e_X12_ask_21, e_X12_ask_22, e_X12_ask_25, e_X12_ask_26, e_X12_ask_29, e_X12_ask_30, e_X12_ask_31, e_X12_ask_34, e_X12_ask_37, e_X12_ask_38, e_X12_ask_39, e_X12_ask_42, p_12_209_11, c1, e1, ne10]
theorem m_asX (hM : xMB X h S nm A) {n : Nat} (hn : n ≤ 7) (hA : A 0 1 = nI n) {x : Int32} (w : Int32) (hx : x < 0 ∨ ¬ x < nI n) : xR X m_X12_as 0 [.ref 169, .int x, .int w] [] h = some (some (.int cBAD), h) := by
  have q := m_isSpotF hM hn hA hx
  have hc := hM.1
  simp (disch := first | exact xnl_i _ | exact xnl_r _ | exact xnl_u _ | exact xnl_n | exact zI_2 | exact zI_24 | assumption | omega | (simp only [xset_len]; omega)) only [↓reduceIte, xbd_s, xpv_n, xpv_s, e_X12_as_0, e_X12_as_1, e_X12_as_2, c_X12_as_167_11_0, c_X12_as_60_11_0, c_X12_as_56_11_0, e_X12_as_5, e_X12_as_8, e_X12_as_9, e_X12_as_10, e_X12_as_11, e_X12_as_14, e_X12_as_17, e_X12_as_19, e_X12_as_20, e_X12_as_21, e_X12_as_24, e_X12_as_25, e_X12_as_26, e_X12_as_27, e_X12_as_28, e_X12_as_29, e_X12_as_32, e_X12_as_35, e_X12_as_36, e_X12_as_37, e_X12_as_40, e_X12_as_43, e_X12_as_44, e_X12_as_45, e_X12_as_48, g_12_7_11, hc, q]
theorem m_asB (hM : xMB X h S nm A) {n : Nat} (hn : n ≤ 7) (hA : A 0 1 = nI n) (hs : s < n) {w : Int32} (hw : w < 0 ∨ nI 5 < w) : xR X m_X12_as 0 [.ref 169, .int (nI s), .int w] [] h = some (some (.int cBAD), h) := by
  have q := m_isSpotT hM hn hA hs
  have q3 := fun hh : xH => m_inF (X := X) (h := hh) (x := w) (lo := 0) (hi := nI 5) hw
  have hc := hM.1
  simp (disch := first | exact xnl_i _ | exact xnl_r _ | exact xnl_u _ | exact xnl_n | exact zI_2 | exact zI_24 | assumption | omega | (simp only [xset_len]; omega)) only [↓reduceIte, xbd_s, xpv_n, xpv_s, e_X12_as_0, e_X12_as_1, e_X12_as_2, c_X12_as_167_11_0, c_X12_as_60_11_0, c_X12_as_56_11_0, e_X12_as_5, e_X12_as_8, e_X12_as_9, e_X12_as_10, e_X12_as_11, e_X12_as_14, e_X12_as_17, e_X12_as_19, e_X12_as_20, e_X12_as_21, e_X12_as_24, e_X12_as_25, e_X12_as_26, e_X12_as_27, e_X12_as_28, e_X12_as_29, e_X12_as_32, e_X12_as_35, e_X12_as_36, e_X12_as_37, e_X12_as_40, e_X12_as_43, e_X12_as_44, e_X12_as_45, e_X12_as_48, g_12_7_11, hc, q, z0, q3, ne10]
theorem m_asT (hM : xMB X h S nm A) {n k j : Nat} (hn : n ≤ 7) (hA : A 0 1 = nI n) (hs : s < n) (hk : A 0 (3 + s) = nI k) (h1 : 1 ≤ k) (h2 : k ≤ 5) (hj : j ≤ 5) (hd : kdS (A 0 (3 + s)) (nI j) = 1) : xR X m_X12_as 0 [.ref 169, .int (nI s), .int (nI j)] [] h = some (some (.int (nI s)), xset h 169 (xMc (upd S 1 (nI 0)) nm)) := by
  have q := m_isSpotT hM hn hA hs
  have q3 := fun hh : xH => m_inT (X := X) (h := hh) (x := nI j) (lo := 0) (hi := nI 5) (nI_pos (by omega)) (nI_nlt hj (by omega))
  have q4 := m_isA (X := X) (h := h) (A 0 (3 + s)) (nI j) ⟨j, hj, rfl⟩ ⟨k, h1, h2, hk⟩
  rw [hd] at q4
  have q5 := m_well hM (nI s)
  have hc := hM.1
  have a0 := hM.2.1
  simp (disch := first | exact xnl_i _ | exact xnl_r _ | exact xnl_u _ | exact xnl_n | exact zI_2 | exact zI_24 | assumption | omega | (simp only [xset_len]; omega)) only [↓reduceIte, xbd_s, xpv_n, xpv_s, e_X12_as_0, e_X12_as_1, e_X12_as_2, c_X12_as_167_11_0, c_X12_as_60_11_0, c_X12_as_56_11_0, e_X12_as_5, e_X12_as_8, e_X12_as_9, e_X12_as_10, e_X12_as_11, e_X12_as_14, e_X12_as_17, e_X12_as_19, e_X12_as_20, e_X12_as_21, e_X12_as_24, e_X12_as_25, e_X12_as_26, e_X12_as_27, e_X12_as_28, e_X12_as_29, e_X12_as_32, e_X12_as_35, e_X12_as_36, e_X12_as_37, e_X12_as_40, e_X12_as_43, e_X12_as_44, e_X12_as_45, e_X12_as_48, g_12_7_11, hc, a0, q, z0, q3, ne10, xl_i, nI_add, q4, q5]
theorem m_asF (hM : xMB X h S nm A) {n k j : Nat} (hn : n ≤ 7) (hA : A 0 1 = nI n) (hs : s < n) (hk : A 0 (3 + s) = nI k) (h1 : 1 ≤ k) (h2 : k ≤ 5) (hj : j ≤ 5) (hd : kdS (A 0 (3 + s)) (nI j) = 0) : xR X m_X12_as 0 [.ref 169, .int (nI s), .int (nI j)] [] h = some (some (.int (cFIND - nI 3)), xset h 169 (xMc (upd S 1 (nI 3)) nm)) := by
  have q := m_isSpotT hM hn hA hs
  have q3 := fun hh : xH => m_inT (X := X) (h := hh) (x := nI j) (lo := 0) (hi := nI 5) (nI_pos (by omega)) (nI_nlt hj (by omega))
  have q4 := m_isA (X := X) (h := h) (A 0 (3 + s)) (nI j) ⟨j, hj, rfl⟩ ⟨k, h1, h2, hk⟩
  rw [hd] at q4
  have q5 := m_found hM (nI 3)
  have hc := hM.1
  have a0 := hM.2.1
  simp (disch := first | exact xnl_i _ | exact xnl_r _ | exact xnl_u _ | exact xnl_n | exact zI_2 | exact zI_24 | assumption | omega | (simp only [xset_len]; omega)) only [↓reduceIte, xbd_s, xpv_n, xpv_s, e_X12_as_0, e_X12_as_1, e_X12_as_2, c_X12_as_167_11_0, c_X12_as_60_11_0, c_X12_as_56_11_0, e_X12_as_5, e_X12_as_8, e_X12_as_9, e_X12_as_10, e_X12_as_11, e_X12_as_14, e_X12_as_17, e_X12_as_19, e_X12_as_20, e_X12_as_21, e_X12_as_24, e_X12_as_25, e_X12_as_26, e_X12_as_27, e_X12_as_28, e_X12_as_29, e_X12_as_32, e_X12_as_35, e_X12_as_36, e_X12_as_37, e_X12_as_40, e_X12_as_43, e_X12_as_44, e_X12_as_45, e_X12_as_48, g_12_7_11, hc, a0, q, z0, q3, ne10, xl_i, nI_add, q4, q5]
theorem m_count (hM : xMB X h S nm A) {n : Nat} (hn : n ≤ 7) (hA : A 0 1 = nI n) (w : Int32) : xR X m_X12_count 0 [.ref 169, .int w, xU, xU] [] h = some (some (.int (if w = nI 0 then xfold (fun r x => x + if A 4 r = -1000000 then nI 0 else nI 1) 8 (nI 0) else if w = nI 1 then nI n else if w = nI 2 then A 0 2 else if w = nI 3 then A 0 25 else if w = nI 4 then S 0 else if w = nI 5 then xfold (fun s x => x + if 0 < A 0 (47 + s) then nI 1 else nI 0) n (nI 0) else if w = nI 6 then S 2 else cBAD)), h) := by
  have q := m_outNow hM hn hA
  obtain ⟨hc, a0, a1, a2, a3, a4, a5, a6, a7, a8, a9⟩ := hM
  have L := x_loop (fun k (y : Int32) => xR X m_X12_count 4 [.ref 169, .int w, .int y, .int (nI k)] [] h) (fun y => xR X m_X12_count 35 [.ref 169, .int w, .int y, .int (nI 8)] [] h) (fun r x => x + if A 4 r = -1000000 then nI 0 else nI 1) 8 (nI 0)
    (by
      intro k hk y
      have e1 : nI k < nI 8 := nI_lt hk (by omega)
      rw [e_X12_count_4]
      by_cases c : A 4 k = -1000000
      · simp (disch := first | exact xnl_i _ | exact xnl_r _ | exact xnl_u _ | exact xnl_n | exact zI_2 | exact zI_24 | assumption | omega | (simp only [xset_len]; omega)) only [↓reduceIte, xbd_s, xpv_n, xpv_s, e_X12_count_0, e_X12_count_1, e_X12_count_2, e_X12_count_3, e_X12_count_5, e_X12_count_7, e_X12_count_10, e_X12_count_11, e_X12_count_12, e_X12_count_15, e_X12_count_16, e_X12_count_17, e_X12_count_19, e_X12_count_22, e_X12_count_23, e_X12_count_26, e_X12_count_27, e_X12_count_28, e_X12_count_29, e_X12_count_32, e_X12_count_36_0, e_X12_count_36_1, e_X12_count_36_2, e_X12_count_36_3, e_X12_count_36_4, e_X12_count_36_5, e_X12_count_36_6, e_X12_count_36_d, e_X12_count_80, e_X12_count_81, e_X12_count_82, e_X12_count_83, e_X12_count_86, e_X12_count_87, e_X12_count_88, e_X12_count_89, e_X12_count_90, e_X12_count_93, e_X12_count_94, e_X12_count_95, e_X12_count_96, e_X12_count_97, e_X12_count_100, e_X12_count_102, e_X12_count_103, e_X12_count_104, e_X12_count_105, e_X12_count_108, e_X12_count_109, e_X12_count_110, c_X12_count_243_11_0, e_X12_count_113, e_X12_count_114, e_X12_count_115, e_X12_count_118, e_X12_count_119, e_X12_count_121, g_12_143_11, g_12_23_11, g_12_66_11, g_12_7_11, hc, a4, xl_i, if_pos e1, if_pos c, nI_inc]
      · simp (disch := first | exact xnl_i _ | exact xnl_r _ | exact xnl_u _ | exact xnl_n | exact zI_2 | exact zI_24 | assumption | omega | (simp only [xset_len]; omega)) only [↓reduceIte, xbd_s, xpv_n, xpv_s, e_X12_count_0, e_X12_count_1, e_X12_count_2, e_X12_count_3, e_X12_count_5, e_X12_count_7, e_X12_count_10, e_X12_count_11, e_X12_count_12, e_X12_count_15, e_X12_count_16, e_X12_count_17, e_X12_count_19, e_X12_count_22, e_X12_count_23, e_X12_count_26, e_X12_count_27, e_X12_count_28, e_X12_count_29, e_X12_count_32, e_X12_count_36_0, e_X12_count_36_1, e_X12_count_36_2, e_X12_count_36_3, e_X12_count_36_4, e_X12_count_36_5, e_X12_count_36_6, e_X12_count_36_d, e_X12_count_80, e_X12_count_81, e_X12_count_82, e_X12_count_83, e_X12_count_86, e_X12_count_87, e_X12_count_88, e_X12_count_89, e_X12_count_90, e_X12_count_93, e_X12_count_94, e_X12_count_95, e_X12_count_96, e_X12_count_97, e_X12_count_100, e_X12_count_102, e_X12_count_103, e_X12_count_104, e_X12_count_105, e_X12_count_108, e_X12_count_109, e_X12_count_110, c_X12_count_243_11_0, e_X12_count_113, e_X12_count_114, e_X12_count_115, e_X12_count_118, e_X12_count_119, e_X12_count_121, g_12_143_11, g_12_23_11, g_12_66_11, g_12_7_11, hc, a4, xl_i, if_pos e1, if_neg c, nI_inc])
    (by
      intro y
      have e1 : ¬ nI 8 < nI 8 := by decide
      simp (disch := first | exact xnl_i _ | exact xnl_r _ | exact xnl_u _ | exact xnl_n | exact zI_2 | exact zI_24 | assumption | omega | (simp only [xset_len]; omega)) only [↓reduceIte, xbd_s, xpv_n, xpv_s, e_X12_count_0, e_X12_count_1, e_X12_count_2, e_X12_count_3, e_X12_count_4, e_X12_count_5, e_X12_count_7, e_X12_count_10, e_X12_count_11, e_X12_count_12, e_X12_count_15, e_X12_count_16, e_X12_count_17, e_X12_count_19, e_X12_count_22, e_X12_count_23, e_X12_count_26, e_X12_count_27, e_X12_count_28, e_X12_count_29, e_X12_count_32, e_X12_count_36_0, e_X12_count_36_1, e_X12_count_36_2, e_X12_count_36_3, e_X12_count_36_4, e_X12_count_36_5, e_X12_count_36_6, e_X12_count_36_d, e_X12_count_80, e_X12_count_81, e_X12_count_82, e_X12_count_83, e_X12_count_86, e_X12_count_87, e_X12_count_88, e_X12_count_89, e_X12_count_90, e_X12_count_93, e_X12_count_94, e_X12_count_95, e_X12_count_96, e_X12_count_97, e_X12_count_100, e_X12_count_102, e_X12_count_103, e_X12_count_104, e_X12_count_105, e_X12_count_108, e_X12_count_109, e_X12_count_110, c_X12_count_243_11_0, e_X12_count_113, e_X12_count_114, e_X12_count_115, e_X12_count_118, e_X12_count_119, e_X12_count_121, g_12_143_11, g_12_23_11, g_12_66_11, g_12_7_11, if_neg e1])
  refine Eq.trans (b := xR X m_X12_count 4 [.ref 169, .int w, .int (nI 0), .int (nI 0)] [] h) ?_ ?_
  · simp (disch := first | exact xnl_i _ | exact xnl_r _ | exact xnl_u _ | exact xnl_n | exact zI_2 | exact zI_24 | assumption | omega | (simp only [xset_len]; omega)) only [↓reduceIte, xbd_s, xpv_n, xpv_s, e_X12_count_0, e_X12_count_1, e_X12_count_2, e_X12_count_3, e_X12_count_5, e_X12_count_7, e_X12_count_10, e_X12_count_11, e_X12_count_12, e_X12_count_15, e_X12_count_16, e_X12_count_17, e_X12_count_19, e_X12_count_22, e_X12_count_23, e_X12_count_26, e_X12_count_27, e_X12_count_28, e_X12_count_29, e_X12_count_32, e_X12_count_35, e_X12_count_36_0, e_X12_count_36_1, e_X12_count_36_2, e_X12_count_36_3, e_X12_count_36_4, e_X12_count_36_5, e_X12_count_36_6, e_X12_count_36_d, e_X12_count_80, e_X12_count_81, e_X12_count_82, e_X12_count_83, e_X12_count_86, e_X12_count_87, e_X12_count_88, e_X12_count_89, e_X12_count_90, e_X12_count_93, e_X12_count_94, e_X12_count_95, e_X12_count_96, e_X12_count_97, e_X12_count_100, e_X12_count_102, e_X12_count_103, e_X12_count_104, e_X12_count_105, e_X12_count_108, e_X12_count_109, e_X12_count_110, c_X12_count_243_11_0, e_X12_count_113, e_X12_count_114, e_X12_count_115, e_X12_count_118, e_X12_count_119, e_X12_count_121, g_12_143_11, g_12_23_11, g_12_66_11, g_12_7_11]
  refine L.trans ?_
  generalize xfold (fun r x => x + if A 4 r = -1000000 then nI 0 else nI 1) 8 (nI 0) = y0
  have b0 : (nI 0).toInt = 0 := by decide
  by_cases c0 : w = nI 0
  · subst c0
    simp (disch := first | exact xnl_i _ | exact xnl_r _ | exact xnl_u _ | exact xnl_n | exact zI_2 | exact zI_24 | assumption | omega | (simp only [xset_len]; omega)) only [↓reduceIte, xbd_s, xpv_n, xpv_s, e_X12_count_0, e_X12_count_1, e_X12_count_2, e_X12_count_3, e_X12_count_5, e_X12_count_7, e_X12_count_10, e_X12_count_11, e_X12_count_12, e_X12_count_15, e_X12_count_16, e_X12_count_17, e_X12_count_19, e_X12_count_22, e_X12_count_23, e_X12_count_26, e_X12_count_27, e_X12_count_28, e_X12_count_29, e_X12_count_32, e_X12_count_35, e_X12_count_36_0, e_X12_count_36_1, e_X12_count_36_2, e_X12_count_36_3, e_X12_count_36_4, e_X12_count_36_5, e_X12_count_36_6, e_X12_count_36_d, e_X12_count_80, e_X12_count_81, e_X12_count_82, e_X12_count_83, e_X12_count_86, e_X12_count_87, e_X12_count_88, e_X12_count_89, e_X12_count_90, e_X12_count_93, e_X12_count_94, e_X12_count_95, e_X12_count_96, e_X12_count_97, e_X12_count_100, e_X12_count_102, e_X12_count_103, e_X12_count_104, e_X12_count_105, e_X12_count_108, e_X12_count_109, e_X12_count_110, c_X12_count_243_11_0, e_X12_count_113, e_X12_count_114, e_X12_count_115, e_X12_count_118, e_X12_count_119, e_X12_count_121, g_12_143_11, g_12_23_11, g_12_66_11, g_12_7_11, hc, a0, hA, xl_i]
  by_cases c1 : w = nI 1
  · subst c1
    simp (disch := first | exact xnl_i _ | exact xnl_r _ | exact xnl_u _ | exact xnl_n | exact zI_2 | exact zI_24 | assumption | omega | (simp only [xset_len]; omega)) only [↓reduceIte, xbd_s, xpv_n, xpv_s, e_X12_count_0, e_X12_count_1, e_X12_count_2, e_X12_count_3, e_X12_count_5, e_X12_count_7, e_X12_count_10, e_X12_count_11, e_X12_count_12, e_X12_count_15, e_X12_count_16, e_X12_count_17, e_X12_count_19, e_X12_count_22, e_X12_count_23, e_X12_count_26, e_X12_count_27, e_X12_count_28, e_X12_count_29, e_X12_count_32, e_X12_count_35, e_X12_count_36_0, e_X12_count_36_1, e_X12_count_36_2, e_X12_count_36_3, e_X12_count_36_4, e_X12_count_36_5, e_X12_count_36_6, e_X12_count_36_d, e_X12_count_80, e_X12_count_81, e_X12_count_82, e_X12_count_83, e_X12_count_86, e_X12_count_87, e_X12_count_88, e_X12_count_89, e_X12_count_90, e_X12_count_93, e_X12_count_94, e_X12_count_95, e_X12_count_96, e_X12_count_97, e_X12_count_100, e_X12_count_102, e_X12_count_103, e_X12_count_104, e_X12_count_105, e_X12_count_108, e_X12_count_109, e_X12_count_110, c_X12_count_243_11_0, e_X12_count_113, e_X12_count_114, e_X12_count_115, e_X12_count_118, e_X12_count_119, e_X12_count_121, g_12_143_11, g_12_23_11, g_12_66_11, g_12_7_11, hc, a0, hA, xl_i, if_neg c0]
  by_cases c2 : w = nI 2
  · subst c2
    simp (disch := first | exact xnl_i _ | exact xnl_r _ | exact xnl_u _ | exact xnl_n | exact zI_2 | exact zI_24 | assumption | omega | (simp only [xset_len]; omega)) only [↓reduceIte, xbd_s, xpv_n, xpv_s, e_X12_count_0, e_X12_count_1, e_X12_count_2, e_X12_count_3, e_X12_count_5, e_X12_count_7, e_X12_count_10, e_X12_count_11, e_X12_count_12, e_X12_count_15, e_X12_count_16, e_X12_count_17, e_X12_count_19, e_X12_count_22, e_X12_count_23, e_X12_count_26, e_X12_count_27, e_X12_count_28, e_X12_count_29, e_X12_count_32, e_X12_count_35, e_X12_count_36_0, e_X12_count_36_1, e_X12_count_36_2, e_X12_count_36_3, e_X12_count_36_4, e_X12_count_36_5, e_X12_count_36_6, e_X12_count_36_d, e_X12_count_80, e_X12_count_81, e_X12_count_82, e_X12_count_83, e_X12_count_86, e_X12_count_87, e_X12_count_88, e_X12_count_89, e_X12_count_90, e_X12_count_93, e_X12_count_94, e_X12_count_95, e_X12_count_96, e_X12_count_97, e_X12_count_100, e_X12_count_102, e_X12_count_103, e_X12_count_104, e_X12_count_105, e_X12_count_108, e_X12_count_109, e_X12_count_110, c_X12_count_243_11_0, e_X12_count_113, e_X12_count_114, e_X12_count_115, e_X12_count_118, e_X12_count_119, e_X12_count_121, g_12_143_11, g_12_23_11, g_12_66_11, g_12_7_11, hc, a0, hA, xl_i, if_neg c0, if_neg c1]
  by_cases c3 : w = nI 3
  · subst c3
    simp (disch := first | exact xnl_i _ | exact xnl_r _ | exact xnl_u _ | exact xnl_n | exact zI_2 | exact zI_24 | assumption | omega | (simp only [xset_len]; omega)) only [↓reduceIte, xbd_s, xpv_n, xpv_s, e_X12_count_0, e_X12_count_1, e_X12_count_2, e_X12_count_3, e_X12_count_5, e_X12_count_7, e_X12_count_10, e_X12_count_11, e_X12_count_12, e_X12_count_15, e_X12_count_16, e_X12_count_17, e_X12_count_19, e_X12_count_22, e_X12_count_23, e_X12_count_26, e_X12_count_27, e_X12_count_28, e_X12_count_29, e_X12_count_32, e_X12_count_35, e_X12_count_36_0, e_X12_count_36_1, e_X12_count_36_2, e_X12_count_36_3, e_X12_count_36_4, e_X12_count_36_5, e_X12_count_36_6, e_X12_count_36_d, e_X12_count_80, e_X12_count_81, e_X12_count_82, e_X12_count_83, e_X12_count_86, e_X12_count_87, e_X12_count_88, e_X12_count_89, e_X12_count_90, e_X12_count_93, e_X12_count_94, e_X12_count_95, e_X12_count_96, e_X12_count_97, e_X12_count_100, e_X12_count_102, e_X12_count_103, e_X12_count_104, e_X12_count_105, e_X12_count_108, e_X12_count_109, e_X12_count_110, c_X12_count_243_11_0, e_X12_count_113, e_X12_count_114, e_X12_count_115, e_X12_count_118, e_X12_count_119, e_X12_count_121, g_12_143_11, g_12_23_11, g_12_66_11, g_12_7_11, hc, a0, hA, xl_i, if_neg c0, if_neg c1, if_neg c2]
  by_cases c4 : w = nI 4
  · subst c4
    simp (disch := first | exact xnl_i _ | exact xnl_r _ | exact xnl_u _ | exact xnl_n | exact zI_2 | exact zI_24 | assumption | omega | (simp only [xset_len]; omega)) only [↓reduceIte, xbd_s, xpv_n, xpv_s, e_X12_count_0, e_X12_count_1, e_X12_count_2, e_X12_count_3, e_X12_count_5, e_X12_count_7, e_X12_count_10, e_X12_count_11, e_X12_count_12, e_X12_count_15, e_X12_count_16, e_X12_count_17, e_X12_count_19, e_X12_count_22, e_X12_count_23, e_X12_count_26, e_X12_count_27, e_X12_count_28, e_X12_count_29, e_X12_count_32, e_X12_count_35, e_X12_count_36_0, e_X12_count_36_1, e_X12_count_36_2, e_X12_count_36_3, e_X12_count_36_4, e_X12_count_36_5, e_X12_count_36_6, e_X12_count_36_d, e_X12_count_80, e_X12_count_81, e_X12_count_82, e_X12_count_83, e_X12_count_86, e_X12_count_87, e_X12_count_88, e_X12_count_89, e_X12_count_90, e_X12_count_93, e_X12_count_94, e_X12_count_95, e_X12_count_96, e_X12_count_97, e_X12_count_100, e_X12_count_102, e_X12_count_103, e_X12_count_104, e_X12_count_105, e_X12_count_108, e_X12_count_109, e_X12_count_110, c_X12_count_243_11_0, e_X12_count_113, e_X12_count_114, e_X12_count_115, e_X12_count_118, e_X12_count_119, e_X12_count_121, g_12_143_11, g_12_23_11, g_12_66_11, g_12_7_11, hc, a0, hA, xl_i, if_neg c0, if_neg c1, if_neg c2, if_neg c3]
  by_cases c5 : w = nI 5
  · subst c5
    simp (disch := first | exact xnl_i _ | exact xnl_r _ | exact xnl_u _ | exact xnl_n | exact zI_2 | exact zI_24 | assumption | omega | (simp only [xset_len]; omega)) only [↓reduceIte, xbd_s, xpv_n, xpv_s, e_X12_count_0, e_X12_count_1, e_X12_count_2, e_X12_count_3, e_X12_count_5, e_X12_count_7, e_X12_count_10, e_X12_count_11, e_X12_count_12, e_X12_count_15, e_X12_count_16, e_X12_count_17, e_X12_count_19, e_X12_count_22, e_X12_count_23, e_X12_count_26, e_X12_count_27, e_X12_count_28, e_X12_count_29, e_X12_count_32, e_X12_count_35, e_X12_count_36_0, e_X12_count_36_1, e_X12_count_36_2, e_X12_count_36_3, e_X12_count_36_4, e_X12_count_36_5, e_X12_count_36_6, e_X12_count_36_d, e_X12_count_80, e_X12_count_81, e_X12_count_82, e_X12_count_83, e_X12_count_86, e_X12_count_87, e_X12_count_88, e_X12_count_89, e_X12_count_90, e_X12_count_93, e_X12_count_94, e_X12_count_95, e_X12_count_96, e_X12_count_97, e_X12_count_100, e_X12_count_102, e_X12_count_103, e_X12_count_104, e_X12_count_105, e_X12_count_108, e_X12_count_109, e_X12_count_110, c_X12_count_243_11_0, e_X12_count_113, e_X12_count_114, e_X12_count_115, e_X12_count_118, e_X12_count_119, e_X12_count_121, g_12_143_11, g_12_23_11, g_12_66_11, g_12_7_11, hc, a0, hA, xl_i, q, if_neg c0, if_neg c1, if_neg c2, if_neg c3, if_neg c4]
  by_cases c6 : w = nI 6
  · subst c6
    simp (disch := first | exact xnl_i _ | exact xnl_r _ | exact xnl_u _ | exact xnl_n | exact zI_2 | exact zI_24 | assumption | omega | (simp only [xset_len]; omega)) only [↓reduceIte, xbd_s, xpv_n, xpv_s, e_X12_count_0, e_X12_count_1, e_X12_count_2, e_X12_count_3, e_X12_count_5, e_X12_count_7, e_X12_count_10, e_X12_count_11, e_X12_count_12, e_X12_count_15, e_X12_count_16, e_X12_count_17, e_X12_count_19, e_X12_count_22, e_X12_count_23, e_X12_count_26, e_X12_count_27, e_X12_count_28, e_X12_count_29, e_X12_count_32, e_X12_count_35, e_X12_count_36_0, e_X12_count_36_1, e_X12_count_36_2, e_X12_count_36_3, e_X12_count_36_4, e_X12_count_36_5, e_X12_count_36_6, e_X12_count_36_d, e_X12_count_80, e_X12_count_81, e_X12_count_82, e_X12_count_83, e_X12_count_86, e_X12_count_87, e_X12_count_88, e_X12_count_89, e_X12_count_90, e_X12_count_93, e_X12_count_94, e_X12_count_95, e_X12_count_96, e_X12_count_97, e_X12_count_100, e_X12_count_102, e_X12_count_103, e_X12_count_104, e_X12_count_105, e_X12_count_108, e_X12_count_109, e_X12_count_110, c_X12_count_243_11_0, e_X12_count_113, e_X12_count_114, e_X12_count_115, e_X12_count_118, e_X12_count_119, e_X12_count_121, g_12_143_11, g_12_23_11, g_12_66_11, g_12_7_11, hc, a0, hA, xl_i, if_neg c0, if_neg c1, if_neg c2, if_neg c3, if_neg c4, if_neg c5]
  have e : w.toInt < 0 ∨ 6 < w.toInt := sw_out (c := 6) (by omega) (by
    intro j hj
    rcases j with _ | _ | _ | _ | _ | _ | _ | j
    · exact c0
    · exact c1
    · exact c2
    · exact c3
    · exact c4
    · exact c5
    · exact c6
    · omega)
  rw [if_neg c0, if_neg c1, if_neg c2, if_neg c3, if_neg c4, if_neg c5, if_neg c6]
  simp (disch := first | exact xnl_i _ | exact xnl_r _ | exact xnl_u _ | exact xnl_n | exact zI_2 | exact zI_24 | assumption | omega | (simp only [xset_len]; omega)) only [↓reduceIte, xbd_s, xpv_n, xpv_s, e_X12_count_0, e_X12_count_1, e_X12_count_2, e_X12_count_3, e_X12_count_5, e_X12_count_7, e_X12_count_10, e_X12_count_11, e_X12_count_12, e_X12_count_15, e_X12_count_16, e_X12_count_17, e_X12_count_19, e_X12_count_22, e_X12_count_23, e_X12_count_26, e_X12_count_27, e_X12_count_28, e_X12_count_29, e_X12_count_32, e_X12_count_35, e_X12_count_36_0, e_X12_count_36_1, e_X12_count_36_2, e_X12_count_36_3, e_X12_count_36_4, e_X12_count_36_5, e_X12_count_36_6, e_X12_count_36_d, e_X12_count_80, e_X12_count_81, e_X12_count_82, e_X12_count_83, e_X12_count_86, e_X12_count_87, e_X12_count_88, e_X12_count_89, e_X12_count_90, e_X12_count_93, e_X12_count_94, e_X12_count_95, e_X12_count_96, e_X12_count_97, e_X12_count_100, e_X12_count_102, e_X12_count_103, e_X12_count_104, e_X12_count_105, e_X12_count_108, e_X12_count_109, e_X12_count_110, c_X12_count_243_11_0, e_X12_count_113, e_X12_count_114, e_X12_count_115, e_X12_count_118, e_X12_count_119, e_X12_count_121, g_12_143_11, g_12_23_11, g_12_66_11, g_12_7_11, hc, a0, hA, xl_i, e]
end XMA
