/-! the reference: findWhen, when, whoOf, who, oneHand -/
def fwS (F : Nat → Int32) (d : Int32) (hr : Nat) : Nat → Int32 → Int32 × Int32 → Int32 × Int32
  | 0, _, y => y
  | c + 1, x, y => if x + (if c = hr then nI 0 else F c) = d then fwS F d hr c (x + (if c = hr then nI 0 else F c)) (nI c, if y.2 = -1000000 then nI c else y.2) else fwS F d hr c (x + (if c = hr then nI 0 else F c)) y
def fwP (l : Option Nat) (F : Nat → Int32) : Int32 × Int32 := match l with
  | none => (-1000000, -1000000)
  | some l => (nI (fTS F l), nI l)
theorem fw_A (F : Nat → Int32) (hF : ∀ t, 0 ≤ (F t).toInt ∧ (F t).toInt ≤ 10) (d : Int32) (hr : Nat) : ∀ c x y, c ≤ hr → d.toInt < x.toInt → x.toInt + 10 * (c : Int) ≤ 20000 → 0 ≤ d.toInt → fwS F d hr c x y = y := by
  intro c
  induction c with
  | zero => intro x y _ _ _ _; rfl
  | succ c ih =>
    intro x y hc h1 h2 h3
    unfold fwS
    have f := hF c
    rw [if_neg (show ¬ c = hr by omega)]
    have e := add_i (x := x) (y := F c) (by omega) (by omega)
    rw [if_neg (by rw [xeq_i, e]; omega)]
    exact ih _ _ (by omega) (by omega) (by omega) h3
theorem fw_B (F : Nat → Int32) (hF : ∀ t, 0 ≤ (F t).toInt ∧ (F t).toInt ≤ 10) (d : Int32) (hr : Nat) : ∀ c l, c ≤ hr → d.toInt + 10 * (c : Int) ≤ 20000 → 0 ≤ d.toInt → ¬ l = -1000000 → fwS F d hr c d (nI c, l) = (nI (fTS F c), l) := by
  intro c
  induction c with
  | zero => intro l _ _ _ _; rfl
  | succ c ih =>
    intro l hc h2 h3 hl
    unfold fwS fTS
    have f := hF c
    rw [if_neg (show ¬ c = hr by omega)]
    dsimp only
    have e := add_i (x := d) (y := F c) (by omega) (by omega)
    by_cases g : F c = 0
    · have e2 : d + F c = d := by rw [g, Int32.add_zero]
      rw [if_pos g, e2, if_pos rfl, if_neg hl]
      exact ih l (by omega) (by omega) h3 hl
    · have g2 : ¬ (F c).toInt = 0 := fun q => g (xeq_i.mpr (by rw [q]; decide))
      rw [if_neg g, if_neg (by rw [xeq_i, e]; omega)]
      exact fw_A F hF d hr c _ _ (by omega) (by omega) (by omega) h3
theorem fw_C (F : Nat → Int32) (hF : ∀ t, 0 ≤ (F t).toInt ∧ (F t).toInt ≤ 10) (d : Int32) (hr : Nat) (hr999 : hr ≤ 999) (hd : 0 ≤ d.toInt ∧ d.toInt ≤ 9999) : ∀ c x, c ≤ hr → 0 ≤ x.toInt → x.toInt + 10 * (c : Int) ≤ 10000 → (if x = d then fwS F d hr c x (nI c, nI c) else fwS F d hr c x (-1000000, -1000000)) = fwP (lTS F d c x) F := by
  intro c
  induction c with
  | zero =>
    intro x _ _ _
    unfold lTS
    by_cases g : x = d
    · rw [if_pos g, if_pos g]; rfl
    · rw [if_neg g, if_neg g]; rfl
  | succ c ih =>
    intro x hc h1 h2
    have f := hF c
    have e := add_i (x := x) (y := F c) (by omega) (by omega)
    unfold lTS
    by_cases g : x < d
    · have g2 : ¬ x = d := fun q => by rw [q, xlt_i] at g; omega
      rw [if_pos g, if_neg g2]
      have := ih (x + F c) (by omega) (by omega) (by omega)
      rw [← this]
      conv => lhs; unfold fwS
      rw [if_neg (show ¬ c = hr by omega)]
      by_cases k : x + F c = d
      · rw [if_pos k, if_pos k, if_pos rfl]
      · rw [if_neg k, if_neg k]
    · rw [if_neg g]
      by_cases k : x = d
      · rw [if_pos k, if_pos k]
        subst k
        exact fw_B F hF _ hr (c + 1) _ hc (by omega) hd.1 (nI_neNO (by omega))
      · rw [if_neg k, if_neg k]
        refine fw_A F hF d hr (c + 1) x _ hc ?_ (by omega) hd.1
        rw [xlt_i] at g
        rw [xeq_i] at k
        omega
theorem fw_D (F : Nat → Int32) (hF : ∀ t, 0 ≤ (F t).toInt ∧ (F t).toInt ≤ 10) (d : Int32) (hr : Nat) (hr999 : hr ≤ 999) (hd : 0 ≤ d.toInt ∧ d.toInt ≤ 9999) : fwS F d hr (hr + 1) (nI 0) (-1000000, -1000000) = fwP (lTS F d hr (nI 0)) F := by
  have b0 : (nI 0).toInt = 0 := by decide
  have e0 : nI 0 + nI 0 = nI 0 := by decide
  rw [← fw_C F hF d hr hr999 hd hr (nI 0) (Nat.le_refl hr) (by omega) (by omega)]
  conv => lhs; unfold fwS
  rw [if_pos rfl, if_pos rfl, e0]
section XMH
variable {X : xS} {h : xH} {S : Nat → Int32} {nm : Int64} {A : Nat → Nat → Int32} {n m hr : Nat}
def mfl (f : Nat → Int32) (s t : Nat) : Int32 := fallS (f (3 + s)) (f (10 + s)) (nI t)
theorem m_findWhen (hM : xMB X h S nm A) (T : xST (A 0) n m hr) {s : Nat} (hs : s < n) (d : Int32) : ∃ h', xR X m_X12_findWhen 0 [.ref 169, .int (nI s), .int d, xU, xU] [] h = some (none, h') ∧ xMB X h' (upd (upd S 11 (fwS (mfl (A 0) s) d hr (hr + 1) (nI 0) (-1000000, -1000000)).1) 12 (fwS (mfl (A 0) s) d hr (hr + 1) (nI 0) (-1000000, -1000000)).2) nm A ∧ xFr X inM h h' := by
  have hn := T.2.2.1
  have h25 := T.2.2.2.2.2.1
  have hr9 := T.2.2.2.2.2.2.1
  have L : ∀ c x y h, c ≤ hr + 1 → xMB X h (upd (upd S 11 y.1) 12 y.2) nm A → ∃ h', xR X m_X12_findWhen 23 [.ref 169, .int (nI s), .int d, .int x, .int (nI c - nI 1)] [] h = some (none, h') ∧ xMB X h' (upd (upd S 11 (fwS (mfl (A 0) s) d hr c x y).1) 12 (fwS (mfl (A 0) s) d hr c x y).2) nm A ∧ xFr X inM h h' := by
    intro c
    induction c with
    | zero =>
      intro x y h _ hM
      have e5 : nI 0 - nI 1 < 0 := by decide
      exact ⟨h, by simp (disch := first | exact xnl_i _ | exact xnl_r _ | exact xnl_u _ | exact xnl_n | exact zI_2 | exact zI_24 | assumption | omega | (simp only [xset_len]; omega)) only [↓reduceIte, xbd_s, xpv_n, xpv_s, e_X12_findWhen_0, e_X12_findWhen_1, e_X12_findWhen_3, e_X12_findWhen_6, e_X12_findWhen_7, e_X12_findWhen_9, e_X12_findWhen_12, e_X12_findWhen_13, e_X12_findWhen_14, e_X12_findWhen_15, e_X12_findWhen_18, e_X12_findWhen_20, e_X12_findWhen_21, e_X12_findWhen_23, e_X12_findWhen_25, e_X12_findWhen_28, e_X12_findWhen_29, e_X12_findWhen_31, e_X12_findWhen_32, e_X12_findWhen_35, e_X12_findWhen_37, e_X12_findWhen_38, e_X12_findWhen_41, e_X12_findWhen_42, e_X12_findWhen_45, e_X12_findWhen_46, e_X12_findWhen_47, e_X12_findWhen_49, c_X12_findWhen_157_11_1, e_X12_findWhen_52, e_X12_findWhen_53, e_X12_findWhen_54, e_X12_findWhen_55, e_X12_findWhen_56, e_X12_findWhen_59, e_X12_findWhen_60, e_X12_findWhen_62, e_X12_findWhen_65, e_X12_findWhen_66, e_X12_findWhen_67, e_X12_findWhen_70, e_X12_findWhen_72, e_X12_findWhen_75, e_X12_findWhen_77, e_X12_findWhen_80, e_X12_findWhen_81, e_X12_findWhen_84, e_X12_findWhen_87, e_X12_findWhen_90, e_X12_findWhen_93, g_12_190_11, g_12_7_11, p_12_187_11, p_12_190_11, if_pos e5], hM, xFr_rfl⟩
    | succ c ih =>
      intro x y h hcr hM
      obtain ⟨y1, y2⟩ := y
      dsimp only at hM
      have hc := hM.1
      rw [upd_eq, upd_ne (show 11 ≠ 12 by decide), upd_eq] at hc
      have a0 := hM.2.1
      have q1 := m_fallO hM T hs (nI c)
      have e5 : ¬ nI c < 0 := nI_pos (by omega)
      have ex : ∃ z, z = x + (if c = hr then nI 0 else mfl (A 0) s c) := ⟨_, rfl⟩
      obtain ⟨z, hz⟩ := ex
      have st1 : xR X m_X12_findWhen 23 [.ref 169, .int (nI s), .int d, .int x, .int (nI c)] [] h = xR X m_X12_findWhen 54 [.ref 169, .int (nI s), .int d, .int z, .int (nI c)] [] h := by
        rw [hz, e_X12_findWhen_23]
        by_cases k : c = hr
        · have k2 : nI c = nI hr := by rw [k]
          rw [if_pos k]
          simp (disch := first | exact xnl_i _ | exact xnl_r _ | exact xnl_u _ | exact xnl_n | exact zI_2 | exact zI_24 | assumption | omega | (simp only [xset_len]; omega)) only [↓reduceIte, xbd_s, xpv_n, xpv_s, e_X12_findWhen_0, e_X12_findWhen_1, e_X12_findWhen_3, e_X12_findWhen_6, e_X12_findWhen_7, e_X12_findWhen_9, e_X12_findWhen_12, e_X12_findWhen_13, e_X12_findWhen_14, e_X12_findWhen_15, e_X12_findWhen_18, e_X12_findWhen_20, e_X12_findWhen_21, e_X12_findWhen_25, e_X12_findWhen_28, e_X12_findWhen_29, e_X12_findWhen_31, e_X12_findWhen_32, e_X12_findWhen_35, e_X12_findWhen_37, e_X12_findWhen_38, e_X12_findWhen_41, e_X12_findWhen_42, e_X12_findWhen_45, e_X12_findWhen_46, e_X12_findWhen_47, e_X12_findWhen_49, c_X12_findWhen_157_11_1, e_X12_findWhen_52, e_X12_findWhen_53, e_X12_findWhen_55, e_X12_findWhen_56, e_X12_findWhen_59, e_X12_findWhen_60, e_X12_findWhen_62, e_X12_findWhen_65, e_X12_findWhen_66, e_X12_findWhen_67, e_X12_findWhen_70, e_X12_findWhen_72, e_X12_findWhen_75, e_X12_findWhen_77, e_X12_findWhen_80, e_X12_findWhen_81, e_X12_findWhen_84, e_X12_findWhen_87, e_X12_findWhen_90, e_X12_findWhen_93, g_12_190_11, g_12_7_11, p_12_187_11, p_12_190_11, hc, a0, if_neg e5, xl_i, h25, if_pos k2]
        · have k2 : ¬ nI c = nI hr := by
            rw [xeq_i, nI_toInt (by omega), nI_toInt (by omega)]
            omega
          rw [if_neg k]
          simp (disch := first | exact xnl_i _ | exact xnl_r _ | exact xnl_u _ | exact xnl_n | exact zI_2 | exact zI_24 | assumption | omega | (simp only [xset_len]; omega)) only [↓reduceIte, xbd_s, xpv_n, xpv_s, e_X12_findWhen_0, e_X12_findWhen_1, e_X12_findWhen_3, e_X12_findWhen_6, e_X12_findWhen_7, e_X12_findWhen_9, e_X12_findWhen_12, e_X12_findWhen_13, e_X12_findWhen_14, e_X12_findWhen_15, e_X12_findWhen_18, e_X12_findWhen_20, e_X12_findWhen_21, e_X12_findWhen_25, e_X12_findWhen_28, e_X12_findWhen_29, e_X12_findWhen_31, e_X12_findWhen_32, e_X12_findWhen_35, e_X12_findWhen_37, e_X12_findWhen_38, e_X12_findWhen_41, e_X12_findWhen_42, e_X12_findWhen_45, e_X12_findWhen_46, e_X12_findWhen_47, e_X12_findWhen_49, c_X12_findWhen_157_11_1, e_X12_findWhen_52, e_X12_findWhen_53, e_X12_findWhen_55, e_X12_findWhen_56, e_X12_findWhen_59, e_X12_findWhen_60, e_X12_findWhen_62, e_X12_findWhen_65, e_X12_findWhen_66, e_X12_findWhen_67, e_X12_findWhen_70, e_X12_findWhen_72, e_X12_findWhen_75, e_X12_findWhen_77, e_X12_findWhen_80, e_X12_findWhen_81, e_X12_findWhen_84, e_X12_findWhen_87, e_X12_findWhen_90, e_X12_findWhen_93, g_12_190_11, g_12_7_11, p_12_187_11, p_12_190_11, hc, a0, if_neg e5, xl_i, h25, if_neg k2, q1]
          all_goals rfl
      unfold fwS
      rw [← hz, nI_sub1, st1]
      by_cases k : z = d
      · rw [if_pos k]
        have M1 := xMB_S (S' := upd (upd S 11 (nI c)) 12 y2) (nm' := nm) hM
        have hc1 := M1.1
        rw [upd_eq, upd_ne (show 11 ≠ 12 by decide), upd_eq] at hc1
        have M2 := xMB_S (S' := upd (upd S 11 (nI c)) 12 (if y2 = -1000000 then nI c else y2)) (nm' := nm) M1
        obtain ⟨h', i1, i2, i3⟩ := ih z (nI c, if y2 = -1000000 then nI c else y2) _ (by omega) M2
        refine ⟨h', ?_, i2, xFr_tr (xFr_tr (xFr_set (by omega) ⟨by omega, by omega⟩) (xFr_set (by omega) ⟨by omega, by omega⟩)) i3⟩
        rw [← i1, e_X12_findWhen_54]
        refine Eq.trans (b := xR X m_X12_findWhen 65 [.ref 169, .int (nI s), .int d, .int z, .int (nI c)] [] (xset h 169 (xMc (upd (upd S 11 (nI c)) 12 y2) nm))) ?_ ?_
        · simp (disch := first | exact xnl_i _ | exact xnl_r _ | exact xnl_u _ | exact xnl_n | exact zI_2 | exact zI_24 | assumption | omega | (simp only [xset_len]; omega)) only [↓reduceIte, xbd_s, xpv_n, xpv_s, e_X12_findWhen_0, e_X12_findWhen_1, e_X12_findWhen_3, e_X12_findWhen_6, e_X12_findWhen_7, e_X12_findWhen_9, e_X12_findWhen_12, e_X12_findWhen_13, e_X12_findWhen_14, e_X12_findWhen_15, e_X12_findWhen_18, e_X12_findWhen_20, e_X12_findWhen_21, e_X12_findWhen_25, e_X12_findWhen_28, e_X12_findWhen_29, e_X12_findWhen_31, e_X12_findWhen_32, e_X12_findWhen_35, e_X12_findWhen_37, e_X12_findWhen_38, e_X12_findWhen_41, e_X12_findWhen_42, e_X12_findWhen_45, e_X12_findWhen_46, e_X12_findWhen_47, e_X12_findWhen_49, c_X12_findWhen_157_11_1, e_X12_findWhen_52, e_X12_findWhen_53, e_X12_findWhen_55, e_X12_findWhen_56, e_X12_findWhen_59, e_X12_findWhen_60, e_X12_findWhen_62, e_X12_findWhen_66, e_X12_findWhen_67, e_X12_findWhen_70, e_X12_findWhen_72, e_X12_findWhen_75, e_X12_findWhen_77, e_X12_findWhen_80, e_X12_findWhen_81, e_X12_findWhen_84, e_X12_findWhen_87, e_X12_findWhen_90, e_X12_findWhen_93, g_12_190_11, g_12_7_11, p_12_187_11, p_12_190_11, hc, if_pos k]
          all_goals rfl
        · by_cases g : y2 = -1000000
          · rw [if_pos g]
            simp (disch := first | exact xnl_i _ | exact xnl_r _ | exact xnl_u _ | exact xnl_n | exact zI_2 | exact zI_24 | assumption | omega | (simp only [xset_len]; omega)) only [↓reduceIte, xbd_s, xpv_n, xpv_s, e_X12_findWhen_0, e_X12_findWhen_1, e_X12_findWhen_3, e_X12_findWhen_6, e_X12_findWhen_7, e_X12_findWhen_9, e_X12_findWhen_12, e_X12_findWhen_13, e_X12_findWhen_14, e_X12_findWhen_15, e_X12_findWhen_18, e_X12_findWhen_20, e_X12_findWhen_21, e_X12_findWhen_25, e_X12_findWhen_28, e_X12_findWhen_29, e_X12_findWhen_31, e_X12_findWhen_32, e_X12_findWhen_35, e_X12_findWhen_37, e_X12_findWhen_38, e_X12_findWhen_41, e_X12_findWhen_42, e_X12_findWhen_45, e_X12_findWhen_46, e_X12_findWhen_47, e_X12_findWhen_49, c_X12_findWhen_157_11_1, e_X12_findWhen_52, e_X12_findWhen_53, e_X12_findWhen_54, e_X12_findWhen_55, e_X12_findWhen_56, e_X12_findWhen_59, e_X12_findWhen_60, e_X12_findWhen_62, e_X12_findWhen_65, e_X12_findWhen_66, e_X12_findWhen_67, e_X12_findWhen_70, e_X12_findWhen_72, e_X12_findWhen_75, e_X12_findWhen_77, e_X12_findWhen_80, e_X12_findWhen_81, e_X12_findWhen_84, e_X12_findWhen_87, e_X12_findWhen_90, e_X12_findWhen_93, g_12_190_11, g_12_7_11, p_12_187_11, p_12_190_11, hc1, if_pos g, nI_m1]
            all_goals rfl
          · rw [if_neg g]
            simp (disch := first | exact xnl_i _ | exact xnl_r _ | exact xnl_u _ | exact xnl_n | exact zI_2 | exact zI_24 | assumption | omega | (simp only [xset_len]; omega)) only [↓reduceIte, xbd_s, xpv_n, xpv_s, e_X12_findWhen_0, e_X12_findWhen_1, e_X12_findWhen_3, e_X12_findWhen_6, e_X12_findWhen_7, e_X12_findWhen_9, e_X12_findWhen_12, e_X12_findWhen_13, e_X12_findWhen_14, e_X12_findWhen_15, e_X12_findWhen_18, e_X12_findWhen_20, e_X12_findWhen_21, e_X12_findWhen_25, e_X12_findWhen_28, e_X12_findWhen_29, e_X12_findWhen_31, e_X12_findWhen_32, e_X12_findWhen_35, e_X12_findWhen_37, e_X12_findWhen_38, e_X12_findWhen_41, e_X12_findWhen_42, e_X12_findWhen_45, e_X12_findWhen_46, e_X12_findWhen_47, e_X12_findWhen_49, c_X12_findWhen_157_11_1, e_X12_findWhen_52, e_X12_findWhen_53, e_X12_findWhen_54, e_X12_findWhen_55, e_X12_findWhen_56, e_X12_findWhen_59, e_X12_findWhen_60, e_X12_findWhen_62, e_X12_findWhen_65, e_X12_findWhen_66, e_X12_findWhen_67, e_X12_findWhen_70, e_X12_findWhen_72, e_X12_findWhen_75, e_X12_findWhen_77, e_X12_findWhen_80, e_X12_findWhen_81, e_X12_findWhen_84, e_X12_findWhen_87, e_X12_findWhen_90, e_X12_findWhen_93, g_12_190_11, g_12_7_11, p_12_187_11, p_12_190_11, hc1, if_neg g, nI_m1]
            all_goals rfl
      · rw [if_neg k]
        obtain ⟨h', i1, i2, i3⟩ := ih z (y1, y2) h (by omega) hM
        refine ⟨h', ?_, i2, i3⟩
        rw [← i1, e_X12_findWhen_54]
        simp (disch := first | exact xnl_i _ | exact xnl_r _ | exact xnl_u _ | exact xnl_n | exact zI_2 | exact zI_24 | assumption | omega | (simp only [xset_len]; omega)) only [↓reduceIte, xbd_s, xpv_n, xpv_s, e_X12_findWhen_0, e_X12_findWhen_1, e_X12_findWhen_3, e_X12_findWhen_6, e_X12_findWhen_7, e_X12_findWhen_9, e_X12_findWhen_12, e_X12_findWhen_13, e_X12_findWhen_14, e_X12_findWhen_15, e_X12_findWhen_18, e_X12_findWhen_20, e_X12_findWhen_21, e_X12_findWhen_25, e_X12_findWhen_28, e_X12_findWhen_29, e_X12_findWhen_31, e_X12_findWhen_32, e_X12_findWhen_35, e_X12_findWhen_37, e_X12_findWhen_38, e_X12_findWhen_41, e_X12_findWhen_42, e_X12_findWhen_45, e_X12_findWhen_46, e_X12_findWhen_47, e_X12_findWhen_49, c_X12_findWhen_157_11_1, e_X12_findWhen_52, e_X12_findWhen_53, e_X12_findWhen_55, e_X12_findWhen_56, e_X12_findWhen_59, e_X12_findWhen_60, e_X12_findWhen_62, e_X12_findWhen_65, e_X12_findWhen_66, e_X12_findWhen_67, e_X12_findWhen_70, e_X12_findWhen_72, e_X12_findWhen_75, e_X12_findWhen_77, e_X12_findWhen_80, e_X12_findWhen_81, e_X12_findWhen_84, e_X12_findWhen_87, e_X12_findWhen_90, e_X12_findWhen_93, g_12_190_11, g_12_7_11, p_12_187_11, p_12_190_11, hc, if_neg k, nI_m1]
  have M1 := xMB_S (S' := upd S 11 (-1000000)) (nm' := nm) hM
  have M2 := xMB_S (S' := upd (upd S 11 (-1000000)) 12 (-1000000)) (nm' := nm) M1
  obtain ⟨h', i1, i2, i3⟩ := L (hr + 1) (nI 0) (-1000000, -1000000) _ (Nat.le_refl _) M2
  refine ⟨h', ?_, i2, xFr_tr (xFr_tr (xFr_set (by omega) ⟨by omega, by omega⟩) (xFr_set (by omega) ⟨by omega, by omega⟩)) i3⟩
  have hc := hM.1
  have hc1 := M1.1
  have hc2 := M2.1
  have a2 := M2.2.1
  rw [nI_sub1] at i1
  refine Eq.trans (b := xR X m_X12_findWhen 6 [.ref 169, .int (nI s), .int d, xU, xU] [] (xset h 169 (xMc (upd S 11 (-1000000)) nm))) ?_ ?_
  · simp (disch := first | exact xnl_i _ | exact xnl_r _ | exact xnl_u _ | exact xnl_n | exact zI_2 | exact zI_24 | assumption | omega | (simp only [xset_len]; omega)) only [↓reduceIte, xbd_s, xpv_n, xpv_s, e_X12_findWhen_0, e_X12_findWhen_1, e_X12_findWhen_3, e_X12_findWhen_7, e_X12_findWhen_9, e_X12_findWhen_12, e_X12_findWhen_13, e_X12_findWhen_14, e_X12_findWhen_15, e_X12_findWhen_18, e_X12_findWhen_20, e_X12_findWhen_21, e_X12_findWhen_23, e_X12_findWhen_25, e_X12_findWhen_28, e_X12_findWhen_29, e_X12_findWhen_31, e_X12_findWhen_32, e_X12_findWhen_35, e_X12_findWhen_37, e_X12_findWhen_38, e_X12_findWhen_41, e_X12_findWhen_42, e_X12_findWhen_45, e_X12_findWhen_46, e_X12_findWhen_47, e_X12_findWhen_49, c_X12_findWhen_157_11_1, e_X12_findWhen_52, e_X12_findWhen_53, e_X12_findWhen_54, e_X12_findWhen_55, e_X12_findWhen_56, e_X12_findWhen_59, e_X12_findWhen_60, e_X12_findWhen_62, e_X12_findWhen_65, e_X12_findWhen_66, e_X12_findWhen_67, e_X12_findWhen_70, e_X12_findWhen_72, e_X12_findWhen_75, e_X12_findWhen_77, e_X12_findWhen_80, e_X12_findWhen_81, e_X12_findWhen_84, e_X12_findWhen_87, e_X12_findWhen_90, e_X12_findWhen_93, g_12_190_11, g_12_7_11, p_12_187_11, p_12_190_11, hc]
    all_goals rfl
  refine Eq.trans (b := xR X m_X12_findWhen 12 [.ref 169, .int (nI s), .int d, xU, xU] [] (xset (xset h 169 (xMc (upd S 11 (-1000000)) nm)) 169 (xMc (upd (upd S 11 (-1000000)) 12 (-1000000)) nm))) ?_ ?_
  · simp (disch := first | exact xnl_i _ | exact xnl_r _ | exact xnl_u _ | exact xnl_n | exact zI_2 | exact zI_24 | assumption | omega | (simp only [xset_len]; omega)) only [↓reduceIte, xbd_s, xpv_n, xpv_s, e_X12_findWhen_0, e_X12_findWhen_1, e_X12_findWhen_3, e_X12_findWhen_6, e_X12_findWhen_7, e_X12_findWhen_9, e_X12_findWhen_13, e_X12_findWhen_14, e_X12_findWhen_15, e_X12_findWhen_18, e_X12_findWhen_20, e_X12_findWhen_21, e_X12_findWhen_23, e_X12_findWhen_25, e_X12_findWhen_28, e_X12_findWhen_29, e_X12_findWhen_31, e_X12_findWhen_32, e_X12_findWhen_35, e_X12_findWhen_37, e_X12_findWhen_38, e_X12_findWhen_41, e_X12_findWhen_42, e_X12_findWhen_45, e_X12_findWhen_46, e_X12_findWhen_47, e_X12_findWhen_49, c_X12_findWhen_157_11_1, e_X12_findWhen_52, e_X12_findWhen_53, e_X12_findWhen_54, e_X12_findWhen_55, e_X12_findWhen_56, e_X12_findWhen_59, e_X12_findWhen_60, e_X12_findWhen_62, e_X12_findWhen_65, e_X12_findWhen_66, e_X12_findWhen_67, e_X12_findWhen_70, e_X12_findWhen_72, e_X12_findWhen_75, e_X12_findWhen_77, e_X12_findWhen_80, e_X12_findWhen_81, e_X12_findWhen_84, e_X12_findWhen_87, e_X12_findWhen_90, e_X12_findWhen_93, g_12_190_11, g_12_7_11, p_12_187_11, p_12_190_11, hc1]
    all_goals rfl
  simp (disch := first | exact xnl_i _ | exact xnl_r _ | exact xnl_u _ | exact xnl_n | exact zI_2 | exact zI_24 | assumption | omega | (simp only [xset_len]; omega)) only [↓reduceIte, xbd_s, xpv_n, xpv_s, e_X12_findWhen_0, e_X12_findWhen_1, e_X12_findWhen_3, e_X12_findWhen_6, e_X12_findWhen_7, e_X12_findWhen_9, e_X12_findWhen_12, e_X12_findWhen_13, e_X12_findWhen_14, e_X12_findWhen_15, e_X12_findWhen_18, e_X12_findWhen_20, e_X12_findWhen_21, e_X12_findWhen_25, e_X12_findWhen_28, e_X12_findWhen_29, e_X12_findWhen_31, e_X12_findWhen_32, e_X12_findWhen_35, e_X12_findWhen_37, e_X12_findWhen_38, e_X12_findWhen_41, e_X12_findWhen_42, e_X12_findWhen_45, e_X12_findWhen_46, e_X12_findWhen_47, e_X12_findWhen_49, c_X12_findWhen_157_11_1, e_X12_findWhen_52, e_X12_findWhen_53, e_X12_findWhen_54, e_X12_findWhen_55, e_X12_findWhen_56, e_X12_findWhen_59, e_X12_findWhen_60, e_X12_findWhen_62, e_X12_findWhen_65, e_X12_findWhen_66, e_X12_findWhen_67, e_X12_findWhen_70, e_X12_findWhen_72, e_X12_findWhen_75, e_X12_findWhen_77, e_X12_findWhen_80, e_X12_findWhen_81, e_X12_findWhen_84, e_X12_findWhen_87, e_X12_findWhen_90, e_X12_findWhen_93, g_12_190_11, g_12_7_11, p_12_187_11, p_12_190_11, hc2, a2, xl_i, h25]
  exact i1
theorem fall_rng {so t : Nat} {dr : Int32} (h1 : 1 ≤ so) (h2 : so ≤ 5) (hd : 1 ≤ dr.toInt ∧ dr.toInt ≤ 5) (ht : Int32) : 0 ≤ (fallS (nI so) dr ht).toInt ∧ (fallS (nI so) dr ht).toInt ≤ 10 := by
  have key : ∀ e, 1 ≤ e → e ≤ 5 → ∀ so, 1 ≤ so → so ≤ 5 → (0 ≤ (nI e).toInt ∧ (nI e).toInt ≤ 10) ∧ (0 ≤ (nI 2 * nI e).toInt ∧ (nI 2 * nI e).toInt ≤ 10) ∧ (0 ≤ (nI e / nI 2).toInt ∧ (nI e / nI 2).toInt ≤ 10) ∧ (0 ≤ (nI e - nI e / nI 2).toInt ∧ (nI e - nI e / nI 2).toInt ≤ 10) := by
    intro e i1 i2 so _ _
    have i3 : e = 1 ∨ e = 2 ∨ e = 3 ∨ e = 4 ∨ e = 5 := by omega
    rcases i3 with rfl | rfl | rfl | rfl | rfl <;> decide
  obtain ⟨e, he, rfl⟩ := xb_toInt (x := dr) (by rw [xlt_i, xti0]; omega)
  rw [nI_toInt he] at hd
  have k := key e (by omega) (by omega) so h1 h2
  unfold fallS
  repeat' split
  all_goals first | exact k.1 | exact k.2.1 | exact k.2.2.1 | exact k.2.2.2 | decide
end XMH
