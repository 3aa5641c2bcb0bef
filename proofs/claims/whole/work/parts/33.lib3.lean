/-! LIBRARY: suspects, howManyOut, spreadWithout -/
theorem nI_neNO {t : Nat} (ht : t < 2 ^ 31) : ¬ nI t = -1000000 := by
  intro e
  have := nI_toInt ht
  rw [e] at this
  have e2 : (-1000000 : Int32).toInt = -1000000 := by decide
  omega
def whoF (cm : Int32 → Int32) (fst : Nat) (j : Nat) (y : Int32 × Int32) : Int32 × Int32 := (y.1 ||| cm (nI (fst + j)), y.2 &&& cm (nI (fst + j)))
/-- READERS who come in one of these hours, in each -/
def whoS (cm : Int32 → Int32) (m : Nat) (F : Nat → Int32) (x : Int32) (hr : Nat) : Option (Int32 × Int32) := match lTS F x hr (nI 0) with
  | none => none
  | some l => some (xfold (whoF cm (fTS F l)) (l - fTS F l + 1) (nI 0, allS m))
def whoO (e : Int32) (w : Option (Int32 × Int32)) : Int32 := match w with
  | none => xNO
  | some y => if e = 0 then y.1 else y.2
section XLK
variable {X : xS} {h : xH} {b p n m pl fr to : Nat} {pv : Value} {hr : Int32} {d k a o : Nat → Int32} {g : Nat → Option Nat} {u v so dr : Nat → Int32}
theorem r_suspects {hr : Nat} (hh : hr < 2 ^ 30) (hL : xLB X h b (.ref p) (nI hr) d k a o) (hP : xPB X h p n m pl fr to g u v) (hG : xGB X h n g so dr) {s : Nat} (hs : s < n) (x e : Int32) : xR X m_X3_suspects 0 [.ref b, .int (nI s), .int x, .int e, xU, xU, xU, xU, xU, xU] [] h = some (some (.int (whoO e (whoS (cmS m u v) m (fun t => fallS (so s) (dr s) (nI t)) x hr))), h) := by
  have q1 := r_firstTouch (by omega) hL hP hG hs x
  have q2 := r_lastTouch (by omega) hL hP hG hs x
  have q3 := r_allReaders hL hP
  have q4 := fun t => r_comers hP (t := t)
  obtain ⟨l0, l1, l2, l3, l4, l5⟩ := hL
  have p0 := hP.1
  cases e0 : lTS (fun t => fallS (so s) (dr s) (nI t)) x hr (nI 0) with
  | none =>
    rw [e0] at q1 q2
    have e3 : whoO e (whoS (cmS m u v) m (fun t => fallS (so s) (dr s) (nI t)) x hr) = xNO := by unfold whoS; rw [e0]; rfl
    rw [e3]
    simp (disch := first | exact xnl_i _ | exact xnl_r _ | exact xnl_u _ | exact xnl_n | exact zI_2 | exact zI_24 | assumption | omega) only [xbd_s, xpv_n, xpv_s, e_X3_suspects_0, e_X3_suspects_0n, e_X3_suspects_1, e_X3_suspects_2, e_X3_suspects_3, c_X3_suspects_104_3_0, c_X3_suspects_101_3_0, c_X3_suspects_107_3_0, c_X3_suspects_110_5_0, e_X3_suspects_6, e_X3_suspects_8, e_X3_suspects_8n, e_X3_suspects_9, e_X3_suspects_12n, e_X3_suspects_12, e_X3_suspects_15, e_X3_suspects_17, e_X3_suspects_19, e_X3_suspects_22, e_X3_suspects_24, e_X3_suspects_25, e_X3_suspects_25n, e_X3_suspects_26, e_X3_suspects_27, e_X3_suspects_28, e_X3_suspects_31, e_X3_suspects_33, e_X3_suspects_34, e_X3_suspects_36, e_X3_suspects_36n, e_X3_suspects_37, e_X3_suspects_40, e_X3_suspects_42, e_X3_suspects_44, e_X3_suspects_46, e_X3_suspects_48, e_X3_suspects_50, e_X3_suspects_53, e_X3_suspects_53n, e_X3_suspects_54, e_X3_suspects_57, e_X3_suspects_59, e_X3_suspects_62, e_X3_suspects_64, e_X3_suspects_66, e_X3_suspects_68, e_X3_suspects_69, e_X3_suspects_71, e_X3_suspects_73, e_X3_suspects_75, e_X3_suspects_76, e_X3_suspects_78, e_X3_suspects_81, e_X3_suspects_84, e_X3_suspects_85, e_X3_suspects_88, e_X3_suspects_90, e_X3_suspects_93, e_X3_suspects_95, g_3_24_3, l0, q1, xO, Option.map_none, if_true]
  | some l =>
    rw [e0] at q1 q2
    have hl := lTS_le _ _ _ _ _ e0
    have hf := fTS_le (fun t => fallS (so s) (dr s) (nI t)) l
    have e3 : whoS (cmS m u v) m (fun t => fallS (so s) (dr s) (nI t)) x hr = some (xfold (whoF (cmS m u v) (fTS (fun t => fallS (so s) (dr s) (nI t)) l)) (l - fTS (fun t => fallS (so s) (dr s) (nI t)) l + 1) (nI 0, allS m)) := by unfold whoS; rw [e0]
    rw [e3]
    simp only [Option.map_some, xO] at q1 q2
    generalize fTS (fun t => fallS (so s) (dr s) (nI t)) l = f at q1 hf ⊢
    have L := x_loop (fun j (y : (Int32 × Int32) × Value) => xR X m_X3_suspects 46 [.ref b, .int (nI s), .int x, .int e, .int (nI f), .int (nI l), .int y.1.1, .int y.1.2, .int (nI (f + j)), y.2] [] h) (fun y => some (some (.int (if e = 0 then y.1.1 else y.1.2)), h)) (fun j y => (whoF (cmS m u v) f j y.1, .int (cmS m u v (nI (f + j))))) (l - f + 1) ((nI 0, allS m), xU)
      (by
        intro j hj y
        obtain ⟨⟨y1, y2⟩, w⟩ := y
        have e1 : ¬ nI l < nI (f + j) := nI_nlt (by omega) (by omega)
        dsimp only [whoF]
        rw [e_X3_suspects_46]
        simp (disch := first | exact xnl_i _ | exact xnl_r _ | exact xnl_u _ | exact xnl_n | exact zI_2 | exact zI_24 | assumption | omega) only [xbd_s, xpv_n, xpv_s, e_X3_suspects_0, e_X3_suspects_0n, e_X3_suspects_1, e_X3_suspects_2, e_X3_suspects_3, c_X3_suspects_104_3_0, c_X3_suspects_101_3_0, c_X3_suspects_107_3_0, c_X3_suspects_110_5_0, e_X3_suspects_6, e_X3_suspects_8, e_X3_suspects_8n, e_X3_suspects_9, e_X3_suspects_12n, e_X3_suspects_12, e_X3_suspects_15, e_X3_suspects_17, e_X3_suspects_19, e_X3_suspects_22, e_X3_suspects_24, e_X3_suspects_25, e_X3_suspects_25n, e_X3_suspects_26, e_X3_suspects_27, e_X3_suspects_28, e_X3_suspects_31, e_X3_suspects_33, e_X3_suspects_34, e_X3_suspects_36, e_X3_suspects_36n, e_X3_suspects_37, e_X3_suspects_40, e_X3_suspects_42, e_X3_suspects_44, e_X3_suspects_48, e_X3_suspects_50, e_X3_suspects_53, e_X3_suspects_53n, e_X3_suspects_54, e_X3_suspects_57, e_X3_suspects_59, e_X3_suspects_62, e_X3_suspects_64, e_X3_suspects_66, e_X3_suspects_68, e_X3_suspects_69, e_X3_suspects_71, e_X3_suspects_73, e_X3_suspects_75, e_X3_suspects_76, e_X3_suspects_78, e_X3_suspects_81, e_X3_suspects_84, e_X3_suspects_85, e_X3_suspects_88, e_X3_suspects_90, e_X3_suspects_93, e_X3_suspects_95, g_3_24_3, l0, p0, q4, e1, if_true, if_false, nI_inc]
        rfl)
      (by
        intro y
        obtain ⟨⟨y1, y2⟩, w⟩ := y
        have e1 : nI l < nI (f + (l - f + 1)) := nI_lt (by omega) (by omega)
        dsimp only
        simp (disch := first | exact xnl_i _ | exact xnl_r _ | exact xnl_u _ | exact xnl_n | exact zI_2 | exact zI_24 | assumption | omega) only [xbd_s, xpv_n, xpv_s, e_X3_suspects_0, e_X3_suspects_0n, e_X3_suspects_1, e_X3_suspects_2, e_X3_suspects_3, c_X3_suspects_104_3_0, c_X3_suspects_101_3_0, c_X3_suspects_107_3_0, c_X3_suspects_110_5_0, e_X3_suspects_6, e_X3_suspects_8, e_X3_suspects_8n, e_X3_suspects_9, e_X3_suspects_12n, e_X3_suspects_12, e_X3_suspects_15, e_X3_suspects_17, e_X3_suspects_19, e_X3_suspects_22, e_X3_suspects_24, e_X3_suspects_25, e_X3_suspects_25n, e_X3_suspects_26, e_X3_suspects_27, e_X3_suspects_28, e_X3_suspects_31, e_X3_suspects_33, e_X3_suspects_34, e_X3_suspects_36, e_X3_suspects_36n, e_X3_suspects_37, e_X3_suspects_40, e_X3_suspects_42, e_X3_suspects_44, e_X3_suspects_46, e_X3_suspects_48, e_X3_suspects_50, e_X3_suspects_53, e_X3_suspects_53n, e_X3_suspects_54, e_X3_suspects_57, e_X3_suspects_59, e_X3_suspects_62, e_X3_suspects_64, e_X3_suspects_66, e_X3_suspects_68, e_X3_suspects_69, e_X3_suspects_71, e_X3_suspects_73, e_X3_suspects_75, e_X3_suspects_76, e_X3_suspects_78, e_X3_suspects_81, e_X3_suspects_84, e_X3_suspects_85, e_X3_suspects_88, e_X3_suspects_90, e_X3_suspects_93, e_X3_suspects_95, g_3_24_3, e1, if_true]
        by_cases e2 : e = 0
        · simp only [if_pos e2, e_X3_suspects_95]
        · simp only [if_neg e2, e_X3_suspects_95])
    have e9 : ∀ c, (xfold (fun j (y : (Int32 × Int32) × Value) => (whoF (cmS m u v) f j y.1, (.int (cmS m u v (nI (f + j))) : Value))) c ((nI 0, allS m), xU)).1 = xfold (whoF (cmS m u v) f) c (nI 0, allS m) := by
      intro c
      induction c with
      | zero => rfl
      | succ c ih =>
        show whoF _ _ _ _ = whoF _ _ _ _
        rw [ih]
    have e4 := nI_neNO (t := f) (by omega)
    simp (disch := first | exact xnl_i _ | exact xnl_r _ | exact xnl_u _ | exact xnl_n | exact zI_2 | exact zI_24 | assumption | omega) only [xbd_s, xpv_n, xpv_s, e_X3_suspects_0, e_X3_suspects_0n, e_X3_suspects_1, e_X3_suspects_2, e_X3_suspects_3, c_X3_suspects_104_3_0, c_X3_suspects_101_3_0, c_X3_suspects_107_3_0, c_X3_suspects_110_5_0, e_X3_suspects_6, e_X3_suspects_8, e_X3_suspects_8n, e_X3_suspects_9, e_X3_suspects_12n, e_X3_suspects_12, e_X3_suspects_15, e_X3_suspects_17, e_X3_suspects_19, e_X3_suspects_22, e_X3_suspects_24, e_X3_suspects_25, e_X3_suspects_25n, e_X3_suspects_26, e_X3_suspects_27, e_X3_suspects_28, e_X3_suspects_31, e_X3_suspects_33, e_X3_suspects_34, e_X3_suspects_36, e_X3_suspects_36n, e_X3_suspects_37, e_X3_suspects_40, e_X3_suspects_42, e_X3_suspects_44, e_X3_suspects_48, e_X3_suspects_50, e_X3_suspects_53, e_X3_suspects_53n, e_X3_suspects_54, e_X3_suspects_57, e_X3_suspects_59, e_X3_suspects_62, e_X3_suspects_64, e_X3_suspects_66, e_X3_suspects_68, e_X3_suspects_69, e_X3_suspects_71, e_X3_suspects_73, e_X3_suspects_75, e_X3_suspects_76, e_X3_suspects_78, e_X3_suspects_81, e_X3_suspects_84, e_X3_suspects_85, e_X3_suspects_88, e_X3_suspects_90, e_X3_suspects_93, e_X3_suspects_95, g_3_24_3, l0, q1, q2, q3, xO, Option.map_some, e4, if_false]
    refine L.trans ?_
    rw [e9]
    rfl
/-- a sum over the spots -/
theorem r_howManyOut (hL : xLB X h b (.ref p) hr d k a o) (hP : xPB X h p n m pl fr to g u v) : xR X m_X3_howManyOut 0 [.ref b, xU, xU] [] h = some (some (.int (xfold (fun s x => x + if 0 < o s then nI 1 else nI 0) n (nI 0))), h) := by
  have q1 := r_spots hL hP
  have hn := hP.2.2.2.2.1
  have L := x_loop (fun j x => xR X m_X3_howManyOut 4 [.ref b, .int x, .int (nI j)] [] h) (fun x => some (some (.int x), h)) (fun s x => x + if 0 < o s then nI 1 else nI 0) n (nI 0)
    (by
      intro j hj x
      have e1 : nI j < nI n := nI_lt hj (by omega)
      have q2 := r_isOut (s := j) hL (by omega)
      have l0 := hL.1
      rw [e_X3_howManyOut_4]
      simp (disch := first | exact xnl_i _ | exact xnl_r _ | exact xnl_u _ | exact xnl_n | exact zI_2 | exact zI_24 | assumption | omega) only [xbd_s, xpv_n, xpv_s, e_X3_howManyOut_0, e_X3_howManyOut_1, e_X3_howManyOut_2, e_X3_howManyOut_3, e_X3_howManyOut_5, e_X3_howManyOut_6, c_X3_howManyOut_46_3_1, c_X3_howManyOut_58_3_1, e_X3_howManyOut_9, e_X3_howManyOut_12, e_X3_howManyOut_13, e_X3_howManyOut_14, e_X3_howManyOut_15, e_X3_howManyOut_18, e_X3_howManyOut_21, e_X3_howManyOut_22, e_X3_howManyOut_25, e_X3_howManyOut_26, e_X3_howManyOut_27, e_X3_howManyOut_28, e_X3_howManyOut_31, e_X3_howManyOut_34, e_X3_howManyOut_35, l0, q1, q2, e1, if_true, nI_inc]
      by_cases c : 0 < o j
      · simp (disch := first | exact xnl_i _ | exact xnl_r _ | exact xnl_u _ | exact xnl_n | exact zI_2 | exact zI_24 | assumption | omega) only [xbd_s, xpv_n, xpv_s, e_X3_howManyOut_0, e_X3_howManyOut_1, e_X3_howManyOut_2, e_X3_howManyOut_3, e_X3_howManyOut_5, e_X3_howManyOut_6, c_X3_howManyOut_46_3_1, c_X3_howManyOut_58_3_1, e_X3_howManyOut_9, e_X3_howManyOut_12, e_X3_howManyOut_13, e_X3_howManyOut_14, e_X3_howManyOut_15, e_X3_howManyOut_18, e_X3_howManyOut_21, e_X3_howManyOut_22, e_X3_howManyOut_25, e_X3_howManyOut_26, e_X3_howManyOut_27, e_X3_howManyOut_28, e_X3_howManyOut_31, e_X3_howManyOut_34, e_X3_howManyOut_35, if_pos c, zI_1, if_false, nI_inc]
      · have e0 : nI 0 = 0 := rfl
        simp (disch := first | exact xnl_i _ | exact xnl_r _ | exact xnl_u _ | exact xnl_n | exact zI_2 | exact zI_24 | assumption | omega) only [xbd_s, xpv_n, xpv_s, e_X3_howManyOut_0, e_X3_howManyOut_1, e_X3_howManyOut_2, e_X3_howManyOut_3, e_X3_howManyOut_5, e_X3_howManyOut_6, c_X3_howManyOut_46_3_1, c_X3_howManyOut_58_3_1, e_X3_howManyOut_9, e_X3_howManyOut_12, e_X3_howManyOut_13, e_X3_howManyOut_14, e_X3_howManyOut_15, e_X3_howManyOut_18, e_X3_howManyOut_21, e_X3_howManyOut_22, e_X3_howManyOut_25, e_X3_howManyOut_26, e_X3_howManyOut_27, e_X3_howManyOut_28, e_X3_howManyOut_31, e_X3_howManyOut_34, e_X3_howManyOut_35, if_neg c, e0, if_true, nI_inc])
    (by
      intro x
      have e1 : ¬ nI n < nI n := nI_nlt (Nat.le_refl n) (by omega)
      have l0 := hL.1
      simp (disch := first | exact xnl_i _ | exact xnl_r _ | exact xnl_u _ | exact xnl_n | exact zI_2 | exact zI_24 | assumption | omega) only [xbd_s, xpv_n, xpv_s, e_X3_howManyOut_0, e_X3_howManyOut_1, e_X3_howManyOut_2, e_X3_howManyOut_3, e_X3_howManyOut_4, e_X3_howManyOut_5, e_X3_howManyOut_6, c_X3_howManyOut_46_3_1, c_X3_howManyOut_58_3_1, e_X3_howManyOut_9, e_X3_howManyOut_12, e_X3_howManyOut_13, e_X3_howManyOut_14, e_X3_howManyOut_15, e_X3_howManyOut_18, e_X3_howManyOut_21, e_X3_howManyOut_22, e_X3_howManyOut_25, e_X3_howManyOut_26, e_X3_howManyOut_27, e_X3_howManyOut_28, e_X3_howManyOut_31, e_X3_howManyOut_34, e_X3_howManyOut_35, l0, q1, e1, if_false])
  simp (disch := first | exact xnl_i _ | exact xnl_r _ | exact xnl_u _ | exact xnl_n | exact zI_2 | exact zI_24 | assumption | omega) only [xbd_s, xpv_n, xpv_s, e_X3_howManyOut_0, e_X3_howManyOut_1, e_X3_howManyOut_2, e_X3_howManyOut_3, e_X3_howManyOut_5, e_X3_howManyOut_6, c_X3_howManyOut_46_3_1, c_X3_howManyOut_58_3_1, e_X3_howManyOut_9, e_X3_howManyOut_12, e_X3_howManyOut_13, e_X3_howManyOut_14, e_X3_howManyOut_15, e_X3_howManyOut_18, e_X3_howManyOut_21, e_X3_howManyOut_22, e_X3_howManyOut_25, e_X3_howManyOut_26, e_X3_howManyOut_27, e_X3_howManyOut_28, e_X3_howManyOut_31, e_X3_howManyOut_34, e_X3_howManyOut_35]
  exact L
theorem r_howManyOutN (hL : xLB X h b .null hr d k a o) : xR X m_X3_howManyOut 0 [.ref b, xU, xU] [] h = some (some (.int (nI 0)), h) := by
  have q1 := r_spotsN hL
  have l0 := hL.1
  have e1 : ¬ nI 0 < nI 0 := by decide
  simp (disch := first | exact xnl_i _ | exact xnl_r _ | exact xnl_u _ | exact xnl_n | exact zI_2 | exact zI_24 | assumption | omega) only [xbd_s, xpv_n, xpv_s, e_X3_howManyOut_0, e_X3_howManyOut_1, e_X3_howManyOut_2, e_X3_howManyOut_3, e_X3_howManyOut_4, e_X3_howManyOut_5, e_X3_howManyOut_6, c_X3_howManyOut_46_3_1, c_X3_howManyOut_58_3_1, e_X3_howManyOut_9, e_X3_howManyOut_12, e_X3_howManyOut_13, e_X3_howManyOut_14, e_X3_howManyOut_15, e_X3_howManyOut_18, e_X3_howManyOut_21, e_X3_howManyOut_22, e_X3_howManyOut_25, e_X3_howManyOut_26, e_X3_howManyOut_27, e_X3_howManyOut_28, e_X3_howManyOut_31, e_X3_howManyOut_34, e_X3_howManyOut_35, l0, q1, e1, if_false]
def sprF (set : Int32) (d o : Nat → Int32) (s : Nat) (y : Int32 × Int32) : Int32 × Int32 :=
  if 0 < o s then y else
    let l := if (set >>> (nI s &&& 31)) &&& nI 1 = nI 1 then nI 0 else d s
    (if y.1 < l then l else y.1, if l < y.2 then l else y.2)
theorem r_spread (hL : xLB X h b (.ref p) hr d k a o) (hP : xPB X h p n m pl fr to g u v) (x : Int32) : xR X m_X3_spreadWithout 0 [.ref b, .int x, xU, xU, xU, xU] [] h = some (some (.int ((xfold (sprF x d o) n (-1, nI 10000)).1 - (xfold (sprF x d o) n (-1, nI 10000)).2)), h) := by
  have q1 := r_spots hL hP
  have hn := hP.2.2.2.2.1
  have L := x_loop (fun j (y : (Int32 × Int32) × Value) => xR X m_X3_spreadWithout 9 [.ref b, .int x, .int y.1.1, .int y.1.2, .int (nI j), y.2] [] h) (fun y => some (some (.int (y.1.1 - y.1.2)), h)) (fun s y => (sprF x d o s y.1, if 0 < o s then y.2 else .int (if (x >>> (nI s &&& 31)) &&& nI 1 = nI 1 then nI 0 else d s))) n ((-1, nI 10000), xU)
    (by
      intro j hj y
      obtain ⟨⟨y1, y2⟩, w⟩ := y
      have e1 : nI j < nI n := nI_lt hj (by omega)
      have q2 := r_isOut (s := j) hL (by omega)
      have l0 := hL.1
      have l1 := hL.2.1
      have e0 : nI 0 = 0 := rfl
      dsimp only [sprF]
      rw [e_X3_spreadWithout_9]
      simp (disch := first | exact xnl_i _ | exact xnl_r _ | exact xnl_u _ | exact xnl_n | exact zI_2 | exact zI_24 | assumption | omega) only [xbd_s, xpv_n, xpv_s, e_X3_spreadWithout_0, e_X3_spreadWithout_1, e_X3_spreadWithout_2, e_X3_spreadWithout_5, e_X3_spreadWithout_6, e_X3_spreadWithout_7, e_X3_spreadWithout_11, e_X3_spreadWithout_12, c_X3_spreadWithout_46_3_1, c_X3_spreadWithout_58_3_0, e_X3_spreadWithout_15, e_X3_spreadWithout_18, e_X3_spreadWithout_19, e_X3_spreadWithout_21, e_X3_spreadWithout_24, e_X3_spreadWithout_27, e_X3_spreadWithout_28, e_X3_spreadWithout_30, e_X3_spreadWithout_33, e_X3_spreadWithout_36, e_X3_spreadWithout_37, e_X3_spreadWithout_40, e_X3_spreadWithout_41, e_X3_spreadWithout_44, e_X3_spreadWithout_46, e_X3_spreadWithout_47, e_X3_spreadWithout_49, e_X3_spreadWithout_50, e_X3_spreadWithout_52, e_X3_spreadWithout_55, e_X3_spreadWithout_56, e_X3_spreadWithout_57, e_X3_spreadWithout_59, e_X3_spreadWithout_62, e_X3_spreadWithout_63, e_X3_spreadWithout_66, e_X3_spreadWithout_69, e_X3_spreadWithout_70, e_X3_spreadWithout_71, e_X3_spreadWithout_72, g_3_9_3, l0, q1, q2, e1, if_true]
      by_cases c : 0 < o j
      · simp (disch := first | exact xnl_i _ | exact xnl_r _ | exact xnl_u _ | exact xnl_n | exact zI_2 | exact zI_24 | assumption | omega) only [xbd_s, xpv_n, xpv_s, e_X3_spreadWithout_0, e_X3_spreadWithout_1, e_X3_spreadWithout_2, e_X3_spreadWithout_5, e_X3_spreadWithout_6, e_X3_spreadWithout_7, e_X3_spreadWithout_11, e_X3_spreadWithout_12, c_X3_spreadWithout_46_3_1, c_X3_spreadWithout_58_3_0, e_X3_spreadWithout_15, e_X3_spreadWithout_18, e_X3_spreadWithout_19, e_X3_spreadWithout_21, e_X3_spreadWithout_24, e_X3_spreadWithout_27, e_X3_spreadWithout_28, e_X3_spreadWithout_30, e_X3_spreadWithout_33, e_X3_spreadWithout_36, e_X3_spreadWithout_37, e_X3_spreadWithout_40, e_X3_spreadWithout_41, e_X3_spreadWithout_44, e_X3_spreadWithout_46, e_X3_spreadWithout_47, e_X3_spreadWithout_49, e_X3_spreadWithout_50, e_X3_spreadWithout_52, e_X3_spreadWithout_55, e_X3_spreadWithout_56, e_X3_spreadWithout_57, e_X3_spreadWithout_59, e_X3_spreadWithout_62, e_X3_spreadWithout_63, e_X3_spreadWithout_66, e_X3_spreadWithout_69, e_X3_spreadWithout_70, e_X3_spreadWithout_71, e_X3_spreadWithout_72, g_3_9_3, if_pos c, zI_1, if_false, nI_inc]
      · by_cases c2 : (x >>> (nI j &&& 31)) &&& nI 1 = nI 1
        · simp (disch := first | exact xnl_i _ | exact xnl_r _ | exact xnl_u _ | exact xnl_n | exact zI_2 | exact zI_24 | assumption | omega) only [xbd_s, xpv_n, xpv_s, e_X3_spreadWithout_0, e_X3_spreadWithout_1, e_X3_spreadWithout_2, e_X3_spreadWithout_5, e_X3_spreadWithout_6, e_X3_spreadWithout_7, e_X3_spreadWithout_11, e_X3_spreadWithout_12, c_X3_spreadWithout_46_3_1, c_X3_spreadWithout_58_3_0, e_X3_spreadWithout_15, e_X3_spreadWithout_18, e_X3_spreadWithout_19, e_X3_spreadWithout_21, e_X3_spreadWithout_24, e_X3_spreadWithout_27, e_X3_spreadWithout_28, e_X3_spreadWithout_30, e_X3_spreadWithout_33, e_X3_spreadWithout_36, e_X3_spreadWithout_37, e_X3_spreadWithout_40, e_X3_spreadWithout_41, e_X3_spreadWithout_44, e_X3_spreadWithout_46, e_X3_spreadWithout_47, e_X3_spreadWithout_49, e_X3_spreadWithout_50, e_X3_spreadWithout_52, e_X3_spreadWithout_55, e_X3_spreadWithout_56, e_X3_spreadWithout_57, e_X3_spreadWithout_59, e_X3_spreadWithout_62, e_X3_spreadWithout_63, e_X3_spreadWithout_66, e_X3_spreadWithout_69, e_X3_spreadWithout_70, e_X3_spreadWithout_71, e_X3_spreadWithout_72, g_3_9_3, if_neg c, e0, if_true, r_isIn, if_pos c2, zI_1, if_false, nI_inc]
        · simp (disch := first | exact xnl_i _ | exact xnl_r _ | exact xnl_u _ | exact xnl_n | exact zI_2 | exact zI_24 | assumption | omega) only [xbd_s, xpv_n, xpv_s, e_X3_spreadWithout_0, e_X3_spreadWithout_1, e_X3_spreadWithout_2, e_X3_spreadWithout_5, e_X3_spreadWithout_6, e_X3_spreadWithout_7, e_X3_spreadWithout_11, e_X3_spreadWithout_12, c_X3_spreadWithout_46_3_1, c_X3_spreadWithout_58_3_0, e_X3_spreadWithout_15, e_X3_spreadWithout_18, e_X3_spreadWithout_19, e_X3_spreadWithout_21, e_X3_spreadWithout_24, e_X3_spreadWithout_27, e_X3_spreadWithout_28, e_X3_spreadWithout_30, e_X3_spreadWithout_33, e_X3_spreadWithout_36, e_X3_spreadWithout_37, e_X3_spreadWithout_40, e_X3_spreadWithout_41, e_X3_spreadWithout_44, e_X3_spreadWithout_46, e_X3_spreadWithout_47, e_X3_spreadWithout_49, e_X3_spreadWithout_50, e_X3_spreadWithout_52, e_X3_spreadWithout_55, e_X3_spreadWithout_56, e_X3_spreadWithout_57, e_X3_spreadWithout_59, e_X3_spreadWithout_62, e_X3_spreadWithout_63, e_X3_spreadWithout_66, e_X3_spreadWithout_69, e_X3_spreadWithout_70, e_X3_spreadWithout_71, e_X3_spreadWithout_72, g_3_9_3, if_neg c, e0, if_true, r_isIn, if_neg c2, l0, l1, xl_i, nI_inc])
    (by
      intro y
      obtain ⟨⟨y1, y2⟩, w⟩ := y
      have e1 : ¬ nI n < nI n := nI_nlt (Nat.le_refl n) (by omega)
      have l0 := hL.1
      simp (disch := first | exact xnl_i _ | exact xnl_r _ | exact xnl_u _ | exact xnl_n | exact zI_2 | exact zI_24 | assumption | omega) only [xbd_s, xpv_n, xpv_s, e_X3_spreadWithout_0, e_X3_spreadWithout_1, e_X3_spreadWithout_2, e_X3_spreadWithout_5, e_X3_spreadWithout_6, e_X3_spreadWithout_7, e_X3_spreadWithout_9, e_X3_spreadWithout_11, e_X3_spreadWithout_12, c_X3_spreadWithout_46_3_1, c_X3_spreadWithout_58_3_0, e_X3_spreadWithout_15, e_X3_spreadWithout_18, e_X3_spreadWithout_19, e_X3_spreadWithout_21, e_X3_spreadWithout_24, e_X3_spreadWithout_27, e_X3_spreadWithout_28, e_X3_spreadWithout_30, e_X3_spreadWithout_33, e_X3_spreadWithout_36, e_X3_spreadWithout_37, e_X3_spreadWithout_40, e_X3_spreadWithout_41, e_X3_spreadWithout_44, e_X3_spreadWithout_46, e_X3_spreadWithout_47, e_X3_spreadWithout_49, e_X3_spreadWithout_50, e_X3_spreadWithout_52, e_X3_spreadWithout_55, e_X3_spreadWithout_56, e_X3_spreadWithout_57, e_X3_spreadWithout_59, e_X3_spreadWithout_62, e_X3_spreadWithout_63, e_X3_spreadWithout_66, e_X3_spreadWithout_69, e_X3_spreadWithout_70, e_X3_spreadWithout_71, e_X3_spreadWithout_72, g_3_9_3, l0, q1, e1, if_false])
  have e9 : ∀ c, (xfold (fun s (y : (Int32 × Int32) × Value) => (sprF x d o s y.1, if 0 < o s then y.2 else (.int (if (x >>> (nI s &&& 31)) &&& nI 1 = nI 1 then nI 0 else d s) : Value))) c ((-1, nI 10000), xU)).1 = xfold (sprF x d o) c (-1, nI 10000) := by
    intro c
    induction c with
    | zero => rfl
    | succ c ih =>
      show sprF _ _ _ _ _ = sprF _ _ _ _ _
      rw [ih]
  simp (disch := first | exact xnl_i _ | exact xnl_r _ | exact xnl_u _ | exact xnl_n | exact zI_2 | exact zI_24 | assumption | omega) only [xbd_s, xpv_n, xpv_s, e_X3_spreadWithout_0, e_X3_spreadWithout_1, e_X3_spreadWithout_2, e_X3_spreadWithout_5, e_X3_spreadWithout_6, e_X3_spreadWithout_7, e_X3_spreadWithout_11, e_X3_spreadWithout_12, c_X3_spreadWithout_46_3_1, c_X3_spreadWithout_58_3_0, e_X3_spreadWithout_15, e_X3_spreadWithout_18, e_X3_spreadWithout_19, e_X3_spreadWithout_21, e_X3_spreadWithout_24, e_X3_spreadWithout_27, e_X3_spreadWithout_28, e_X3_spreadWithout_30, e_X3_spreadWithout_33, e_X3_spreadWithout_36, e_X3_spreadWithout_37, e_X3_spreadWithout_40, e_X3_spreadWithout_41, e_X3_spreadWithout_44, e_X3_spreadWithout_46, e_X3_spreadWithout_47, e_X3_spreadWithout_49, e_X3_spreadWithout_50, e_X3_spreadWithout_52, e_X3_spreadWithout_55, e_X3_spreadWithout_56, e_X3_spreadWithout_57, e_X3_spreadWithout_59, e_X3_spreadWithout_62, e_X3_spreadWithout_63, e_X3_spreadWithout_66, e_X3_spreadWithout_69, e_X3_spreadWithout_70, e_X3_spreadWithout_71, e_X3_spreadWithout_72, g_3_9_3]
  refine L.trans ?_
  rw [e9]
end XLK
