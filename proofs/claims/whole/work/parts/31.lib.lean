/-! LIBRARY: what only looks -/
theorem nI_inc (k : Nat) : nI k + nI 1 = nI (k + 1) := (nI_succ k).symm
theorem nI_dec (k : Nat) : nI (k + 1) + (-1) = nI k := by rw [nI_succ, Int32.add_assoc, show (1 : Int32) + (-1) = 0 from by decide, Int32.add_zero]
theorem nI_sub1 (k : Nat) : nI (k + 1) - nI 1 = nI k := nI_pred k
theorem nI_gt0 {k : Nat} (hk : k + 1 < 2 ^ 31) : 0 < nI (k + 1) := by
  have := nI_lt (a := 0) (b := k + 1) (by omega) hk
  exact this
theorem nI_ngt0 : ¬ 0 < nI 0 := by decide
def xfold {α : Type} (F : Nat → α → α) : Nat → α → α
  | 0, x => x
  | k + 1, x => F k (xfold F k x)
theorem x_loop {α β : Type} (H : Nat → α → β) (E : α → β) (F : Nat → α → α) (n : Nat) (x : α) (step : ∀ k, k < n → ∀ y, H k y = H (k + 1) (F k y)) (ex : ∀ y, H n y = E y) : H 0 x = E (xfold F n x) := by
  have key : ∀ k, k ≤ n → H 0 x = H k (xfold F k x) := by
    intro k
    induction k with
    | zero => intro _; rfl
    | succ k ih => intro hk; rw [ih (by omega), step k (by omega)]; rfl
  rw [key n (Nat.le_refl n), ex]
/-- NONE -/
abbrev xNO : Int32 := -1000000
def xO (t : Option Nat) : Int32 := match t with
  | none => xNO
  | some t => nI t
def dNx (so dr o : Nat → Int32) (hr : Int32) (s : Nat) (x n : Int32) : Int32 := if n < o s then x else atS (x + fallS (so s) (dr s) (hr + n))
def fNx (so o : Nat → Int32) (hr : Int32) (s : Nat) (x n : Int32) : Int32 := if n < o s then x else atS (x + sunS (so s) (hr + n))
def lTS (F : Nat → Int32) (d : Int32) : Nat → Int32 → Option Nat
  | 0, x => if x = d then some 0 else none
  | t + 1, x => if x < d then lTS F d t (x + F t) else if x = d then some (t + 1) else none
def fTS (F : Nat → Int32) : Nat → Nat
  | 0 => 0
  | t + 1 => if F t = 0 then fTS F t else t + 1
section XLI
variable {X : xS} {h : xH} {b p n m pl fr to : Nat} {pv : Value} {hr : Int32} {d k a o : Nat → Int32} {g : Nat → Option Nat} {u v so dr : Nat → Int32}
theorem r_isThere (hL : xLB X h b (.ref p) hr d k a o) : xR X m_X3_isThere 0 [.ref b] [] h = some (some (.int (nI 1)), h) := by
  obtain ⟨l0, l1, l2, l3, l4, l5⟩ := hL
  simp (disch := first | exact xnl_i _ | exact xnl_r _ | exact xnl_u _ | exact xnl_n | exact zI_2 | exact zI_24 | assumption | omega) only [xbd_s, xpv_n, xpv_s, e_X3_isThere_0, e_X3_isThere_0n, e_X3_isThere_1, e_X3_isThere_4n, e_X3_isThere_4, e_X3_isThere_7, e_X3_isThere_8, e_X3_isThere_11, e_X3_isThere_12, e_X3_isThere_12_0, e_X3_isThere_12_1, g_3_24_3, l0]
theorem r_isThereN (hL : xLB X h b .null hr d k a o) : xR X m_X3_isThere 0 [.ref b] [] h = some (some (.int (nI 0)), h) := by
  obtain ⟨l0, l1, l2, l3, l4, l5⟩ := hL
  simp (disch := first | exact xnl_i _ | exact xnl_r _ | exact xnl_u _ | exact xnl_n | exact zI_2 | exact zI_24 | assumption | omega) only [xbd_s, xpv_n, xpv_s, e_X3_isThere_0, e_X3_isThere_0n, e_X3_isThere_1, e_X3_isThere_4n, e_X3_isThere_4, e_X3_isThere_7, e_X3_isThere_8, e_X3_isThere_11, e_X3_isThere_12, e_X3_isThere_12_0, e_X3_isThere_12_1, g_3_24_3, l0]
theorem r_spots (hL : xLB X h b (.ref p) hr d k a o) (hP : xPB X h p n m pl fr to g u v) : xR X m_X3_spots 0 [.ref b] [] h = some (some (.int (nI n)), h) := by
  obtain ⟨l0, l1, l2, l3, l4, l5⟩ := hL
  obtain ⟨p0, p1, p2, p3, p4, p5⟩ := hP
  simp (disch := first | exact xnl_i _ | exact xnl_r _ | exact xnl_u _ | exact xnl_n | exact zI_2 | exact zI_24 | assumption | omega) only [xbd_s, xpv_n, xpv_s, e_X3_spots_0, e_X3_spots_0n, e_X3_spots_1, e_X3_spots_4n, e_X3_spots_4, e_X3_spots_7, e_X3_spots_8, e_X3_spots_11, e_X3_spots_11n, e_X3_spots_12, e_X3_spots_15, e_X3_spots_18, g_3_24_3, g_3_38_5, l0, p0]
theorem r_spotsN (hL : xLB X h b .null hr d k a o) : xR X m_X3_spots 0 [.ref b] [] h = some (some (.int (nI 0)), h) := by
  obtain ⟨l0, l1, l2, l3, l4, l5⟩ := hL
  simp (disch := first | exact xnl_i _ | exact xnl_r _ | exact xnl_u _ | exact xnl_n | exact zI_2 | exact zI_24 | assumption | omega) only [xbd_s, xpv_n, xpv_s, e_X3_spots_0, e_X3_spots_0n, e_X3_spots_1, e_X3_spots_4n, e_X3_spots_4, e_X3_spots_7, e_X3_spots_8, e_X3_spots_11, e_X3_spots_11n, e_X3_spots_12, e_X3_spots_15, e_X3_spots_18, g_3_24_3, g_3_38_5, l0]
theorem r_readers (hL : xLB X h b (.ref p) hr d k a o) (hP : xPB X h p n m pl fr to g u v) : xR X m_X3_readers 0 [.ref b] [] h = some (some (.int (nI m)), h) := by
  obtain ⟨l0, l1, l2, l3, l4, l5⟩ := hL
  obtain ⟨p0, p1, p2, p3, p4, p5⟩ := hP
  simp (disch := first | exact xnl_i _ | exact xnl_r _ | exact xnl_u _ | exact xnl_n | exact zI_2 | exact zI_24 | assumption | omega) only [xbd_s, xpv_n, xpv_s, e_X3_readers_0, e_X3_readers_0n, e_X3_readers_1, e_X3_readers_4n, e_X3_readers_4, e_X3_readers_7, e_X3_readers_8, e_X3_readers_11, e_X3_readers_11n, e_X3_readers_12, e_X3_readers_15, e_X3_readers_18, g_3_24_3, g_3_43_5, l0, p0]
theorem r_readersN (hL : xLB X h b .null hr d k a o) : xR X m_X3_readers 0 [.ref b] [] h = some (some (.int (nI 0)), h) := by
  obtain ⟨l0, l1, l2, l3, l4, l5⟩ := hL
  simp (disch := first | exact xnl_i _ | exact xnl_r _ | exact xnl_u _ | exact xnl_n | exact zI_2 | exact zI_24 | assumption | omega) only [xbd_s, xpv_n, xpv_s, e_X3_readers_0, e_X3_readers_0n, e_X3_readers_1, e_X3_readers_4n, e_X3_readers_4, e_X3_readers_7, e_X3_readers_8, e_X3_readers_11, e_X3_readers_11n, e_X3_readers_12, e_X3_readers_15, e_X3_readers_18, g_3_24_3, g_3_43_5, l0]
def allS (n : Nat) : Int32 := (nI 1 <<< (nI n &&& 31)) - nI 1
theorem r_allSpots (hL : xLB X h b (.ref p) hr d k a o) (hP : xPB X h p n m pl fr to g u v) : xR X m_X3_allSpots 0 [.ref b] [] h = some (some (.int (allS n)), h) := by
  have q := r_spots hL hP
  obtain ⟨l0, l1, l2, l3, l4, l5⟩ := hL
  simp (disch := first | exact xnl_i _ | exact xnl_r _ | exact xnl_u _ | exact xnl_n | exact zI_2 | exact zI_24 | assumption | omega) only [xbd_s, xpv_n, xpv_s, e_X3_allSpots_0, e_X3_allSpots_1, e_X3_allSpots_2, c_X3_allSpots_46_3_1, e_X3_allSpots_5, e_X3_allSpots_6, e_X3_allSpots_7, e_X3_allSpots_8, l0, q]
  rfl
theorem r_allReaders (hL : xLB X h b (.ref p) hr d k a o) (hP : xPB X h p n m pl fr to g u v) : xR X m_X3_allReaders 0 [.ref b] [] h = some (some (.int (allS m)), h) := by
  have q := r_readers hL hP
  obtain ⟨l0, l1, l2, l3, l4, l5⟩ := hL
  simp (disch := first | exact xnl_i _ | exact xnl_r _ | exact xnl_u _ | exact xnl_n | exact zI_2 | exact zI_24 | assumption | omega) only [xbd_s, xpv_n, xpv_s, e_X3_allReaders_0, e_X3_allReaders_1, e_X3_allReaders_2, c_X3_allReaders_49_3_1, e_X3_allReaders_5, e_X3_allReaders_6, e_X3_allReaders_7, e_X3_allReaders_8, l0, q]
  rfl
theorem r_isSpot (hL : xLB X h b (.ref p) hr d k a o) (hP : xPB X h p n m pl fr to g u v) (x : Int32) : xR X m_X3_isSpot 0 [.ref b, .int x] [] h = some (some (.int (if x < 0 then nI 0 else if x < nI n then nI 1 else nI 0)), h) := by
  have q := r_spots hL hP
  obtain ⟨l0, l1, l2, l3, l4, l5⟩ := hL
  simp (disch := first | exact xnl_i _ | exact xnl_r _ | exact xnl_u _ | exact xnl_n | exact zI_2 | exact zI_24 | assumption | omega) only [xbd_s, xpv_n, xpv_s, e_X3_isSpot_0, e_X3_isSpot_1, e_X3_isSpot_4, e_X3_isSpot_5, e_X3_isSpot_6, c_X3_isSpot_46_3_1, e_X3_isSpot_9, e_X3_isSpot_12, e_X3_isSpot_13, e_X3_isSpot_16, e_X3_isSpot_17, e_X3_isSpot_17_0, e_X3_isSpot_17_1, l0, q]
  repeat' split
  all_goals rfl
theorem r_isSpotN (hL : xLB X h b .null hr d k a o) (x : Int32) : xR X m_X3_isSpot 0 [.ref b, .int x] [] h = some (some (.int (nI 0)), h) := by
  have q := r_spotsN hL
  obtain ⟨l0, l1, l2, l3, l4, l5⟩ := hL
  simp (disch := first | exact xnl_i _ | exact xnl_r _ | exact xnl_u _ | exact xnl_n | exact zI_2 | exact zI_24 | assumption | omega) only [xbd_s, xpv_n, xpv_s, e_X3_isSpot_0, e_X3_isSpot_1, e_X3_isSpot_4, e_X3_isSpot_5, e_X3_isSpot_6, c_X3_isSpot_46_3_1, e_X3_isSpot_9, e_X3_isSpot_12, e_X3_isSpot_13, e_X3_isSpot_16, e_X3_isSpot_17, e_X3_isSpot_17_0, e_X3_isSpot_17_1, l0, q]
  repeat' split
  all_goals first | rfl | exact absurd ‹x < nI 0› ‹¬ x < 0›
theorem r_isSet (hL : xLB X h b (.ref p) hr d k a o) (hP : xPB X h p n m pl fr to g u v) (x : Int32) : xR X m_X3_isSet 0 [.ref b, .int x] [] h = some (some (.int (if x &&& (allS n ^^^ (-1)) = 0 then nI 1 else nI 0)), h) := by
  have q := r_allSpots hL hP
  obtain ⟨l0, l1, l2, l3, l4, l5⟩ := hL
  simp (disch := first | exact xnl_i _ | exact xnl_r _ | exact xnl_u _ | exact xnl_n | exact zI_2 | exact zI_24 | assumption | omega) only [xbd_s, xpv_n, xpv_s, e_X3_isSet_0, e_X3_isSet_1, e_X3_isSet_2, c_X3_isSet_51_3_1, e_X3_isSet_5, e_X3_isSet_6, e_X3_isSet_7, e_X3_isSet_8, e_X3_isSet_11, e_X3_isSet_12, e_X3_isSet_15, e_X3_isSet_16, e_X3_isSet_16_0, e_X3_isSet_16_1, l0, q]
  split
  all_goals rfl
theorem r_placeAt (hL : xLB X h b (.ref p) hr d k a o) (hP : xPB X h p n m pl fr to g u v) {s q : Nat} (hs : s < n) (hq : g s = some q) : xR X m_X3_placeAt 0 [.ref b, .int (nI s)] [] h = some (some (.ref q), h) := by
  obtain ⟨l0, l1, l2, l3, l4, l5⟩ := hL
  obtain ⟨p0, p1, p2, p3, p4, p5⟩ := hP
  have e1 : ¬ nI s < 0 := nI_pos (by omega)
  have e2 : nI s < nI n := nI_lt hs (by omega)
  simp (disch := first | exact xnl_i _ | exact xnl_r _ | exact xnl_u _ | exact xnl_n | exact zI_2 | exact zI_24 | assumption | omega) only [xbd_s, xpv_n, xpv_s, e_X3_placeAt_0, e_X3_placeAt_0n, e_X3_placeAt_1, e_X3_placeAt_4n, e_X3_placeAt_4, e_X3_placeAt_7, e_X3_placeAt_8, e_X3_placeAt_11, e_X3_placeAt_12, e_X3_placeAt_12n, e_X3_placeAt_13, e_X3_placeAt_16, e_X3_placeAt_19, e_X3_placeAt_22, e_X3_placeAt_23, e_X3_placeAt_26, e_X3_placeAt_26n, e_X3_placeAt_27, e_X3_placeAt_30, e_X3_placeAt_33, e_X3_placeAt_34, e_X3_placeAt_35, e_X3_placeAt_35n, g_3_24_3, g_3_38_5, g_3_54_5, l0, p0, p1, e1, e2, if_true, if_false, xl_a, hq, xrv_s]
theorem r_placeAtX (hL : xLB X h b (.ref p) hr d k a o) (hP : xPB X h p n m pl fr to g u v) {x : Int32} (hs : x < 0 ∨ ¬ x < nI n) : xR X m_X3_placeAt 0 [.ref b, .int x] [] h = some (some .null, h) := by
  obtain ⟨l0, l1, l2, l3, l4, l5⟩ := hL
  obtain ⟨p0, p1, p2, p3, p4, p5⟩ := hP
  by_cases e1 : x < 0
  · simp (disch := first | exact xnl_i _ | exact xnl_r _ | exact xnl_u _ | exact xnl_n | exact zI_2 | exact zI_24 | assumption | omega) only [xbd_s, xpv_n, xpv_s, e_X3_placeAt_0, e_X3_placeAt_0n, e_X3_placeAt_1, e_X3_placeAt_4n, e_X3_placeAt_4, e_X3_placeAt_7, e_X3_placeAt_8, e_X3_placeAt_11, e_X3_placeAt_12, e_X3_placeAt_12n, e_X3_placeAt_13, e_X3_placeAt_16, e_X3_placeAt_19, e_X3_placeAt_22, e_X3_placeAt_23, e_X3_placeAt_26, e_X3_placeAt_26n, e_X3_placeAt_27, e_X3_placeAt_30, e_X3_placeAt_33, e_X3_placeAt_34, e_X3_placeAt_35, e_X3_placeAt_35n, g_3_24_3, g_3_38_5, g_3_54_5, l0, p0, p1, e1, if_true]
  · have e2 : ¬ x < nI n := hs.resolve_left e1
    simp (disch := first | exact xnl_i _ | exact xnl_r _ | exact xnl_u _ | exact xnl_n | exact zI_2 | exact zI_24 | assumption | omega) only [xbd_s, xpv_n, xpv_s, e_X3_placeAt_0, e_X3_placeAt_0n, e_X3_placeAt_1, e_X3_placeAt_4n, e_X3_placeAt_4, e_X3_placeAt_7, e_X3_placeAt_8, e_X3_placeAt_11, e_X3_placeAt_12, e_X3_placeAt_12n, e_X3_placeAt_13, e_X3_placeAt_16, e_X3_placeAt_19, e_X3_placeAt_22, e_X3_placeAt_23, e_X3_placeAt_26, e_X3_placeAt_26n, e_X3_placeAt_27, e_X3_placeAt_30, e_X3_placeAt_33, e_X3_placeAt_34, e_X3_placeAt_35, e_X3_placeAt_35n, g_3_24_3, g_3_38_5, g_3_54_5, l0, p0, p1, e1, e2, if_false]
theorem r_placeAtN (hL : xLB X h b .null hr d k a o) {x : Int32} : xR X m_X3_placeAt 0 [.ref b, .int x] [] h = some (some .null, h) := by
  obtain ⟨l0, l1, l2, l3, l4, l5⟩ := hL
  simp (disch := first | exact xnl_i _ | exact xnl_r _ | exact xnl_u _ | exact xnl_n | exact zI_2 | exact zI_24 | assumption | omega) only [xbd_s, xpv_n, xpv_s, e_X3_placeAt_0, e_X3_placeAt_0n, e_X3_placeAt_1, e_X3_placeAt_4n, e_X3_placeAt_4, e_X3_placeAt_7, e_X3_placeAt_8, e_X3_placeAt_11, e_X3_placeAt_12, e_X3_placeAt_12n, e_X3_placeAt_13, e_X3_placeAt_16, e_X3_placeAt_19, e_X3_placeAt_22, e_X3_placeAt_23, e_X3_placeAt_26, e_X3_placeAt_26n, e_X3_placeAt_27, e_X3_placeAt_30, e_X3_placeAt_33, e_X3_placeAt_34, e_X3_placeAt_35, e_X3_placeAt_35n, g_3_24_3, g_3_38_5, g_3_54_5, l0]
theorem r_isOut (hL : xLB X h b pv hr d k a o) {s : Nat} (hs : s < 7) : xR X m_X3_isOut 0 [.ref b, .int (nI s)] [] h = some (some (.int (if 0 < o s then nI 1 else nI 0)), h) := by
  obtain ⟨l0, l1, l2, l3, l4, l5⟩ := hL
  simp (disch := first | exact xnl_i _ | exact xnl_r _ | exact xnl_u _ | exact xnl_n | exact zI_2 | exact zI_24 | assumption | omega) only [xbd_s, xpv_n, xpv_s, e_X3_isOut_0, e_X3_isOut_1, e_X3_isOut_4, e_X3_isOut_5, e_X3_isOut_6, e_X3_isOut_9, e_X3_isOut_10, e_X3_isOut_13, e_X3_isOut_14, e_X3_isOut_14_0, e_X3_isOut_14_1, g_3_21_3, l0, l4, xl_i]
  split
  all_goals rfl
end XLI
