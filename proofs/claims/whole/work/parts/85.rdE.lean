/-! READING, the class: its making; library() -/
section XRF
variable {X : xS} {h : xH} {r t : Nat} {tp : Nat → Int32} {c : Nat → Nat}
theorem rd_init (hr : xnw h = r) (h180 : 180 ≤ r) (ht : t ≤ 400) (hT : xget X h 29 = some (.inr ((1, 400), .inl tp))) : ∃ h', xR X m_X7_init 0 [.ref r, .ref 29, .int (nI t)] [] (h ++ [.inl (6, [.null, .int 0, .int 0, .int 0, .int 0, .int 0, .null, .null])]) = some (none, h') ∧ xRK X h' r t tp (0, 0, 0, 0) 0 0 (fun _ => 0) ∧ xGr X (fun _ => False) h h' := by
  have hl : h.length + 16 = r := hr
  have c0 : ∀ l : xH, xget X (h ++ l) r = l[0]? := fun l => by have := xg_app0 (X := X) (h := h) l; rw [hr] at this; exact this
  have cs : ∀ (l : xH) (e : xE), xset (h ++ l) r e = h ++ l.set 0 e := fun l e => by have := xset_app0 (h := h) l e; rw [hr] at this; exact this
  have cT : ∀ l : xH, xget X (h ++ l) 29 = some (.inr ((1, 400), .inl tp)) := fun l => (xg_app (by omega)).trans hT
  have e1 : ¬ nI 400 < nI t := nI_nlt ht (by omega)
  have S1 : xR X m_X7_init 0 [.ref r, .ref 29, .int (nI t)] [] (h ++ [.inl (6, [.null, .int 0, .int 0, .int 0, .int 0, .int 0, .null, .null])]) = xR X m_X7_init 19 [.ref r, .ref 29, .int (nI t)] [] (h ++ [.inl (6, [.ref 29, .int (nI t), .int 0, .int 0, .int 0, .int 0, .null, .null])]) := by
    simp (disch := first | exact xnl_i _ | exact xnl_r _ | exact xnl_u _ | exact xnl_n | exact zI_2 | exact zI_24 | assumption | omega | (simp only [xset_len]; omega)) only [↓reduceIte, xbd_s, xpv_n, xpv_s, e_X7_init_0, e_X7_init_1, e_X7_init_4, e_X7_init_5, e_X7_init_6, e_X7_init_9, e_X7_init_10, e_X7_init_11, e_X7_init_12, e_X7_init_13, e_X7_init_16, e_X7_init_20, e_X7_init_23, e_X7_init_24, c_X7_init_27_5_2, c_X7_init_34_3_2, c_X7_init_34_3_2n, e_X7_init_27, e_X7_init_30, e_X7_init_31, e_X7_init_34, e_X7_init_35, e_X7_init_36, e_X7_init_39, e_X7_init_39n, e_X7_init_42, e_X7_init_45, g_7_28_6, ini_X7_init, p_7_21_6, p_7_28_6, p_7_28_6n, p_7_37_6, p_7_37_6n, p_7_9_6, p_7_9_6n, c0, cs, cT, xn_K, if_neg e1, List.getElem?_cons_zero, List.set_cons_zero]
  have ex : ∃ hA : xH, hA = h ++ [.inl (6, [.ref 29, .int (nI t), .int 0, .int 0, .int 0, .int 0, .null, .null])] := ⟨_, rfl⟩
  obtain ⟨hA, hhA⟩ := ex
  rw [← hhA] at S1
  have gA : xGr X (fun _ => False) h hA := by rw [hhA]; exact xGr_app
  have lA : hA.length = h.length + 1 := by rw [hhA, List.length_append]; rfl
  have aA : xget X hA r = some (.inl (6, [.ref 29, .int (nI t), .int 0, .int 0, .int 0, .int 0, .null, .null])) := by rw [hhA, c0]; rfl
  have nA : xnw hA = r + 1 := by unfold xnw; omega
  have q1 := r_Pinit (X := X) (h := hA)
  rw [nA] at q1
  have d0 : ∀ l : xH, xget X (hA ++ l) (r + 1) = l[0]? := fun l => by have := xg_app0 (X := X) (h := hA) l; rw [nA] at this; exact this
  have dk : ∀ (l : xH) (k : Nat), xget X (hA ++ l) (r + 1 + k) = l[k]? := fun l k => by have := xg_app2 (X := X) (h := hA) l k; rw [nA] at this; exact this
  have dr : ∀ l : xH, xget X (hA ++ l) r = some (.inl (6, [.ref 29, .int (nI t), .int 0, .int 0, .int 0, .int 0, .null, .null])) := fun l => (xg_app (by omega)).trans aA
  have S2 : xR X m_X7_init 19 [.ref r, .ref 29, .int (nI t)] [] hA = xR X m_X7_init 30 [.ref r, .ref 29, .int (nI t)] [] (xset (hA ++ [.inl (5, [.ref (r + 1 + 1), .int 0, .ref (r + 1 + 2), .ref (r + 1 + 3), .int 0]), .inr ((4, 7), .inr (fun _ => none)), .inr ((0, 4), .inl (fun _ => 0)), .inr ((0, 4), .inl (fun _ => 0))]) r (.inl (6, [.ref 29, .int (nI t), .int 0, .int 0, .int 0, .int 0, .ref (r + 1), .null]))) := by
    simp (disch := first | exact xnl_i _ | exact xnl_r _ | exact xnl_u _ | exact xnl_n | exact zI_2 | exact zI_24 | assumption | omega | (simp only [xset_len]; omega)) only [↓reduceIte, xbd_s, xpv_n, xpv_s, e_X7_init_0, e_X7_init_1, e_X7_init_4, e_X7_init_5, e_X7_init_6, e_X7_init_9, e_X7_init_10, e_X7_init_11, e_X7_init_12, e_X7_init_13, e_X7_init_16, e_X7_init_19, e_X7_init_20, e_X7_init_23, e_X7_init_24, c_X7_init_27_5_2, c_X7_init_34_3_2, c_X7_init_34_3_2n, e_X7_init_27, e_X7_init_31, e_X7_init_34, e_X7_init_35, e_X7_init_36, e_X7_init_39, e_X7_init_39n, e_X7_init_42, e_X7_init_45, g_7_28_6, ini_X7_init, p_7_21_6, p_7_28_6, p_7_28_6n, p_7_37_6, p_7_37_6n, p_7_9_6, p_7_9_6n, nA, d0, List.getElem?_cons_zero, q1, dr]
  have ex : ∃ hB : xH, hB = xset (hA ++ [.inl (5, [.ref (r + 1 + 1), .int 0, .ref (r + 1 + 2), .ref (r + 1 + 3), .int 0]), .inr ((4, 7), .inr (fun _ => none)), .inr ((0, 4), .inl (fun _ => 0)), .inr ((0, 4), .inl (fun _ => 0))]) r (.inl (6, [.ref 29, .int (nI t), .int 0, .int 0, .int 0, .int 0, .ref (r + 1), .null])) := ⟨_, rfl⟩
  obtain ⟨hB, hhB⟩ := ex
  rw [← hhB] at S2
  have lB : hB.length = h.length + 5 := by rw [hhB, xset_len, List.length_append, lA]; rfl
  have gB : xGr X (fun c => c = r) hA hB := by rw [hhB]; exact xGr_tr xGr_app (xGr_set (by omega) rfl)
  have aB' : xget X hB r = some (.inl (6, [.ref 29, .int (nI t), .int 0, .int 0, .int 0, .int 0, .ref (r + 1), .null])) := by rw [hhB]; exact xg_same (by omega) (by rw [List.length_append]; omega)
  have pB : xPB X hB (r + 1) 0 0 (r + 2) (r + 3) (r + 4) (fun _ => none) (fun _ => 0) (fun _ => 0) := by
    rw [hhB]
    exact ⟨(xg_ne (by omega) (by omega)).trans (dk _ 0), (xg_ne (by omega) (by omega)).trans (dk _ 1), (xg_ne (by omega) (by omega)).trans (dk _ 2), (xg_ne (by omega) (by omega)).trans (dk _ 3), by omega, by omega⟩
  have nB : xnw hB = r + 5 := by unfold xnw; omega
  have q2 := r_Linit (X := X) (h := hB) (pv := .ref (r + 1)) (Or.inr ⟨_, rfl⟩)
  rw [nB] at q2
  have lw := xLB_new (X := X) (h := hB) (pv := .ref (r + 1))
  rw [nB] at lw
  have f0 : ∀ l : xH, xget X (hB ++ l) (r + 5) = l[0]? := fun l => by have := xg_app0 (X := X) (h := hB) l; rw [nB] at this; exact this
  have fr : ∀ l : xH, xget X (hB ++ l) r = some (.inl (6, [.ref 29, .int (nI t), .int 0, .int 0, .int 0, .int 0, .ref (r + 1), .null])) := fun l => (xg_app (by omega)).trans aB'
  have ex : ∃ l5 : xH, l5 = [.inl (3, [.ref (r + 1), .int 0, .ref (r + 5 + 1), .ref (r + 5 + 2), .ref (r + 5 + 3), .ref (r + 5 + 4)]), .inr ((0, 7), .inl (fun _ => 0)), .inr ((0, 7), .inl (fun _ => 0)), .inr ((0, 7), .inl (fun _ => 0)), .inr ((0, 7), .inl (fun _ => 0))] := ⟨_, rfl⟩
  obtain ⟨l5, hl5⟩ := ex
  have ll5 : l5.length = 5 := by rw [hl5]; rfl
  rw [← hl5] at q2 lw
  have S3 : xR X m_X7_init 30 [.ref r, .ref 29, .int (nI t)] [] hB = some (none, xset (hB ++ l5) r (.inl (6, [.ref 29, .int (nI t), .int 0, .int 0, .int 0, .int 0, .ref (r + 1), .ref (r + 5)]))) := by
    simp (disch := first | exact xnl_i _ | exact xnl_r _ | exact xnl_u _ | exact xnl_n | exact zI_2 | exact zI_24 | assumption | omega | (simp only [xset_len]; omega)) only [↓reduceIte, xbd_s, xpv_n, xpv_s, e_X7_init_0, e_X7_init_1, e_X7_init_4, e_X7_init_5, e_X7_init_6, e_X7_init_9, e_X7_init_10, e_X7_init_11, e_X7_init_12, e_X7_init_13, e_X7_init_16, e_X7_init_19, e_X7_init_20, e_X7_init_23, e_X7_init_24, c_X7_init_27_5_2, c_X7_init_34_3_2, c_X7_init_34_3_2n, e_X7_init_27, e_X7_init_30, e_X7_init_31, e_X7_init_34, e_X7_init_35, e_X7_init_36, e_X7_init_39, e_X7_init_39n, e_X7_init_42, e_X7_init_45, g_7_28_6, ini_X7_init, p_7_21_6, p_7_28_6, p_7_28_6n, p_7_37_6, p_7_37_6n, p_7_9_6, p_7_9_6n, nB, f0, List.getElem?_cons_zero, fr, q2]
  have G5 : xGr X (fun c => c = r) hB (xset (hB ++ l5) r (.inl (6, [.ref 29, .int (nI t), .int 0, .int 0, .int 0, .int 0, .ref (r + 1), .ref (r + 5)]))) := xGr_tr xGr_app (xGr_set (by omega) rfl)
  refine ⟨_, (S1.trans S2).trans S3, ⟨fun _ => none, fun _ => 0, fun _ => 0, fun _ => 0, fun _ => 0, fun _ => 0, fun _ => 0, fun _ => 0, ⟨xg_same (by omega) (by rw [List.length_append]; omega), ?_, h180⟩, xPB_gr G5 pB ⟨⟨by omega, by omega⟩, ⟨by omega, by omega⟩, ⟨by omega, by omega⟩, ⟨by omega, by omega⟩⟩, fun j hj => by omega, xLB_gr (xGr_set (A := fun c => c = r) (by omega) rfl) lw (fun c e1 e2 => by have := e1.1; omega), fun j hj => by omega, by rw [xset_len, List.length_append, ll5]; omega, ?_, fun _ _ => rfl⟩, xGr_tr gA (xGr_tr (xGr_mo gB (fun c e1 e2 => by omega)) (xGr_mo G5 (fun c e1 e2 => ?_)))⟩
  · exact xGr_g G5 (by omega) (by omega) (xGr_g gB (by omega) (by omega) (xGr_g gA (by omega) (fun e => e) hT))
  · exact ⟨upd_eq, upd_ne (by omega), by omega, upd_ne (by omega), by omega, upd_ne (by omega), by omega, fun j hj => by omega, fun j hj => by omega, fun i j hi => by omega⟩
  · sorry
end XRF
