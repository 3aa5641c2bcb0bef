/-! READING, the class: its making; library() -/
section XRF
variable {X : xS} {h : xH} {r t : Nat} {tp : Nat → Int32} {c : Nat → Nat}
theorem rd_init (hr : xnw h = r) (h180 : 180 ≤ r) (ht : t ≤ 400) (hT : xget X h 29 = some (.inr ((1, 400), .inl tp))) {f0 : Nat → Int32} (hf0 : ∀ q, q < 54 → f0 q = 0) : ∃ h', xR X m_X7_init 0 [.ref r, .ref 29, .int (nI t)] [] (h ++ [.inl (6, [.null, .int 0, .int 0, .int 0, .int 0, .int 0, .null, .null])]) = some (none, h') ∧ xRK X h' r t tp (0, 0, 0, 0) 0 0 f0 ∧ xGr X (fun _ => False) h h' := by
  have hl : h.length + 16 = r := hr
  have c0 : ∀ l : xH, xget X (h ++ l) r = l[0]? := fun l => by have := xg_app0 (X := X) (h := h) l; rw [hr] at this; exact this
  have cs : ∀ (l : xH) (e : xE), xset (h ++ l) r e = h ++ l.set 0 e := fun l e => by have := xset_app0 (h := h) l e; rw [hr] at this; exact this
  have cT : ∀ l : xH, xget X (h ++ l) 29 = some (.inr ((1, 400), .inl tp)) := fun l => (xg_app (by omega)).trans hT
  have e1 : ¬ nI 400 < nI t := nI_nlt ht (by omega)
  have S1 : xR X m_X7_init 0 [.ref r, .ref 29, .int (nI t)] [] (h ++ [.inl (6, [.null, .int 0, .int 0, .int 0, .int 0, .int 0, .null, .null])]) = xR X m_X7_init 19 [.ref r, .ref 29, .int (nI t)] [] (h ++ [.inl (6, [.ref 29, .int (nI t), .int 0, .int 0, .int 0, .int 0, .null, .null])]) := by
    simp (disch := first | exact xnl_i _ | exact xnl_r _ | exact xnl_u _ | exact xnl_n | exact zI_2 | exact zI_24 | assumption | omega | (simp only [xset_len]; omega)) only [↓reduceIte, xbd_s, xpv_n, xpv_s, e_X7_init_0, e_X7_init_1, e_X7_init_4, e_X7_init_5, e_X7_init_6, e_X7_init_9, e_X7_init_10, e_X7_init_11, e_X7_init_12, e_X7_init_13, e_X7_init_16, e_X7_init_20, e_X7_init_23, e_X7_init_24, c_X7_init_27_5_2, c_X7_init_34_3_2, c_X7_init_34_3_2n, e_X7_init_27, e_X7_init_30, e_X7_init_31, e_X7_init_34, e_X7_init_35, e_X7_init_36, e_X7_init_39, e_X7_init_39n, e_X7_init_42, e_X7_init_45, g_7_28_6, ini_X7_init, p_7_21_6, p_7_28_6, p_7_28_6n, p_7_37_6, p_7_37_6n, p_7_9_6, p_7_9_6n, c0, cs, cT, xn_K, if_neg e1, List.getElem?_cons_zero, List.set_cons_zero]
  have ex : ∃ hA : xH, hA = h ++ [.inl (6, [.ref 29, .int (nI t), .int 0, .int 0, .int 0, .int 0, .null, .null])] := ⟨_, rfl⟩
  obtain ⟨hA, hhA⟩ := ex
  rw [← hhA] at S1
  have gA : xGr X (fun _ => False) h hA := by rw [hhA]; exact xGr_app
  have lA : hA.length = h.length + 1 := by rw [hhA, List.length_append]; rfl
  have aA : xget X hA r = some (.inl (6, [.ref 29, .int (nI t), .int 0, .int 0, .int 0, .int 0, .null, .null])) := by rw [hhA, c0]; rfl
  have nA : xnw hA = r + 1 := by unfold xnw; omega
  have q1 := r_Pinit (X := X) (h := hA)
  rw [nA] at q1
  have d0 : ∀ l : xH, xget X (hA ++ l) (r + 1) = l[0]? := fun l => by have := xg_app0 (X := X) (h := hA) l; rw [nA] at this; exact this
  have dk : ∀ (l : xH) (k : Nat), xget X (hA ++ l) (r + 1 + k) = l[k]? := fun l k => by have := xg_app2 (X := X) (h := hA) l k; rw [nA] at this; exact this
  have dr : ∀ l : xH, xget X (hA ++ l) r = some (.inl (6, [.ref 29, .int (nI t), .int 0, .int 0, .int 0, .int 0, .null, .null])) := fun l => (xg_app (by omega)).trans aA
  have S2 : xR X m_X7_init 19 [.ref r, .ref 29, .int (nI t)] [] hA = xR X m_X7_init 30 [.ref r, .ref 29, .int (nI t)] [] (xset (hA ++ [.inl (5, [.ref (r + 1 + 1), .int 0, .ref (r + 1 + 2), .ref (r + 1 + 3), .int 0]), .inr ((4, 7), .inr (fun _ => none)), .inr ((0, 4), .inl (fun _ => 0)), .inr ((0, 4), .inl (fun _ => 0))]) r (.inl (6, [.ref 29, .int (nI t), .int 0, .int 0, .int 0, .int 0, .ref (r + 1), .null]))) := by
    simp (disch := first | exact xnl_i _ | exact xnl_r _ | exact xnl_u _ | exact xnl_n | exact zI_2 | exact zI_24 | assumption | omega | (simp only [xset_len]; omega)) only [↓reduceIte, xbd_s, xpv_n, xpv_s, e_X7_init_0, e_X7_init_1, e_X7_init_4, e_X7_init_5, e_X7_init_6, e_X7_init_9, e_X7_init_10, e_X7_init_11, e_X7_init_12, e_X7_init_13, e_X7_init_16, e_X7_init_19, e_X7_init_20, e_X7_init_23, e_X7_init_24, c_X7_init_27_5_2, c_X7_init_34_3_2, c_X7_init_34_3_2n, e_X7_init_27, e_X7_init_31, e_X7_init_34, e_X7_init_35, e_X7_init_36, e_X7_init_39, e_X7_init_39n, e_X7_init_42, e_X7_init_45, g_7_28_6, ini_X7_init, p_7_21_6, p_7_28_6, p_7_28_6n, p_7_37_6, p_7_37_6n, p_7_9_6, p_7_9_6n, nA, d0, List.getElem?_cons_zero, q1, dr]
  have ex : ∃ hB : xH, hB = xset (hA ++ [.inl (5, [.ref (r + 1 + 1), .int 0, .ref (r + 1 + 2), .ref (r + 1 + 3), .int 0]), .inr ((4, 7), .inr (fun _ => none)), .inr ((0, 4), .inl (fun _ => 0)), .inr ((0, 4), .inl (fun _ => 0))]) r (.inl (6, [.ref 29, .int (nI t), .int 0, .int 0, .int 0, .int 0, .ref (r + 1), .null])) := ⟨_, rfl⟩
  obtain ⟨hB, hhB⟩ := ex
  rw [← hhB] at S2
  have lB : hB.length = h.length + 5 := by rw [hhB, xset_len, List.length_append, lA]; rfl
  have gB : xGr X (fun c => c = r) hA hB := by rw [hhB]; exact xGr_tr xGr_app (xGr_set (by omega) rfl)
  have aB' : xget X hB r = some (.inl (6, [.ref 29, .int (nI t), .int 0, .int 0, .int 0, .int 0, .ref (r + 1), .null])) := by rw [hhB]; exact xg_same (by omega) (by rw [List.length_append]; omega)
  have pB : xPB X hB (r + 1) 0 0 (r + 2) (r + 3) (r + 4) (fun _ => none) (fun _ => 0) (fun _ => 0) := by
    rw [hhB]
    exact ⟨(xg_ne (by omega) (by omega)).trans (dk _ 0), (xg_ne (by omega) (by omega)).trans (dk _ 1), (xg_ne (by omega) (by omega)).trans (dk _ 2), (xg_ne (by omega) (by omega)).trans (dk _ 3), by omega, by omega⟩
  have nB : xnw hB = r + 5 := by unfold xnw; omega
  have q2 := r_Linit (X := X) (h := hB) (pv := .ref (r + 1)) (Or.inr ⟨_, rfl⟩)
  rw [nB] at q2
  have lw := xLB_new (X := X) (h := hB) (pv := .ref (r + 1))
  rw [nB] at lw
  have f0 : ∀ l : xH, xget X (hB ++ l) (r + 5) = l[0]? := fun l => by have := xg_app0 (X := X) (h := hB) l; rw [nB] at this; exact this
  have fr : ∀ l : xH, xget X (hB ++ l) r = some (.inl (6, [.ref 29, .int (nI t), .int 0, .int 0, .int 0, .int 0, .ref (r + 1), .null])) := fun l => (xg_app (by omega)).trans aB'
  have ex : ∃ l5 : xH, l5 = [.inl (3, [.ref (r + 1), .int 0, .ref (r + 5 + 1), .ref (r + 5 + 2), .ref (r + 5 + 3), .ref (r + 5 + 4)]), .inr ((0, 7), .inl (fun _ => 0)), .inr ((0, 7), .inl (fun _ => 0)), .inr ((0, 7), .inl (fun _ => 0)), .inr ((0, 7), .inl (fun _ => 0))] := ⟨_, rfl⟩
  obtain ⟨l5, hl5⟩ := ex
  have ll5 : l5.length = 5 := by rw [hl5]; rfl
  rw [← hl5] at q2 lw
  have S3 : xR X m_X7_init 30 [.ref r, .ref 29, .int (nI t)] [] hB = some (none, xset (hB ++ l5) r (.inl (6, [.ref 29, .int (nI t), .int 0, .int 0, .int 0, .int 0, .ref (r + 1), .ref (r + 5)]))) := by
    simp (disch := first | exact xnl_i _ | exact xnl_r _ | exact xnl_u _ | exact xnl_n | exact zI_2 | exact zI_24 | assumption | omega | (simp only [xset_len]; omega)) only [↓reduceIte, xbd_s, xpv_n, xpv_s, e_X7_init_0, e_X7_init_1, e_X7_init_4, e_X7_init_5, e_X7_init_6, e_X7_init_9, e_X7_init_10, e_X7_init_11, e_X7_init_12, e_X7_init_13, e_X7_init_16, e_X7_init_19, e_X7_init_20, e_X7_init_23, e_X7_init_24, c_X7_init_27_5_2, c_X7_init_34_3_2, c_X7_init_34_3_2n, e_X7_init_27, e_X7_init_30, e_X7_init_31, e_X7_init_34, e_X7_init_35, e_X7_init_36, e_X7_init_39, e_X7_init_39n, e_X7_init_42, e_X7_init_45, g_7_28_6, ini_X7_init, p_7_21_6, p_7_28_6, p_7_28_6n, p_7_37_6, p_7_37_6n, p_7_9_6, p_7_9_6n, nB, f0, List.getElem?_cons_zero, fr, q2]
  have G5 : xGr X (fun c => c = r) hB (xset (hB ++ l5) r (.inl (6, [.ref 29, .int (nI t), .int 0, .int 0, .int 0, .int 0, .ref (r + 1), .ref (r + 5)]))) := xGr_tr xGr_app (xGr_set (by omega) rfl)
  refine ⟨_, (S1.trans S2).trans S3, ⟨fun _ => none, fun _ => 0, fun _ => 0, fun _ => 0, fun _ => 0, fun _ => 0, fun _ => 0, fun _ => 0, ⟨xg_same (by omega) (by rw [List.length_append]; omega), ?_, h180⟩, xPB_gr G5 pB ⟨⟨by omega, by omega⟩, ⟨by omega, by omega⟩, ⟨by omega, by omega⟩, ⟨by omega, by omega⟩⟩, fun j hj => by omega, xLB_gr (xGr_set (A := fun c => c = r) (by omega) rfl) lw (fun c e1 e2 => by have := e1.1; omega), fun j hj => by omega, by rw [xset_len, List.length_append, ll5]; omega, ?_, fun j hj => hf0 _ (by omega)⟩, xGr_mo (xGr_tr (xGr_mo gA (fun c _ e => e.elim)) (xGr_tr gB G5)) (fun c e1 e2 => by omega)⟩
  · exact xGr_g G5 (by omega) (by omega) (xGr_g gB (by omega) (by omega) (xGr_g gA (by omega) (fun e => e) hT))
  · exact ⟨upd_eq, (upd_ne (by omega)).trans (hf0 1 (by omega)), by omega, (upd_ne (by omega)).trans (hf0 2 (by omega)), by omega, (upd_ne (by omega)).trans (hf0 25 (by omega)), by omega, fun j hj => by omega, fun j hj => by omega, fun i j hi => by omega⟩
/-- cells of a READING are small -/
theorem xRK_sz {h : xH} {s : pT} {n m : Nat} {f : Nat → Int32} (H : xRK X h r t tp s n m f) : ∀ c, r ≤ c → c < h.length + 16 → ∃ e, xget X h c = some e ∧ xesz e ≤ 700 := by
  obtain ⟨g, so, dr, d, k, a, u, v, k1, k2, k3, k4, k5, k6, k7, k8⟩ := H
  obtain ⟨x0, x1, x2, x3, x4, x5⟩ := k2
  intro c h1 h2
  by_cases e0 : c = r
  · subst e0; exact ⟨_, k1.1, by show 8 ≤ 700; omega⟩
  by_cases e1 : c = r + 1
  · subst e1; exact ⟨_, x0, by show 5 ≤ 700; omega⟩
  by_cases e2 : c = r + 2
  · subst e2; exact ⟨_, x1, by show 7 ≤ 700; omega⟩
  by_cases e3 : c = r + 3
  · subst e3; exact ⟨_, x2, by show 4 ≤ 700; omega⟩
  by_cases e4 : c = r + 4
  · subst e4; exact ⟨_, x3, by show 4 ≤ 700; omega⟩
  by_cases e9 : c ≤ r + 9
  · exact xLB_sz k4 c (by omega) (by omega)
  · obtain ⟨q, ci, w1, w2, w3⟩ := k3 (c - (r + 10)) (by omega)
    rw [k5 (c - (r + 10)) (by omega)] at w1
    have hq : r + 10 + (c - (r + 10)) = q := by injection w1
    rw [← hq, show r + 10 + (c - (r + 10)) = c by omega] at w2
    exact ⟨_, w2, by show 2 ≤ 700; omega⟩
abbrev cFAUL : Int32 := -1000100
theorem r_lib {fi lf : Int32} {lib ol : Nat} {un : Int32} (hC : xCB X h fi (nI t) lf lib (nI ol) un) (hTa : xget X h 29 = some (.inr ((1, 400), .inl tp))) (hT : tOk c tp t) (hlen : 164 ≤ h.length) {f0 : Nat → Int32} (hf0 : ∀ q, q < 54 → f0 q = 0) : ∃ h' : xH, xGr X (fun c => c = 16) h h' ∧ xRK X h' (h.length + 16) t tp (tx4 c t f0) (tx2 c t f0).2.1 (tx3 c t f0).2.1 (tx3 c t f0).2.2 ∧ (if pFl (tx4 c t f0) = 0 then xR X m_X11_library 0 [.ref 16, xU] [] h = some (some (.int (nI (tx2 c t f0).2.1)), h') ∧ xCB X h' fi 0 lf (h.length + 16 + 5) (nI ol) 0 else xR X m_X11_library 0 [.ref 16, xU] [] h = some (some (.int (cFAUL - nI (tx4 c t f0).2.1)), h') ∧ xCB X h' fi 0 (nI (pFl (tx4 c t f0))) lib (nI ol) un) := by
  have hr : xnw h = h.length + 16 := rfl
  have ht4 := hT.1
  obtain ⟨h1, a1, a2, a3⟩ := rd_init (X := X) (h := h) hr (by omega) ht4 hTa hf0
  have c0 : xget X h 16 = _ := hC
  have c16 : ∀ l : xH, xget X (h ++ l) 16 = _ := fun l => (xg_app (by omega)).trans c0
  have cn : ∀ l : xH, xget X (h ++ l) (h.length + 16) = l[0]? := fun l => xg_app0 (X := X) (h := h) l
  have lv := xg_live (by omega) c0
  have l1 := (xRK_n a2).2.2
  have c1 : xget X h1 16 = _ := (a3.2 16 (by omega) (fun e => e)).trans c0
  have ex : ∃ h2 : xH, h2 = xset h1 16 (.inl (10, [.ref 17, .int fi, .ref 29, .int (nI 0), .int lf, .ref lib, .ref 35, .int (nI ol), .int un, .ref 156, .ref 167])) := ⟨_, rfl⟩
  obtain ⟨h2, hh2⟩ := ex
  have F2 : xFr X (fun c => c = 16) h1 h2 := by rw [hh2]; exact xFr_set (by omega) rfl
  have c2 : xget X h2 16 = some (.inl (10, [.ref 17, .int fi, .ref 29, .int (nI 0), .int lf, .ref lib, .ref 35, .int (nI ol), .int un, .ref 156, .ref 167])) := by rw [hh2]; exact xg_same (by omega) (by omega)
  have K2 : xRK X h2 (h.length + 16) t tp (0, 0, 0, 0) 0 0 f0 := by
    obtain ⟨g, so, dr, d, k, a, u, v, k1, k2, k3, k4, k5, k6, k7, k8⟩ := a2
    exact ⟨g, so, dr, d, k, a, u, v, ⟨(F2.2 _ (by omega)).trans k1.1, (F2.2 _ (by omega)).trans k1.2.1, k1.2.2⟩, xPB_gr (xGr_fr F2) k2 ⟨⟨by omega, by omega⟩, ⟨by omega, by omega⟩, ⟨by omega, by omega⟩, ⟨by omega, by omega⟩⟩, fun j hj => by omega, xLB_fr k4 F2 (fun c e1 e2 => by have := e1.1; omega), k5, by rw [F2.1]; exact k6, k7, k8⟩
  obtain ⟨h3, b1, b2, b3⟩ := rd_isWhole hT K2
  have d2 := (xRK_D K2).1
  have d3 := (xRK_D b2).1
  have c3 : xget X h3 16 = _ := (b3.2 16 (by have := F2.1; omega) (by unfold geR; omega)).trans c2
  have P3 : xR X m_X11_library 0 [.ref 16, xU] [] h = xR X m_X11_library 25 [.ref 16, .ref (h.length + 16)] [.int (if pFl (tx4 c t f0) = 0 then nI 1 else nI 0)] h3 := by
    have e0 : xnw h = h.length + 16 := rfl
    simp (disch := first | exact xnl_i _ | exact xnl_r _ | exact xnl_u _ | exact xnl_n | exact zI_2 | exact zI_24 | assumption | omega | (simp only [xset_len]; omega)) only [↓reduceIte, xbd_s, xpv_n, xpv_s, e_X11_library_0, e_X11_library_3, e_X11_library_4, e_X11_library_5, e_X11_library_8, e_X11_library_9, e_X11_library_12, c_X11_library_85_6_1, c_X11_library_88_6_0, c_X11_library_105_10_0, c_X11_library_108_3_0, e_X11_library_15, e_X11_library_16, e_X11_library_17, e_X11_library_18, e_X11_library_21, e_X11_library_22, e_X11_library_28, e_X11_library_29, e_X11_library_30, e_X11_library_33, e_X11_library_36, e_X11_library_38, e_X11_library_39, e_X11_library_42, e_X11_library_43, e_X11_library_44, e_X11_library_45, e_X11_library_46, e_X11_library_49, e_X11_library_52, e_X11_library_53, e_X11_library_56, e_X11_library_57, e_X11_library_60, e_X11_library_63, g_11_102_6, g_11_16_10, g_11_25_10, g_11_79_10, g_11_92_6, g_11_99_6, p_11_25_10, p_11_25_10n, p_11_79_10, p_11_95_10, e0, cn, List.getElem?_cons_zero, c16, a1, c1]
    rw [← hh2]
    simp (disch := first | exact xnl_i _ | exact xnl_r _ | exact xnl_u _ | exact xnl_n | exact zI_2 | exact zI_24 | assumption | omega | (simp only [xset_len]; omega)) only [↓reduceIte, xbd_s, xpv_n, xpv_s, e_X11_library_0, e_X11_library_3, e_X11_library_4, e_X11_library_5, e_X11_library_8, e_X11_library_9, e_X11_library_12, c_X11_library_85_6_1, c_X11_library_88_6_0, c_X11_library_105_10_0, c_X11_library_108_3_0, e_X11_library_15, e_X11_library_16, e_X11_library_17, e_X11_library_18, e_X11_library_21, e_X11_library_22, e_X11_library_28, e_X11_library_29, e_X11_library_30, e_X11_library_33, e_X11_library_36, e_X11_library_38, e_X11_library_39, e_X11_library_42, e_X11_library_43, e_X11_library_44, e_X11_library_45, e_X11_library_46, e_X11_library_49, e_X11_library_52, e_X11_library_53, e_X11_library_56, e_X11_library_57, e_X11_library_60, e_X11_library_63, g_11_102_6, g_11_16_10, g_11_25_10, g_11_79_10, g_11_92_6, g_11_99_6, p_11_25_10, p_11_25_10n, p_11_79_10, p_11_95_10, d2, b1]
  have G3 : xGr X (fun c => c = 16) h h3 := xGr_mo (A := fun c => c = 16 ∨ h.length + 16 ≤ c) (xGr_tr (xGr_tr (xGr_mo a3 (fun c _ e => e.elim)) (xGr_mo (xGr_fr F2) (fun c _ e => Or.inl e))) (xGr_mo b3 (fun c _ e => Or.inr e))) (fun c e1 e2 => by omega)
  have ok := tx4_ok c t f0
  have mvK : ∀ e, xRK X (xset h3 16 e) (h.length + 16) t tp (tx4 c t f0) (tx2 c t f0).2.1 (tx3 c t f0).2.1 (tx3 c t f0).2.2 := by
    intro e
    have F4 : xFr X (fun c => c = 16) h3 (xset h3 16 e) := xFr_set (by omega) rfl
    obtain ⟨g, so, dr, d, k, a, u, v, k1, k2, k3, k4, k5, k6, k7, k8⟩ := b2
    refine ⟨g, so, dr, d, k, a, u, v, ⟨(F4.2 _ (by omega)).trans k1.1, (F4.2 _ (by omega)).trans k1.2.1, k1.2.2⟩, xPB_gr (xGr_fr F4) k2 ⟨⟨by omega, by omega⟩, ⟨by omega, by omega⟩, ⟨by omega, by omega⟩, ⟨by omega, by omega⟩⟩, xGB_gr (xGr_fr F4) k3 ?_, xLB_fr k4 F4 (fun c e1 e2 => by have := e1.1; omega), k5, by rw [F4.1]; exact k6, k7, k8⟩
    intro j hj q hq
    rw [k5 j hj] at hq
    cases hq
    exact ⟨by omega, by omega⟩
  have lv3 := xg_live (by omega) c3
  by_cases k0 : pFl (tx4 c t f0) = 0
  · have z3 := (nI_fl ok.2.2.2.2.2).1 k0
    rw [if_pos k0] at P3
    have K4 := mvK (.inl (10, [.ref 17, .int fi, .ref 29, .int (nI 0), .int lf, .ref (h.length + 16 + 5), .ref 35, .int (nI ol), .int un, .ref 156, .ref 167]))
    have ex : ∃ h4 : xH, h4 = xset h3 16 (.inl (10, [.ref 17, .int fi, .ref 29, .int (nI 0), .int lf, .ref (h.length + 16 + 5), .ref 35, .int (nI ol), .int un, .ref 156, .ref 167])) := ⟨_, rfl⟩
    obtain ⟨h4, hh4⟩ := ex
    have c4 : xget X h4 16 = some (.inl (10, [.ref 17, .int fi, .ref 29, .int (nI 0), .int lf, .ref (h.length + 16 + 5), .ref 35, .int (nI ol), .int un, .ref 156, .ref 167])) := by rw [hh4]; exact xg_same (by omega) lv3
    have K5 := mvK (.inl (10, [.ref 17, .int fi, .ref 29, .int (nI 0), .int lf, .ref (h.length + 16 + 5), .ref 35, .int (nI ol), .int (nI 0), .ref 156, .ref 167]))
    have ex : ∃ h5 : xH, h5 = xset h4 16 (.inl (10, [.ref 17, .int fi, .ref 29, .int (nI 0), .int lf, .ref (h.length + 16 + 5), .ref 35, .int (nI ol), .int (nI 0), .ref 156, .ref 167])) := ⟨_, rfl⟩
    obtain ⟨h5, hh5⟩ := ex
    have e45 : h5 = xset h3 16 (.inl (10, [.ref 17, .int fi, .ref 29, .int (nI 0), .int lf, .ref (h.length + 16 + 5), .ref 35, .int (nI ol), .int (nI 0), .ref 156, .ref 167])) := by
      rw [hh5, hh4]
      unfold xset
      rw [List.set_set]
    have c5 : xget X h5 16 = some (.inl (10, [.ref 17, .int fi, .ref 29, .int (nI 0), .int lf, .ref (h.length + 16 + 5), .ref 35, .int (nI ol), .int (nI 0), .ref 156, .ref 167])) := by rw [e45]; exact xg_same (by omega) lv3
    rw [← e45] at K5
    refine ⟨h5, xGr_tr G3 (by rw [e45]; exact xGr_set (by omega) rfl), K5, ?_⟩
    rw [if_pos k0]
    refine ⟨?_, c5⟩
    obtain ⟨g, so, dr, d, k, a, u, v, k1, k2, k3, k4, k5, k6, k7, k8⟩ := K5
    have q := r_spots k4 k2
    have k40 := k4.1
    refine P3.trans ?_
    simp (disch := first | exact xnl_i _ | exact xnl_r _ | exact xnl_u _ | exact xnl_n | exact zI_2 | exact zI_24 | assumption | omega | (simp only [xset_len]; omega)) only [↓reduceIte, xbd_s, xpv_n, xpv_s, e_X11_library_0, e_X11_library_3, e_X11_library_4, e_X11_library_5, e_X11_library_8, e_X11_library_9, e_X11_library_12, c_X11_library_85_6_1, c_X11_library_88_6_0, c_X11_library_105_10_0, c_X11_library_108_3_0, e_X11_library_15, e_X11_library_16, e_X11_library_17, e_X11_library_18, e_X11_library_21, e_X11_library_22, e_X11_library_25, e_X11_library_28, e_X11_library_29, e_X11_library_30, e_X11_library_33, e_X11_library_36, e_X11_library_38, e_X11_library_39, e_X11_library_42, e_X11_library_43, e_X11_library_44, e_X11_library_45, e_X11_library_46, e_X11_library_49, e_X11_library_52, e_X11_library_53, e_X11_library_56, e_X11_library_57, e_X11_library_60, e_X11_library_63, g_11_102_6, g_11_16_10, g_11_25_10, g_11_79_10, g_11_92_6, g_11_99_6, p_11_25_10, p_11_25_10n, p_11_79_10, p_11_95_10, zI_1, c3, d3]
    rw [← hh4]
    simp (disch := first | exact xnl_i _ | exact xnl_r _ | exact xnl_u _ | exact xnl_n | exact zI_2 | exact zI_24 | assumption | omega | (simp only [xset_len]; omega)) only [↓reduceIte, xbd_s, xpv_n, xpv_s, e_X11_library_0, e_X11_library_3, e_X11_library_4, e_X11_library_5, e_X11_library_8, e_X11_library_9, e_X11_library_12, c_X11_library_85_6_1, c_X11_library_88_6_0, c_X11_library_105_10_0, c_X11_library_108_3_0, e_X11_library_15, e_X11_library_16, e_X11_library_17, e_X11_library_18, e_X11_library_21, e_X11_library_22, e_X11_library_25, e_X11_library_28, e_X11_library_29, e_X11_library_30, e_X11_library_33, e_X11_library_36, e_X11_library_38, e_X11_library_39, e_X11_library_42, e_X11_library_43, e_X11_library_44, e_X11_library_45, e_X11_library_46, e_X11_library_49, e_X11_library_52, e_X11_library_53, e_X11_library_56, e_X11_library_57, e_X11_library_60, e_X11_library_63, g_11_102_6, g_11_16_10, g_11_25_10, g_11_79_10, g_11_92_6, g_11_99_6, p_11_25_10, p_11_25_10n, p_11_79_10, p_11_95_10, e_X11_forgetActs_0, e_X11_forgetActs_1, e_X11_forgetActs_2, e_X11_forgetActs_5, p_11_152_10, c4]
    rw [← hh5]
    simp (disch := first | exact xnl_i _ | exact xnl_r _ | exact xnl_u _ | exact xnl_n | exact zI_2 | exact zI_24 | assumption | omega | (simp only [xset_len]; omega)) only [↓reduceIte, xbd_s, xpv_n, xpv_s, e_X11_library_0, e_X11_library_3, e_X11_library_4, e_X11_library_5, e_X11_library_8, e_X11_library_9, e_X11_library_12, c_X11_library_85_6_1, c_X11_library_88_6_0, c_X11_library_105_10_0, c_X11_library_108_3_0, e_X11_library_15, e_X11_library_16, e_X11_library_17, e_X11_library_18, e_X11_library_21, e_X11_library_22, e_X11_library_25, e_X11_library_28, e_X11_library_29, e_X11_library_30, e_X11_library_33, e_X11_library_36, e_X11_library_38, e_X11_library_39, e_X11_library_42, e_X11_library_43, e_X11_library_44, e_X11_library_45, e_X11_library_46, e_X11_library_49, e_X11_library_52, e_X11_library_53, e_X11_library_56, e_X11_library_57, e_X11_library_60, e_X11_library_63, g_11_102_6, g_11_16_10, g_11_25_10, g_11_79_10, g_11_92_6, g_11_99_6, p_11_25_10, p_11_25_10n, p_11_79_10, p_11_95_10, c5, k40, q]
  · rw [if_neg k0] at P3
    have K4 := mvK (.inl (10, [.ref 17, .int fi, .ref 29, .int (nI 0), .int (nI (tx4 c t f0).2.2.2), .ref lib, .ref 35, .int (nI ol), .int un, .ref 156, .ref 167]))
    refine ⟨_, xGr_tr G3 (xGr_set (by omega) rfl), K4, ?_⟩
    rw [if_neg k0]
    refine ⟨?_, xg_same (by omega) lv3⟩
    have k40 := (xRK_D K4).1
    refine P3.trans ?_
    simp (disch := first | exact xnl_i _ | exact xnl_r _ | exact xnl_u _ | exact xnl_n | exact zI_2 | exact zI_24 | assumption | omega | (simp only [xset_len]; omega)) only [↓reduceIte, xbd_s, xpv_n, xpv_s, e_X11_library_0, e_X11_library_3, e_X11_library_4, e_X11_library_5, e_X11_library_8, e_X11_library_9, e_X11_library_12, c_X11_library_85_6_1, c_X11_library_88_6_0, c_X11_library_105_10_0, c_X11_library_108_3_0, e_X11_library_15, e_X11_library_16, e_X11_library_17, e_X11_library_18, e_X11_library_21, e_X11_library_22, e_X11_library_25, e_X11_library_28, e_X11_library_29, e_X11_library_30, e_X11_library_33, e_X11_library_36, e_X11_library_38, e_X11_library_39, e_X11_library_42, e_X11_library_43, e_X11_library_44, e_X11_library_45, e_X11_library_46, e_X11_library_49, e_X11_library_52, e_X11_library_53, e_X11_library_56, e_X11_library_57, e_X11_library_60, e_X11_library_63, g_11_102_6, g_11_16_10, g_11_25_10, g_11_79_10, g_11_92_6, g_11_99_6, p_11_25_10, p_11_25_10n, p_11_79_10, p_11_95_10, if_pos z0, c3, d3, k40]
end XRF
