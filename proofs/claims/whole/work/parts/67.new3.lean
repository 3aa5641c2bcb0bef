/-! the constructors of Rows, DustReads, DustReadsModel -/
/-- a heap that has grown -/
def xGr (X : xS) (A : Nat → Prop) (h h' : xH) : Prop := h.length ≤ h'.length ∧ ∀ c, c < h.length + 16 → ¬ A c → xget X h' c = xget X h c
theorem xGr_fr {X : xS} {A : Nat → Prop} {h h' : xH} (e : xFr X A h h') : xGr X A h h' := ⟨by rw [e.1]; exact Nat.le_refl _, fun c _ hc => e.2 c hc⟩
theorem xGr_tr {X : xS} {A : Nat → Prop} {h h' h'' : xH} (e : xGr X A h h') (f : xGr X A h' h'') : xGr X A h h'' := ⟨Nat.le_trans e.1 f.1, fun c h1 hc => (f.2 c (by have := e.1; omega) hc).trans (e.2 c h1 hc)⟩
theorem xGr_mo {X : xS} {A B : Nat → Prop} {h h' : xH} (e : xGr X A h h') (f : ∀ c, c < h.length + 16 → A c → B c) : xGr X B h h' := ⟨e.1, fun c h1 hc => e.2 c h1 (fun q => hc (f c h1 q))⟩
theorem xGr_app {X : xS} {A : Nat → Prop} {h l : xH} : xGr X A h (h ++ l) := ⟨by rw [List.length_append]; omega, fun c h1 _ => xg_app h1⟩
theorem xGr_set {X : xS} {A : Nat → Prop} {h : xH} {a : Nat} {e : xE} (h1 : 16 ≤ a) (h2 : A a) : xGr X A h (xset h a e) := xGr_fr (xFr_set h1 h2)
theorem xGr_g {X : xS} {A : Nat → Prop} {h h' : xH} (e : xGr X A h h') {c : Nat} {v : xE} (h1 : 16 ≤ c) (hc : ¬ A c) (hv : xget X h c = some v) : xget X h' c = some v := (e.2 c (xg_live h1 hv) hc).trans hv
theorem xLB_gr {X : xS} {A : Nat → Prop} {h h' : xH} {b : Nat} {pv : Value} {hr : Int32} {d k a o : Nat → Int32} (e : xGr X A h h') (hL : xLB X h b pv hr d k a o) (hA : ∀ c, inL b c → ¬ A c) : xLB X h' b pv hr d k a o := by
  obtain ⟨l0, l1, l2, l3, l4, l5⟩ := hL
  exact ⟨xGr_g e (by omega) (hA _ ⟨by omega, by omega⟩) l0, xGr_g e (by omega) (hA _ ⟨by omega, by omega⟩) l1, xGr_g e (by omega) (hA _ ⟨by omega, by omega⟩) l2, xGr_g e (by omega) (hA _ ⟨by omega, by omega⟩) l3, xGr_g e (by omega) (hA _ ⟨by omega, by omega⟩) l4, l5⟩
theorem xRW_gr {X : xS} {A : Nat → Prop} {h h' : xH} {it : Nat → Nat → Int32} {la si : Nat → Int32} (e : xGr X A h h') (hR : xRW X h it la si) (hA : ∀ c, 17 ≤ c → c ≤ 28 → ¬ A c) : xRW X h' it la si := by
  obtain ⟨r0, ⟨g, r1, r1'⟩, r2, r3, r4⟩ := hR
  exact ⟨xGr_g e (by omega) (hA _ (by omega) (by omega)) r0, ⟨g, xGr_g e (by omega) (hA _ (by omega) (by omega)) r1, r1'⟩, xGr_g e (by omega) (hA _ (by omega) (by omega)) r2, xGr_g e (by omega) (hA _ (by omega) (by omega)) r3, fun r hr => xGr_g e (by omega) (hA _ (by omega) (by omega)) (r4 r hr)⟩
theorem rep8 (x : xE) : List.replicate 8 x = [x, x, x, x, x, x, x, x] := rfl
section XNG
variable {X : xS} {h : xH}
theorem xLB_new {pv : Value} : xLB X (h ++ [.inl (3, [pv, .int 0, .ref (xnw h + 1), .ref (xnw h + 2), .ref (xnw h + 3), .ref (xnw h + 4)]), .inr ((0, 7), .inl (fun _ => 0)), .inr ((0, 7), .inl (fun _ => 0)), .inr ((0, 7), .inl (fun _ => 0)), .inr ((0, 7), .inl (fun _ => 0))]) (xnw h) pv 0 (fun _ => 0) (fun _ => 0) (fun _ => 0) (fun _ => 0) := by
  refine ⟨by rw [xg_app0]; rfl, by rw [xg_app2]; rfl, by rw [xg_app2]; rfl, by rw [xg_app2]; rfl, by rw [xg_app2]; rfl, ?_⟩
  unfold xnw
  omega
theorem r_Rinit (hl : h.length = 1) : ∃ h' si, xR X m_X8_init 0 [.ref 17] [] (h ++ [.inl (7, [.null, .null, .null])]) = some (none, h') ∧ xRW X h' (fun _ _ => 0) (fun _ => 0) si ∧ (∀ r, r < 8 → si r = -1) ∧ h'.length = 13 ∧ xget X h' 16 = xget X h 16 := by
  have e17 : xnw h = 17 := by unfold xnw; omega
  have c0 : ∀ l : xH, xget X (h ++ l) 17 = l[0]? := fun l => by have := xg_app0 (X := X) (h := h) l; rw [e17] at this; exact this
  have ck : ∀ (l : xH) (k : Nat), xget X (h ++ l) (17 + k) = l[k]? := fun l k => by have := xg_app2 (X := X) (h := h) l k; rw [e17] at this; exact this
  have cs : ∀ (l : xH) (e : xE), xset (h ++ l) 17 e = h ++ l.set 0 e := fun l e => by have := xset_app0 (h := h) l e; rw [e17] at this; exact this
  have ex : ∃ L : xH, L = [.inl (7, [.ref 18, .ref 27, .ref 28]), .inr ((3, 8), .inr (fun j => if j < 8 then some (18 + 1 + j) else none)), .inr ((0, 40), .inl (fun _ => 0)), .inr ((0, 40), .inl (fun _ => 0)), .inr ((0, 40), .inl (fun _ => 0)), .inr ((0, 40), .inl (fun _ => 0)), .inr ((0, 40), .inl (fun _ => 0)), .inr ((0, 40), .inl (fun _ => 0)), .inr ((0, 40), .inl (fun _ => 0)), .inr ((0, 40), .inl (fun _ => 0)), .inr ((0, 8), .inl (fun _ => 0)), .inr ((0, 8), .inl (fun _ => 0))] := ⟨_, rfl⟩
  obtain ⟨L, hL⟩ := ex
  have f28 : xget X (h ++ L) 28 = some (.inr ((0, 8), .inl (fun _ => 0))) := (ck L 11).trans (by rw [hL]; rfl)
  obtain ⟨h', f', i1, i2, i3, i4⟩ := r_fill (X := X) (x := -1) (show 16 ≤ 28 by omega) (show 8 < 2 ^ 31 by omega) f28
  have cg : ∀ k v, k < 11 → L[k]? = some v → xget X h' (17 + k) = some v := fun k v hk hv => (i4.2 (17 + k) (by omega)).trans ((ck L k).trans hv)
  rw [hL] at i1
  refine ⟨h', f', ?_, ?_, i3, ?_, ?_⟩
  · simp (disch := first | exact xnl_i _ | exact xnl_r _ | exact xnl_u _ | exact xnl_n | exact zI_2 | exact zI_24 | assumption | omega | (simp only [xset_len]; omega)) only [↓reduceIte, xbd_s, xpv_n, xpv_s, e_X8_init_0, e_X8_init_1, e_X8_init_4, e_X8_init_5, e_X8_init_7, e_X8_init_9, e_X8_init_13, e_X8_init_16, e_X8_init_17, e_X8_init_19, e_X8_init_21, e_X8_init_24, e_X8_init_25, e_X8_init_27, e_X8_init_29, e_X8_init_32, e_X8_init_33, e_X8_init_36, e_X8_init_37, e_X8_init_40, g_8_20_7, ini_X8_init, p_8_11_7, p_8_11_7n, p_8_16_7, p_8_16_7n, p_8_20_7, p_8_20_7n, c0, cs, e17, rep8, xn_app, List.length_cons, List.length_nil, Nat.reduceAdd, List.getElem?_cons_zero, List.getElem?_cons_succ, List.set_cons_zero, List.set_cons_succ, List.append_assoc, List.cons_append, List.nil_append, i1]
  · refine ⟨cg 0 _ (by omega) (by rw [hL]; rfl), ⟨_, cg 1 _ (by omega) (by rw [hL]; rfl), ?_⟩, cg 10 _ (by omega) (by rw [hL]; rfl), i2, ?_⟩
    · intro r hr
      rw [if_pos hr]
    · intro r hr
      rw [show 19 + r = 17 + (2 + r) by omega]
      refine cg (2 + r) _ (by omega) ?_
      have r3 : r = 0 ∨ r = 1 ∨ r = 2 ∨ r = 3 ∨ r = 4 ∨ r = 5 ∨ r = 6 ∨ r = 7 := by omega
      rw [hL]
      rcases r3 with rfl | rfl | rfl | rfl | rfl | rfl | rfl | rfl <;> rfl
  · rw [i4.1, List.length_append, hl, hL]; rfl
  · rw [i4.2 16 (by omega)]
    exact xg_app (by omega)
def xC0 (a b c d e f : Value) : xE := .inl (10, [a, .int 0, b, .int 0, .int 0, c, d, .int 0, .int 0, e, f])
/-- after how much of the constructor of DustReads -/
theorem r_CinitA (hl : h.length = 1) (hc : xget X h 16 = some (xC0 .null .null .null .null .null .null)) : ∃ h' si, xR X m_X11_init 0 [.ref 16, xU] [] h = xR X m_X11_init 15 [.ref 16, xU] [] h' ∧ xRW X h' (fun _ _ => 0) (fun _ => 0) si ∧ (∀ r, r < 8 → si r = -1) ∧ h'.length = 13 ∧ xget X h' 16 = some (xC0 (.ref 17) .null .null .null .null .null) := by
  have e17 : xnw h = 17 := by unfold xnw; omega
  have c0 : ∀ l : xH, xget X (h ++ l) 17 = l[0]? := fun l => by have := xg_app0 (X := X) (h := h) l; rw [e17] at this; exact this
  obtain ⟨h1, si, i1, i2, i3, i4, i5⟩ := r_Rinit (X := X) hl
  have hc1 := i5.trans hc
  unfold xC0 at hc1
  refine ⟨xset h1 16 (xC0 (.ref 17) .null .null .null .null .null), si, ?_, xRW_gr (xGr_set (A := fun c => c = 16) (by omega) rfl) i2 (fun c h1 h2 => by omega), i3, by rw [xset_len]; exact i4, xg_same (by omega) (by omega)⟩
  simp (disch := first | exact xnl_i _ | exact xnl_r _ | exact xnl_u _ | exact xnl_n | exact zI_2 | exact zI_24 | assumption | omega | (simp only [xset_len]; omega)) only [↓reduceIte, xbd_s, xpv_n, xpv_s, e_X11_init_0, e_X11_init_0n, e_X11_init_1, e_X11_init_4, e_X11_init_4n, e_X11_init_5, e_X11_init_8, e_X11_init_9, c_X11_init_9_7_2, c_X11_init_22_3_2, c_X11_init_22_3_2n, c_X11_init_22_3_3, c_X11_init_22_3_3n, c_X11_init_38_8_2, e_X11_init_12, e_X11_init_16, e_X11_init_19, e_X11_init_21, e_X11_init_24, e_X11_init_24n, e_X11_init_25, e_X11_init_28, e_X11_init_29, e_X11_init_30, e_X11_init_30n, e_X11_init_33, e_X11_init_36, e_X11_init_36n, e_X11_init_37, e_X11_init_39, e_X11_init_42, e_X11_init_45, e_X11_init_46, e_X11_init_48, e_X11_init_48n, e_X11_init_49, e_X11_init_52, e_X11_init_53, e_X11_init_56, e_X11_init_56n, e_X11_init_57, e_X11_init_60, e_X11_init_61, e_X11_init_64, e_X11_init_65, e_X11_init_66, e_X11_init_66n, e_X11_init_69, e_X11_init_70, e_X11_init_73, e_X11_init_76, e_X11_init_76n, e_X11_init_77, e_X11_init_78, e_X11_init_81, e_X11_init_84, e_X11_init_85, e_X11_init_87, e_X11_init_87n, e_X11_init_88, e_X11_init_91, e_X11_init_92, e_X11_init_95, e_X11_init_95n, e_X11_init_96, e_X11_init_99, e_X11_init_100, e_X11_init_103, e_X11_init_104, e_X11_init_105, e_X11_init_105n, e_X11_init_108, e_X11_init_109, e_X11_init_112, e_X11_init_115, e_X11_init_115n, e_X11_init_116, e_X11_init_119, e_X11_init_120, e_X11_init_123, e_X11_init_126, g_11_29_10, g_11_33_10, ini_X11_init, p_11_10_10, p_11_10_10n, p_11_16_10, p_11_16_10n, p_11_25_10, p_11_25_10n, p_11_29_10, p_11_29_10n, p_11_33_10, p_11_33_10n, p_11_39_10, p_11_39_10n, e17, c0, List.getElem?_cons_zero, i1, hc1]
  rfl
/-- the whole class as it is made -/
def xS0 (X : xS) (h : xH) (b c d e f : Value) : Prop := (∃ si, xRW X h (fun _ _ => 0) (fun _ => 0) si ∧ ∀ r, r < 8 → si r = -1) ∧ xget X h 16 = some (xC0 (.ref 17) b c d e f)
theorem xS0_gr {b c d e f b' c' d' e' f' : Value} {h' : xH} {A : Nat → Prop} (H : xS0 X h b c d e f) (hG : xGr X A h h') (hA : ∀ c, 17 ≤ c → c ≤ 28 → ¬ A c) (hc : xget X h' 16 = some (xC0 (.ref 17) b' c' d' e' f')) : xS0 X h' b' c' d' e' f' := by
  obtain ⟨⟨si, h1, h2⟩, h3⟩ := H
  exact ⟨⟨si, xRW_gr hG h1 hA, h2⟩, hc⟩
theorem r_CinitB (H : xS0 X h .null .null .null .null .null) (hl : h.length = 13) : ∃ h', xR X m_X11_init 15 [.ref 16, xU] [] h = xR X m_X11_init 24 [.ref 16, xU] [] h' ∧ xS0 X h' (.ref 29) .null .null .null .null ∧ h'.length = 14 ∧ xget X h' 29 = some (.inr ((1, 400), .inl (fun _ => 0))) := by
  have e29 : xnw h = 29 := by unfold xnw; omega
  have hc := H.2
  unfold xC0 at hc
  have c1 : ∀ l : xH, xget X (h ++ l) 16 = _ := fun l => (xg_app (by omega)).trans hc
  have c29 : ∀ l : xH, xget X (h ++ l) 29 = l[0]? := fun l => by have := xg_app0 (X := X) (h := h) l; rw [e29] at this; exact this
  have G : xGr X (fun c => c = 16) h _ := xGr_tr (xGr_app (l := [.inr ((1, 400), .inl (fun _ => 0))])) (xGr_set (a := 16) (e := xC0 (.ref 17) (.ref 29) .null .null .null .null) (by omega) rfl)
  refine ⟨_, ?_, xS0_gr H G (fun c h1 h2 => by omega) (xg_same (by omega) (by rw [List.length_append]; omega)), ?_, ?_⟩
  · simp (disch := first | exact xnl_i _ | exact xnl_r _ | exact xnl_u _ | exact xnl_n | exact zI_2 | exact zI_24 | assumption | omega | (simp only [xset_len]; omega)) only [↓reduceIte, xbd_s, xpv_n, xpv_s, e_X11_init_0, e_X11_init_0n, e_X11_init_1, e_X11_init_4, e_X11_init_4n, e_X11_init_5, e_X11_init_8, e_X11_init_9, c_X11_init_9_7_2, c_X11_init_22_3_2, c_X11_init_22_3_2n, c_X11_init_22_3_3, c_X11_init_22_3_3n, c_X11_init_38_8_2, e_X11_init_12, e_X11_init_15, e_X11_init_15n, e_X11_init_16, e_X11_init_19, e_X11_init_21, e_X11_init_25, e_X11_init_28, e_X11_init_29, e_X11_init_30, e_X11_init_30n, e_X11_init_33, e_X11_init_36, e_X11_init_36n, e_X11_init_37, e_X11_init_39, e_X11_init_42, e_X11_init_45, e_X11_init_46, e_X11_init_48, e_X11_init_48n, e_X11_init_49, e_X11_init_52, e_X11_init_53, e_X11_init_56, e_X11_init_56n, e_X11_init_57, e_X11_init_60, e_X11_init_61, e_X11_init_64, e_X11_init_65, e_X11_init_66, e_X11_init_66n, e_X11_init_69, e_X11_init_70, e_X11_init_73, e_X11_init_76, e_X11_init_76n, e_X11_init_77, e_X11_init_78, e_X11_init_81, e_X11_init_84, e_X11_init_85, e_X11_init_87, e_X11_init_87n, e_X11_init_88, e_X11_init_91, e_X11_init_92, e_X11_init_95, e_X11_init_95n, e_X11_init_96, e_X11_init_99, e_X11_init_100, e_X11_init_103, e_X11_init_104, e_X11_init_105, e_X11_init_105n, e_X11_init_108, e_X11_init_109, e_X11_init_112, e_X11_init_115, e_X11_init_115n, e_X11_init_116, e_X11_init_119, e_X11_init_120, e_X11_init_123, e_X11_init_126, g_11_29_10, g_11_33_10, ini_X11_init, p_11_10_10, p_11_10_10n, p_11_16_10, p_11_16_10n, p_11_25_10, p_11_25_10n, p_11_29_10, p_11_29_10n, p_11_33_10, p_11_33_10n, p_11_39_10, p_11_39_10n, e29, c1]
    rfl
  · rw [xset_len, List.length_append, hl]; rfl
  · rw [xg_ne (by omega) (by omega), c29]; rfl
theorem r_CinitC (H : xS0 X h (.ref 29) .null .null .null .null) (hl : h.length = 14) : ∃ h', xR X m_X11_init 24 [.ref 16, xU] [] h = xR X m_X11_init 36 [.ref 16, xU] [] h' ∧ xS0 X h' (.ref 29) (.ref 30) .null .null .null ∧ h'.length = 19 ∧ xLB X h' 30 .null 0 (fun _ => 0) (fun _ => 0) (fun _ => 0) (fun _ => 0) ∧ xGr X (fun c => c = 16) h h' := by
  have e30 : xnw h = 30 := by unfold xnw; omega
  have hc := H.2
  unfold xC0 at hc
  have c1 : ∀ l : xH, xget X (h ++ l) 16 = _ := fun l => (xg_app (by omega)).trans hc
  have c30 : ∀ l : xH, xget X (h ++ l) 30 = l[0]? := fun l => by have := xg_app0 (X := X) (h := h) l; rw [e30] at this; exact this
  have q := r_Linit (X := X) (h := h) (pv := .null) (Or.inl rfl)
  have L := xLB_new (X := X) (h := h) (pv := .null)
  rw [e30] at q L
  have G : xGr X (fun c => c = 16) h _ := xGr_tr xGr_app (xGr_set (h := h ++ [.inl (3, [.null, .int 0, .ref (30 + 1), .ref (30 + 2), .ref (30 + 3), .ref (30 + 4)]), .inr ((0, 7), .inl (fun _ => 0)), .inr ((0, 7), .inl (fun _ => 0)), .inr ((0, 7), .inl (fun _ => 0)), .inr ((0, 7), .inl (fun _ => 0))]) (a := 16) (e := xC0 (.ref 17) (.ref 29) (.ref 30) .null .null .null) (by omega) rfl)
  refine ⟨_, ?_, xS0_gr H G (fun c h1 h2 => by omega) (xg_same (by omega) (by rw [List.length_append]; omega)), ?_, xLB_gr (xGr_set (A := fun c => c = 16) (by omega) rfl) L (fun c h1 h2 => by have := h1.1; omega), G⟩
  · simp (disch := first | exact xnl_i _ | exact xnl_r _ | exact xnl_u _ | exact xnl_n | exact zI_2 | exact zI_24 | assumption | omega | (simp only [xset_len]; omega)) only [↓reduceIte, xbd_s, xpv_n, xpv_s, e_X11_init_0, e_X11_init_0n, e_X11_init_1, e_X11_init_4, e_X11_init_4n, e_X11_init_5, e_X11_init_8, e_X11_init_9, c_X11_init_9_7_2, c_X11_init_22_3_2, c_X11_init_22_3_2n, c_X11_init_22_3_3, c_X11_init_22_3_3n, c_X11_init_38_8_2, e_X11_init_12, e_X11_init_15, e_X11_init_15n, e_X11_init_16, e_X11_init_19, e_X11_init_21, e_X11_init_24, e_X11_init_24n, e_X11_init_25, e_X11_init_28, e_X11_init_29, e_X11_init_30, e_X11_init_30n, e_X11_init_33, e_X11_init_37, e_X11_init_39, e_X11_init_42, e_X11_init_45, e_X11_init_46, e_X11_init_48, e_X11_init_48n, e_X11_init_49, e_X11_init_52, e_X11_init_53, e_X11_init_56, e_X11_init_56n, e_X11_init_57, e_X11_init_60, e_X11_init_61, e_X11_init_64, e_X11_init_65, e_X11_init_66, e_X11_init_66n, e_X11_init_69, e_X11_init_70, e_X11_init_73, e_X11_init_76, e_X11_init_76n, e_X11_init_77, e_X11_init_78, e_X11_init_81, e_X11_init_84, e_X11_init_85, e_X11_init_87, e_X11_init_87n, e_X11_init_88, e_X11_init_91, e_X11_init_92, e_X11_init_95, e_X11_init_95n, e_X11_init_96, e_X11_init_99, e_X11_init_100, e_X11_init_103, e_X11_init_104, e_X11_init_105, e_X11_init_105n, e_X11_init_108, e_X11_init_109, e_X11_init_112, e_X11_init_115, e_X11_init_115n, e_X11_init_116, e_X11_init_119, e_X11_init_120, e_X11_init_123, e_X11_init_126, g_11_29_10, g_11_33_10, ini_X11_init, p_11_10_10, p_11_10_10n, p_11_16_10, p_11_16_10n, p_11_25_10, p_11_25_10n, p_11_29_10, p_11_29_10n, p_11_33_10, p_11_33_10n, p_11_39_10, p_11_39_10n, e30, c30, List.getElem?_cons_zero, q, c1]
    rfl
  · rw [xset_len, List.length_append, hl]; rfl
theorem r_CinitD (H : xS0 X h (.ref 29) (.ref 30) .null .null .null) (hl : h.length = 19) : ∃ h', xR X m_X11_init 36 [.ref 16, xU] [] h = xR X m_X11_init 47 [.ref 16, .int (nI 0)] [] h' ∧ xS0 X h' (.ref 29) (.ref 30) (.ref 35) .null .null ∧ h'.length = 20 ∧ xget X h' 35 = some (.inr ((5, 24), .inr (fun _ => none))) ∧ xGr X (fun c => c = 16) h h' := by
  have e35 : xnw h = 35 := by unfold xnw; omega
  have hc := H.2
  unfold xC0 at hc
  have c1 : ∀ l : xH, xget X (h ++ l) 16 = _ := fun l => (xg_app (by omega)).trans hc
  have c35 : ∀ l : xH, xget X (h ++ l) 35 = l[0]? := fun l => by have := xg_app0 (X := X) (h := h) l; rw [e35] at this; exact this
  have G : xGr X (fun c => c = 16) h _ := xGr_tr (xGr_app (l := [.inr ((5, 24), .inr (fun _ => none))])) (xGr_set (a := 16) (e := xC0 (.ref 17) (.ref 29) (.ref 30) (.ref 35) .null .null) (by omega) rfl)
  refine ⟨_, ?_, xS0_gr H G (fun c h1 h2 => by omega) (xg_same (by omega) (by rw [List.length_append]; omega)), ?_, ?_, G⟩
  · simp (disch := first | exact xnl_i _ | exact xnl_r _ | exact xnl_u _ | exact xnl_n | exact zI_2 | exact zI_24 | assumption | omega | (simp only [xset_len]; omega)) only [↓reduceIte, xbd_s, xpv_n, xpv_s, e_X11_init_0, e_X11_init_0n, e_X11_init_1, e_X11_init_4, e_X11_init_4n, e_X11_init_5, e_X11_init_8, e_X11_init_9, c_X11_init_9_7_2, c_X11_init_22_3_2, c_X11_init_22_3_2n, c_X11_init_22_3_3, c_X11_init_22_3_3n, c_X11_init_38_8_2, e_X11_init_12, e_X11_init_15, e_X11_init_15n, e_X11_init_16, e_X11_init_19, e_X11_init_21, e_X11_init_24, e_X11_init_24n, e_X11_init_25, e_X11_init_28, e_X11_init_29, e_X11_init_30, e_X11_init_30n, e_X11_init_33, e_X11_init_36, e_X11_init_36n, e_X11_init_37, e_X11_init_39, e_X11_init_42, e_X11_init_45, e_X11_init_46, e_X11_init_48, e_X11_init_48n, e_X11_init_49, e_X11_init_52, e_X11_init_53, e_X11_init_56, e_X11_init_56n, e_X11_init_57, e_X11_init_60, e_X11_init_61, e_X11_init_64, e_X11_init_65, e_X11_init_66, e_X11_init_66n, e_X11_init_69, e_X11_init_70, e_X11_init_73, e_X11_init_76, e_X11_init_76n, e_X11_init_77, e_X11_init_78, e_X11_init_81, e_X11_init_84, e_X11_init_85, e_X11_init_87, e_X11_init_87n, e_X11_init_88, e_X11_init_91, e_X11_init_92, e_X11_init_95, e_X11_init_95n, e_X11_init_96, e_X11_init_99, e_X11_init_100, e_X11_init_103, e_X11_init_104, e_X11_init_105, e_X11_init_105n, e_X11_init_108, e_X11_init_109, e_X11_init_112, e_X11_init_115, e_X11_init_115n, e_X11_init_116, e_X11_init_119, e_X11_init_120, e_X11_init_123, e_X11_init_126, g_11_29_10, g_11_33_10, ini_X11_init, p_11_10_10, p_11_10_10n, p_11_16_10, p_11_16_10n, p_11_25_10, p_11_25_10n, p_11_29_10, p_11_29_10n, p_11_33_10, p_11_33_10n, p_11_39_10, p_11_39_10n, e35, c1]
    rfl
  · rw [xset_len, List.length_append, hl]; rfl
  · rw [xg_ne (by omega) (by omega), c35]; rfl
/-- N empty LIBRARIES from b on -/
def xLs (X : xS) (h : xH) (b N : Nat) : Prop := ∀ k, k < N → xLB X h (b + 5 * k) .null 0 (fun _ => 0) (fun _ => 0) (fun _ => 0) (fun _ => 0)
theorem r_CinitE (H : xS0 X h (.ref 29) (.ref 30) (.ref 35) .null .null) {k : Nat} (hk : k < 24) (hl : h.length = 20 + 5 * k) {g : Nat → Option Nat} (hg : xget X h 35 = some (.inr ((5, 24), .inr g))) (hg2 : ∀ j, j < k → g j = some (36 + 5 * j)) (hL : xLs X h 36 k) : ∃ h' g', xR X m_X11_init 47 [.ref 16, .int (nI k)] [] h = xR X m_X11_init 47 [.ref 16, .int (nI (k + 1))] [] h' ∧ xS0 X h' (.ref 29) (.ref 30) (.ref 35) .null .null ∧ h'.length = 20 + 5 * (k + 1) ∧ xget X h' 35 = some (.inr ((5, 24), .inr g')) ∧ (∀ j, j < k + 1 → g' j = some (36 + 5 * j)) ∧ xLs X h' 36 (k + 1) ∧ xGr X (fun c => c = 35) h h' := by
  have en : xnw h = 36 + 5 * k := by unfold xnw; omega
  have hc := H.2
  unfold xC0 at hc
  have e1 : nI k < nI 24 := nI_lt hk (by omega)
  have c1 : ∀ l : xH, xget X (h ++ l) 16 = _ := fun l => (xg_app (by omega)).trans hc
  have c35 : ∀ l : xH, xget X (h ++ l) 35 = _ := fun l => (xg_app (by omega)).trans hg
  have cn : ∀ l : xH, xget X (h ++ l) (36 + 5 * k) = l[0]? := fun l => by have := xg_app0 (X := X) (h := h) l; rw [en] at this; exact this
  have q := r_Linit (X := X) (h := h) (pv := .null) (Or.inl rfl)
  have L := xLB_new (X := X) (h := h) (pv := .null)
  rw [en] at q L
  have ex : ∃ l : xH, l = [.inl (3, [.null, .int 0, .ref (36 + 5 * k + 1), .ref (36 + 5 * k + 2), .ref (36 + 5 * k + 3), .ref (36 + 5 * k + 4)]), .inr ((0, 7), .inl (fun _ => 0)), .inr ((0, 7), .inl (fun _ => 0)), .inr ((0, 7), .inl (fun _ => 0)), .inr ((0, 7), .inl (fun _ => 0))] := ⟨_, rfl⟩
  obtain ⟨l, hl5⟩ := ex
  have ll : l.length = 5 := by rw [hl5]; rfl
  rw [← hl5] at q L
  have kq : xkind (xget X (h ++ l) (36 + 5 * k)) = some 3 := by rw [cn, hl5]; rfl
  have e4 : ∀ K : xE → Option (Option Value × xH), xsK .aastore (some (.inr ((5, 24), .inr g))) 35 (nI k) (.ref (36 + 5 * k)) (fun b => xkind (xget X (h ++ l) b)) K = K (.inr ((5, 24), .inr (fun j => if j = k then some (36 + 5 * k) else g j))) := fun K => xs_a (fs := [.null, .int 0, .ref (36 + 5 * k + 1), .ref (36 + 5 * k + 2), .ref (36 + 5 * k + 3), .ref (36 + 5 * k + 4)]) hk (by omega) (by omega) kq rfl
  have G : xGr X (fun c => c = 35) h _ := xGr_tr (xGr_app (l := l)) (xGr_set (a := 35) (e := .inr ((5, 24), .inr (fun j => if j = k then some (36 + 5 * k) else g j))) (by omega) rfl)
  refine ⟨_, _, ?_, xS0_gr H G (fun c h1 h2 => by omega) ?_, ?_, xg_same (by omega) (by rw [List.length_append]; omega), ?_, ?_, G⟩
  · rw [e_X11_init_47]
    simp (disch := first | exact xnl_i _ | exact xnl_r _ | exact xnl_u _ | exact xnl_n | exact zI_2 | exact zI_24 | assumption | omega | (simp only [xset_len]; omega)) only [↓reduceIte, xbd_s, xpv_n, xpv_s, e_X11_init_0, e_X11_init_0n, e_X11_init_1, e_X11_init_4, e_X11_init_4n, e_X11_init_5, e_X11_init_8, e_X11_init_9, c_X11_init_9_7_2, c_X11_init_22_3_2, c_X11_init_22_3_2n, c_X11_init_22_3_3, c_X11_init_22_3_3n, c_X11_init_38_8_2, e_X11_init_12, e_X11_init_15, e_X11_init_15n, e_X11_init_16, e_X11_init_19, e_X11_init_21, e_X11_init_24, e_X11_init_24n, e_X11_init_25, e_X11_init_28, e_X11_init_29, e_X11_init_30, e_X11_init_30n, e_X11_init_33, e_X11_init_36, e_X11_init_36n, e_X11_init_37, e_X11_init_39, e_X11_init_42, e_X11_init_45, e_X11_init_46, e_X11_init_48, e_X11_init_48n, e_X11_init_49, e_X11_init_52, e_X11_init_53, e_X11_init_56, e_X11_init_56n, e_X11_init_57, e_X11_init_60, e_X11_init_61, e_X11_init_64, e_X11_init_65, e_X11_init_66, e_X11_init_66n, e_X11_init_69, e_X11_init_70, e_X11_init_73, e_X11_init_76, e_X11_init_76n, e_X11_init_77, e_X11_init_78, e_X11_init_81, e_X11_init_84, e_X11_init_85, e_X11_init_87, e_X11_init_87n, e_X11_init_88, e_X11_init_91, e_X11_init_92, e_X11_init_95, e_X11_init_95n, e_X11_init_96, e_X11_init_99, e_X11_init_100, e_X11_init_103, e_X11_init_104, e_X11_init_105, e_X11_init_105n, e_X11_init_108, e_X11_init_109, e_X11_init_112, e_X11_init_115, e_X11_init_115n, e_X11_init_116, e_X11_init_119, e_X11_init_120, e_X11_init_123, e_X11_init_126, g_11_29_10, g_11_33_10, ini_X11_init, p_11_10_10, p_11_10_10n, p_11_16_10, p_11_16_10n, p_11_25_10, p_11_25_10n, p_11_29_10, p_11_29_10n, p_11_33_10, p_11_33_10n, p_11_39_10, p_11_39_10n, hc, hg, xn_K, if_pos e1, en, cn, List.getElem?_cons_zero, q, c35, e4, nI_inc]
  · rw [xg_ne (by omega) (by omega), c1]; rfl
  · rw [xset_len, List.length_append, hl, ll]; omega
  · intro j hj
    by_cases c : j = k
    · rw [if_pos c, c]
    · rw [if_neg c]; exact hg2 j (by omega)
  · intro j hj
    by_cases c : j = k
    · subst c
      exact xLB_gr (xGr_set (A := fun c => c = 35) (by omega) rfl) L (fun c h1 h2 => by have := h1.1; omega)
    · exact xLB_gr G (hL j (by omega)) (fun c h1 h2 => by have := h1.1; omega)
theorem r_CinitF (H : xS0 X h (.ref 29) (.ref 30) (.ref 35) .null .null) (hl : h.length = 140) {g : Nat → Option Nat} (hg : xget X h 35 = some (.inr ((5, 24), .inr g))) : ∃ h', xR X m_X11_init 47 [.ref 16, .int (nI 24)] [] h = xR X m_X11_init 86 [.ref 16, .int (nI 0)] [] h' ∧ xS0 X h' (.ref 29) (.ref 30) (.ref 35) (.ref 156) .null ∧ h'.length = 141 ∧ xget X h' 156 = some (.inr ((5, 2), .inr (fun _ => none))) ∧ xGr X (fun c => c = 16) h h' := by
  have en : xnw h = 156 := by unfold xnw; omega
  have hc := H.2
  unfold xC0 at hc
  have e1 : ¬ nI 24 < nI 24 := by decide
  have c1 : ∀ l : xH, xget X (h ++ l) 16 = _ := fun l => (xg_app (by omega)).trans hc
  have cn : ∀ l : xH, xget X (h ++ l) 156 = l[0]? := fun l => by have := xg_app0 (X := X) (h := h) l; rw [en] at this; exact this
  have G : xGr X (fun c => c = 16) h _ := xGr_tr (xGr_app (l := [.inr ((5, 2), .inr (fun _ => none))])) (xGr_set (a := 16) (e := xC0 (.ref 17) (.ref 29) (.ref 30) (.ref 35) (.ref 156) .null) (by omega) rfl)
  refine ⟨_, ?_, xS0_gr H G (fun c h1 h2 => by omega) (xg_same (by omega) (by rw [List.length_append]; omega)), ?_, ?_, G⟩
  · rw [e_X11_init_47]
    simp (disch := first | exact xnl_i _ | exact xnl_r _ | exact xnl_u _ | exact xnl_n | exact zI_2 | exact zI_24 | assumption | omega | (simp only [xset_len]; omega)) only [↓reduceIte, xbd_s, xpv_n, xpv_s, e_X11_init_0, e_X11_init_0n, e_X11_init_1, e_X11_init_4, e_X11_init_4n, e_X11_init_5, e_X11_init_8, e_X11_init_9, c_X11_init_9_7_2, c_X11_init_22_3_2, c_X11_init_22_3_2n, c_X11_init_22_3_3, c_X11_init_22_3_3n, c_X11_init_38_8_2, e_X11_init_12, e_X11_init_15, e_X11_init_15n, e_X11_init_16, e_X11_init_19, e_X11_init_21, e_X11_init_24, e_X11_init_24n, e_X11_init_25, e_X11_init_28, e_X11_init_29, e_X11_init_30, e_X11_init_30n, e_X11_init_33, e_X11_init_36, e_X11_init_36n, e_X11_init_37, e_X11_init_39, e_X11_init_42, e_X11_init_45, e_X11_init_46, e_X11_init_48, e_X11_init_48n, e_X11_init_49, e_X11_init_52, e_X11_init_53, e_X11_init_56, e_X11_init_56n, e_X11_init_57, e_X11_init_60, e_X11_init_61, e_X11_init_64, e_X11_init_65, e_X11_init_66, e_X11_init_66n, e_X11_init_69, e_X11_init_70, e_X11_init_73, e_X11_init_76, e_X11_init_76n, e_X11_init_77, e_X11_init_78, e_X11_init_81, e_X11_init_84, e_X11_init_85, e_X11_init_87, e_X11_init_87n, e_X11_init_88, e_X11_init_91, e_X11_init_92, e_X11_init_95, e_X11_init_95n, e_X11_init_96, e_X11_init_99, e_X11_init_100, e_X11_init_103, e_X11_init_104, e_X11_init_105, e_X11_init_105n, e_X11_init_108, e_X11_init_109, e_X11_init_112, e_X11_init_115, e_X11_init_115n, e_X11_init_116, e_X11_init_119, e_X11_init_120, e_X11_init_123, e_X11_init_126, g_11_29_10, g_11_33_10, ini_X11_init, p_11_10_10, p_11_10_10n, p_11_16_10, p_11_16_10n, p_11_25_10, p_11_25_10n, p_11_29_10, p_11_29_10n, p_11_33_10, p_11_33_10n, p_11_39_10, p_11_39_10n, hc, hg, xn_K, e1, en, c1]
    rfl
  · rw [xset_len, List.length_append, hl]; rfl
  · rw [xg_ne (by omega) (by omega), cn]; rfl
theorem r_CinitG (H : xS0 X h (.ref 29) (.ref 30) (.ref 35) (.ref 156) .null) {k : Nat} (hk : k < 2) (hl : h.length = 141 + 5 * k) {g : Nat → Option Nat} (hg : xget X h 156 = some (.inr ((5, 2), .inr g))) (hg2 : ∀ j, j < k → g j = some (157 + 5 * j)) (hL : xLs X h 157 k) : ∃ h' g', xR X m_X11_init 86 [.ref 16, .int (nI k)] [] h = xR X m_X11_init 86 [.ref 16, .int (nI (k + 1))] [] h' ∧ xS0 X h' (.ref 29) (.ref 30) (.ref 35) (.ref 156) .null ∧ h'.length = 141 + 5 * (k + 1) ∧ xget X h' 156 = some (.inr ((5, 2), .inr g')) ∧ (∀ j, j < k + 1 → g' j = some (157 + 5 * j)) ∧ xLs X h' 157 (k + 1) ∧ xGr X (fun c => c = 156) h h' := by
  have en : xnw h = 157 + 5 * k := by unfold xnw; omega
  have hc := H.2
  unfold xC0 at hc
  have e1 : nI k < nI 2 := nI_lt hk (by omega)
  have c1 : ∀ l : xH, xget X (h ++ l) 16 = _ := fun l => (xg_app (by omega)).trans hc
  have c35 : ∀ l : xH, xget X (h ++ l) 156 = _ := fun l => (xg_app (by omega)).trans hg
  have cn : ∀ l : xH, xget X (h ++ l) (157 + 5 * k) = l[0]? := fun l => by have := xg_app0 (X := X) (h := h) l; rw [en] at this; exact this
  have q := r_Linit (X := X) (h := h) (pv := .null) (Or.inl rfl)
  have L := xLB_new (X := X) (h := h) (pv := .null)
  rw [en] at q L
  have ex : ∃ l : xH, l = [.inl (3, [.null, .int 0, .ref (157 + 5 * k + 1), .ref (157 + 5 * k + 2), .ref (157 + 5 * k + 3), .ref (157 + 5 * k + 4)]), .inr ((0, 7), .inl (fun _ => 0)), .inr ((0, 7), .inl (fun _ => 0)), .inr ((0, 7), .inl (fun _ => 0)), .inr ((0, 7), .inl (fun _ => 0))] := ⟨_, rfl⟩
  obtain ⟨l, hl5⟩ := ex
  have ll : l.length = 5 := by rw [hl5]; rfl
  rw [← hl5] at q L
  have kq : xkind (xget X (h ++ l) (157 + 5 * k)) = some 3 := by rw [cn, hl5]; rfl
  have e4 : ∀ K : xE → Option (Option Value × xH), xsK .aastore (some (.inr ((5, 2), .inr g))) 156 (nI k) (.ref (157 + 5 * k)) (fun b => xkind (xget X (h ++ l) b)) K = K (.inr ((5, 2), .inr (fun j => if j = k then some (157 + 5 * k) else g j))) := fun K => xs_a (fs := [.null, .int 0, .ref (157 + 5 * k + 1), .ref (157 + 5 * k + 2), .ref (157 + 5 * k + 3), .ref (157 + 5 * k + 4)]) hk (by omega) (by omega) kq rfl
  have G : xGr X (fun c => c = 156) h _ := xGr_tr (xGr_app (l := l)) (xGr_set (a := 156) (e := .inr ((5, 2), .inr (fun j => if j = k then some (157 + 5 * k) else g j))) (by omega) rfl)
  refine ⟨_, _, ?_, xS0_gr H G (fun c h1 h2 => by omega) ?_, ?_, xg_same (by omega) (by rw [List.length_append]; omega), ?_, ?_, G⟩
  · rw [e_X11_init_86]
    simp (disch := first | exact xnl_i _ | exact xnl_r _ | exact xnl_u _ | exact xnl_n | exact zI_2 | exact zI_24 | assumption | omega | (simp only [xset_len]; omega)) only [↓reduceIte, xbd_s, xpv_n, xpv_s, e_X11_init_0, e_X11_init_0n, e_X11_init_1, e_X11_init_4, e_X11_init_4n, e_X11_init_5, e_X11_init_8, e_X11_init_9, c_X11_init_9_7_2, c_X11_init_22_3_2, c_X11_init_22_3_2n, c_X11_init_22_3_3, c_X11_init_22_3_3n, c_X11_init_38_8_2, e_X11_init_12, e_X11_init_15, e_X11_init_15n, e_X11_init_16, e_X11_init_19, e_X11_init_21, e_X11_init_24, e_X11_init_24n, e_X11_init_25, e_X11_init_28, e_X11_init_29, e_X11_init_30, e_X11_init_30n, e_X11_init_33, e_X11_init_36, e_X11_init_36n, e_X11_init_37, e_X11_init_39, e_X11_init_42, e_X11_init_45, e_X11_init_46, e_X11_init_48, e_X11_init_48n, e_X11_init_49, e_X11_init_52, e_X11_init_53, e_X11_init_56, e_X11_init_56n, e_X11_init_57, e_X11_init_60, e_X11_init_61, e_X11_init_64, e_X11_init_65, e_X11_init_66, e_X11_init_66n, e_X11_init_69, e_X11_init_70, e_X11_init_73, e_X11_init_76, e_X11_init_76n, e_X11_init_77, e_X11_init_78, e_X11_init_81, e_X11_init_84, e_X11_init_85, e_X11_init_87, e_X11_init_87n, e_X11_init_88, e_X11_init_91, e_X11_init_92, e_X11_init_95, e_X11_init_95n, e_X11_init_96, e_X11_init_99, e_X11_init_100, e_X11_init_103, e_X11_init_104, e_X11_init_105, e_X11_init_105n, e_X11_init_108, e_X11_init_109, e_X11_init_112, e_X11_init_115, e_X11_init_115n, e_X11_init_116, e_X11_init_119, e_X11_init_120, e_X11_init_123, e_X11_init_126, g_11_29_10, g_11_33_10, ini_X11_init, p_11_10_10, p_11_10_10n, p_11_16_10, p_11_16_10n, p_11_25_10, p_11_25_10n, p_11_29_10, p_11_29_10n, p_11_33_10, p_11_33_10n, p_11_39_10, p_11_39_10n, hc, hg, xn_K, if_pos e1, en, cn, List.getElem?_cons_zero, q, c35, e4, nI_inc]
  · rw [xg_ne (by omega) (by omega), c1]; rfl
  · rw [xset_len, List.length_append, hl, ll]; omega
  · intro j hj
    by_cases c : j = k
    · rw [if_pos c, c]
    · rw [if_neg c]; exact hg2 j (by omega)
  · intro j hj
    by_cases c : j = k
    · subst c
      exact xLB_gr (xGr_set (A := fun c => c = 156) (by omega) rfl) L (fun c h1 h2 => by have := h1.1; omega)
    · exact xLB_gr G (hL j (by omega)) (fun c h1 h2 => by have := h1.1; omega)
theorem r_CinitH (H : xS0 X h (.ref 29) (.ref 30) (.ref 35) (.ref 156) .null) (hl : h.length = 151) {g : Nat → Option Nat} (hg : xget X h 156 = some (.inr ((5, 2), .inr g))) : ∃ h', xR X m_X11_init 86 [.ref 16, .int (nI 2)] [] h = some (none, h') ∧ xS0 X h' (.ref 29) (.ref 30) (.ref 35) (.ref 156) (.ref 167) ∧ h'.length = 153 ∧ xTB X h' 0 (fun _ => 0) ∧ xGr X (fun c => c = 16) h h' := by
  have en : xnw h = 167 := by unfold xnw; omega
  have hc := H.2
  unfold xC0 at hc
  have e1 : ¬ nI 2 < nI 2 := by decide
  have c1 : ∀ l : xH, xget X (h ++ l) 16 = _ := fun l => (xg_app (by omega)).trans hc
  have cn : ∀ l : xH, xget X (h ++ l) 167 = l[0]? := fun l => by have := xg_app0 (X := X) (h := h) l; rw [en] at this; exact this
  have ck : ∀ l : xH, xget X (h ++ l) 168 = l[1]? := fun l => by have := xg_app2 (X := X) (h := h) l 1; rw [en] at this; exact this
  have q := r_Tinit (X := X) (h := h)
  rw [en] at q
  have G : xGr X (fun c => c = 16) h _ := xGr_tr xGr_app (xGr_set (h := h ++ [.inl (8, [.ref (167 + 1), .int 0]), .inr ((0, 16), .inl (fun _ => 0))]) (a := 16) (e := xC0 (.ref 17) (.ref 29) (.ref 30) (.ref 35) (.ref 156) (.ref 167)) (by omega) rfl)
  refine ⟨_, ?_, xS0_gr H G (fun c h1 h2 => by omega) (xg_same (by omega) (by rw [List.length_append]; omega)), ?_, ⟨?_, ?_⟩, G⟩
  · rw [e_X11_init_86]
    simp (disch := first | exact xnl_i _ | exact xnl_r _ | exact xnl_u _ | exact xnl_n | exact zI_2 | exact zI_24 | assumption | omega | (simp only [xset_len]; omega)) only [↓reduceIte, xbd_s, xpv_n, xpv_s, e_X11_init_0, e_X11_init_0n, e_X11_init_1, e_X11_init_4, e_X11_init_4n, e_X11_init_5, e_X11_init_8, e_X11_init_9, c_X11_init_9_7_2, c_X11_init_22_3_2, c_X11_init_22_3_2n, c_X11_init_22_3_3, c_X11_init_22_3_3n, c_X11_init_38_8_2, e_X11_init_12, e_X11_init_15, e_X11_init_15n, e_X11_init_16, e_X11_init_19, e_X11_init_21, e_X11_init_24, e_X11_init_24n, e_X11_init_25, e_X11_init_28, e_X11_init_29, e_X11_init_30, e_X11_init_30n, e_X11_init_33, e_X11_init_36, e_X11_init_36n, e_X11_init_37, e_X11_init_39, e_X11_init_42, e_X11_init_45, e_X11_init_46, e_X11_init_48, e_X11_init_48n, e_X11_init_49, e_X11_init_52, e_X11_init_53, e_X11_init_56, e_X11_init_56n, e_X11_init_57, e_X11_init_60, e_X11_init_61, e_X11_init_64, e_X11_init_65, e_X11_init_66, e_X11_init_66n, e_X11_init_69, e_X11_init_70, e_X11_init_73, e_X11_init_76, e_X11_init_76n, e_X11_init_77, e_X11_init_78, e_X11_init_81, e_X11_init_84, e_X11_init_85, e_X11_init_87, e_X11_init_87n, e_X11_init_88, e_X11_init_91, e_X11_init_92, e_X11_init_95, e_X11_init_95n, e_X11_init_96, e_X11_init_99, e_X11_init_100, e_X11_init_103, e_X11_init_104, e_X11_init_105, e_X11_init_105n, e_X11_init_108, e_X11_init_109, e_X11_init_112, e_X11_init_115, e_X11_init_115n, e_X11_init_116, e_X11_init_119, e_X11_init_120, e_X11_init_123, e_X11_init_126, g_11_29_10, g_11_33_10, ini_X11_init, p_11_10_10, p_11_10_10n, p_11_16_10, p_11_16_10n, p_11_25_10, p_11_25_10n, p_11_29_10, p_11_29_10n, p_11_33_10, p_11_33_10n, p_11_39_10, p_11_39_10n, hc, hg, xn_K, e1, en, cn, List.getElem?_cons_zero, q, c1]
    rfl
  · rw [xset_len, List.length_append, hl]; rfl
  · rw [xg_ne (by omega) (by omega), cn]; rfl
  · rw [xg_ne (by omega) (by omega), ck]; rfl
end XNG
