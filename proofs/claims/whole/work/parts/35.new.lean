/-! NEW objects -/
section XNE
variable {X : xS} {h : xH}
theorem xn_app (l : xH) : xnw (h ++ l) = xnw h + l.length := by
  unfold xnw
  rw [List.length_append]
  omega
theorem xg_app2 (l : xH) (k : Nat) : xget X (h ++ l) (xnw h + k) = l[k]? := xg_new k
theorem xg_app0 (l : xH) : xget X (h ++ l) (xnw h) = l[0]? := xg_new 0
theorem xset_app (l : xH) (k : Nat) (e : xE) : xset (h ++ l) (xnw h + k) e = h ++ l.set k e := by
  unfold xset xnw
  rw [show h.length + 16 + k - 16 = h.length + k by omega, List.set_append_right _ _ (by omega), show h.length + k - h.length = k by omega]
theorem xset_app0 (l : xH) (e : xE) : xset (h ++ l) (xnw h) e = h ++ l.set 0 e := xset_app l 0 e
theorem r_Linit {pv : Value} (hpv : pv = .null ∨ ∃ p, pv = .ref p) : xR X m_X3_init 0 [.ref (xnw h), pv] [] (h ++ [.inl (3, [.null, .int 0, .null, .null, .null, .null])]) = some (none, h ++ [.inl (3, [pv, .int 0, .ref (xnw h + 1), .ref (xnw h + 2), .ref (xnw h + 3), .ref (xnw h + 4)]), .inr ((0, 7), .inl (fun _ => 0)), .inr ((0, 7), .inl (fun _ => 0)), .inr ((0, 7), .inl (fun _ => 0)), .inr ((0, 7), .inl (fun _ => 0))]) := by
  rcases hpv with rfl | ⟨p, rfl⟩
  all_goals simp (disch := first | exact xnl_i _ | exact xnl_r _ | exact xnl_u _ | exact xnl_n | exact zI_2 | exact zI_24 | assumption | omega | (simp only [xset_len]; omega)) only [xbd_s, xpv_n, xpv_s, e_X3_init_0, e_X3_init_0n, e_X3_init_1, e_X3_init_4, e_X3_init_4n, e_X3_init_5, e_X3_init_7, e_X3_init_9, e_X3_init_12, e_X3_init_12n, e_X3_init_13, e_X3_init_15, e_X3_init_17, e_X3_init_20, e_X3_init_20n, e_X3_init_21, e_X3_init_23, e_X3_init_25, e_X3_init_28, e_X3_init_28n, e_X3_init_29, e_X3_init_31, e_X3_init_33, e_X3_init_36, e_X3_init_36n, e_X3_init_37, e_X3_init_37n, e_X3_init_38, e_X3_init_41, ini_X3_init, p_3_15_3, p_3_15_3n, p_3_18_3, p_3_18_3n, p_3_21_3, p_3_21_3n, p_3_24_3, p_3_24_3n, p_3_9_3, p_3_9_3n, xn_app, xg_app0, xg_app2, xset_app, xset_app0, List.length_cons, List.length_nil, Nat.reduceAdd, List.getElem?_cons_zero, List.getElem?_cons_succ, List.set_cons_zero, List.set_cons_succ, List.append_assoc, List.cons_append, List.nil_append]
end XNE
