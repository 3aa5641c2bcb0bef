/-! ops: hide -/
theorem bc_bit : ∀ k, k < 128 → bcS (nI k) = bitS (nI k) := by decide +kernel
theorem bit_full : ∀ n, n ≤ 7 → ∀ k, k < 2 ^ n - 1 → bitS (nI k) < bitS (nI (2 ^ n - 1)) := by decide +kernel
theorem lt_irr (x : Int32) : ¬ x < x := by rw [xlt_i]; omega
/-- best: fewest bits, then least -/
def bst (ok : Nat → Prop) (N y : Nat) : Prop := y ≤ N ∧ (y = N ∨ ok y) ∧ ∀ j, j ≤ N → (j = N ∨ ok j) → (bitS (nI y)).toInt < (bitS (nI j)).toInt ∨ ((bitS (nI y)).toInt = (bitS (nI j)).toInt ∧ y ≤ j)
theorem bst_uniq {ok : Nat → Prop} {N y z : Nat} (hy : bst ok N y) (hz : bst ok N z) : y = z := by
  have h1 := hy.2.2 z hz.1 hz.2.1
  have h2 := hz.2.2 y hy.1 hy.2.1
  omega
def hdN (ok : Nat → Prop) [∀ j, Decidable (ok j)] (j y : Nat) : Nat := if bitS (nI j) < bitS (nI y) then (if ok j then j else y) else y
theorem hd_bst (ok : Nat → Prop) [∀ j, Decidable (ok j)] {n : Nat} (hn : n ≤ 7) : bst ok (2 ^ n - 1) (xfold (hdN ok) (2 ^ n - 1) (2 ^ n - 1)) := by
  have bf := bit_full n hn
  revert bf
  generalize 2 ^ n - 1 = N
  intro bf
  have key : ∀ k, k ≤ N → (xfold (hdN ok) k N = N ∨ (ok (xfold (hdN ok) k N) ∧ xfold (hdN ok) k N < k)) ∧ (bitS (nI (xfold (hdN ok) k N))).toInt ≤ (bitS (nI N)).toInt ∧ ∀ j, j < k → ok j → (bitS (nI (xfold (hdN ok) k N))).toInt < (bitS (nI j)).toInt ∨ ((bitS (nI (xfold (hdN ok) k N))).toInt = (bitS (nI j)).toInt ∧ xfold (hdN ok) k N ≤ j) := by
    intro k
    induction k with
    | zero => intro _; exact ⟨Or.inl rfl, Int.le_refl _, fun j hj => by omega⟩
    | succ k ih =>
      intro hk
      obtain ⟨i1, i2, i3⟩ := ih (by omega)
      have hb := bf k (by omega)
      rw [xlt_i] at hb
      have e : xfold (hdN ok) (k + 1) N = hdN ok k (xfold (hdN ok) k N) := rfl
      rw [e]
      generalize xfold (hdN ok) k N = y at i1 i2 i3 ⊢
      unfold hdN
      by_cases c1 : bitS (nI k) < bitS (nI y)
      · rw [if_pos c1]
        rw [xlt_i] at c1
        by_cases c2 : ok k
        · rw [if_pos c2]
          refine ⟨Or.inr ⟨c2, by omega⟩, by omega, ?_⟩
          intro j hj oj
          by_cases e : j = k
          · subst e
            exact Or.inr ⟨rfl, Nat.le_refl _⟩
          · have := i3 j (by omega) oj
            omega
        · rw [if_neg c2]
          refine ⟨?_, i2, ?_⟩
          · rcases i1 with i1 | i1
            · exact Or.inl i1
            · exact Or.inr ⟨i1.1, by omega⟩
          · intro j hj oj
            by_cases e : j = k
            · subst e
              exact absurd oj c2
            · exact i3 j (by omega) oj
      · rw [if_neg c1]
        rw [xlt_i] at c1
        have hy : y < k := by
          rcases i1 with i1 | i1
          · subst i1
            omega
          · exact i1.2
        refine ⟨?_, i2, ?_⟩
        · rcases i1 with i1 | i1
          · exact Or.inl i1
          · exact Or.inr ⟨i1.1, by omega⟩
        · intro j hj oj
          by_cases e : j = k
          · subst e
            omega
          · exact i3 j (by omega) oj
  obtain ⟨i1, i2, i3⟩ := key N (Nat.le_refl N)
  refine ⟨?_, ?_, ?_⟩
  · rcases i1 with i1 | i1 <;> omega
  · rcases i1 with i1 | i1
    · exact Or.inl i1
    · exact Or.inr i1.1
  · intro j hj oj
    by_cases e : j = N
    · subst e
      rcases i1 with i1 | i1 <;> omega
    · rcases oj with oj | oj
      · exact absurd oj e
      · exact i3 j (by omega) oj
def mhN (ok : Nat → Prop) [∀ j, Decidable (ok j)] : Nat → Nat → Nat
  | 0, y => y
  | c + 1, y => mhN ok c (if bitS (nI y) < bitS (nI c) then y else if ok c then c else y)
theorem mh_bst (ok : Nat → Prop) [∀ j, Decidable (ok j)] (N : Nat) : bst ok N (mhN ok (N + 1) N) := by
  have key : ∀ c y, c ≤ N + 1 → y ≤ N → (y = N ∨ (ok y ∧ c ≤ y)) → (∀ j, c ≤ j → j ≤ N → (j = N ∨ ok j) → (bitS (nI y)).toInt < (bitS (nI j)).toInt ∨ ((bitS (nI y)).toInt = (bitS (nI j)).toInt ∧ y ≤ j)) → bst ok N (mhN ok c y) := by
    intro c
    induction c with
    | zero =>
      intro y _ h1 h2 h3
      refine ⟨h1, ?_, fun j hj oj => h3 j (by omega) hj oj⟩
      rcases h2 with h2 | h2
      · exact Or.inl h2
      · exact Or.inr h2.1
    | succ c ih =>
      intro y hc h1 h2 h3
      unfold mhN
      by_cases c1 : bitS (nI y) < bitS (nI c)
      · rw [if_pos c1]
        rw [xlt_i] at c1
        refine ih y (by omega) h1 ?_ ?_
        · rcases h2 with h2 | h2
          · exact Or.inl h2
          · exact Or.inr ⟨h2.1, by omega⟩
        · intro j hj hj2 oj
          by_cases e : j = c
          · subst e
            omega
          · exact h3 j (by omega) hj2 oj
      · rw [if_neg c1]
        rw [xlt_i] at c1
        by_cases c2 : ok c
        · rw [if_pos c2]
          refine ih c (by omega) (by omega) (Or.inr ⟨c2, Nat.le_refl _⟩) ?_
          intro j hj hj2 oj
          by_cases e : j = c
          · subst e
            omega
          · have := h3 j (by omega) hj2 oj
            omega
        · rw [if_neg c2]
          refine ih y (by omega) h1 ?_ ?_
          · rcases h2 with h2 | h2
            · exact Or.inl h2
            · exact Or.inr ⟨h2.1, by omega⟩
          · intro j hj hj2 oj
            by_cases e : j = c
            · subst e
              rcases oj with oj | oj
              · have e9 : y = j := by rcases h2 with h2 | h2 <;> omega
                rw [e9]
                exact Or.inr ⟨rfl, Nat.le_refl _⟩
              · exact absurd oj c2
            · exact h3 j (by omega) hj2 oj
  exact key (N + 1) N (Nat.le_refl _) (Nat.le_refl _) (Or.inl rfl) (fun j h1 h2 => by omega)
theorem spr_al {d o d' o' : Nat → Int32} {n : Nat} (hs : ∀ s, s < n → (0 ≤ (d s).toInt ∧ (d s).toInt ≤ 9999) ∧ d' s = d s ∧ ∃ c, c ≤ 48 ∧ o s = nI c ∧ o' s = nI c) (set x : Int32) (hx : ¬ x < 0) : x < spr set d o n ↔ x < alS set d' o' n := by
  have key : ∀ k, k ≤ n → (xfold (sprF set d o) k (-1, nI 10000) = (-1, nI 10000) ∧ xfold (alF set d' o') k (nI 9999, nI 0) = (nI 9999, nI 0)) ∨ ∃ a b : Int32, xfold (sprF set d o) k (-1, nI 10000) = (b, a) ∧ xfold (alF set d' o') k (nI 9999, nI 0) = (a, b) ∧ 0 ≤ a.toInt ∧ a.toInt ≤ b.toInt ∧ b.toInt ≤ 9999 := by
    intro k
    induction k with
    | zero => intro _; exact Or.inl ⟨rfl, rfl⟩
    | succ k ih =>
      intro hk
      obtain ⟨h1, h2, c, c1, c2, c3⟩ := hs k (by omega)
      have e1 : xfold (sprF set d o) (k + 1) (-1, nI 10000) = sprF set d o k (xfold (sprF set d o) k (-1, nI 10000)) := rfl
      have e2 : xfold (alF set d' o') (k + 1) (nI 9999, nI 0) = alF set d' o' k (xfold (alF set d' o') k (nI 9999, nI 0)) := rfl
      rw [e1, e2]
      have i := ih (by omega)
      generalize xfold (sprF set d o) k (-1, nI 10000) = y1 at i ⊢
      generalize xfold (alF set d' o') k (nI 9999, nI 0) = y2 at i ⊢
      unfold sprF alF
      rw [c2, c3, h2]
      by_cases hc : c = 0
      · subst hc
        rw [if_neg (show ¬ 0 < nI 0 by decide), if_pos (show nI 0 = 0 from rfl)]
        have hz : 0 ≤ (if (set >>> (nI k &&& 31)) &&& nI 1 = nI 1 then nI 0 else d k).toInt ∧ (if (set >>> (nI k &&& 31)) &&& nI 1 = nI 1 then nI 0 else d k).toInt ≤ 9999 := by
          split
          · decide
          · exact h1
        dsimp only
        generalize (if (set >>> (nI k &&& 31)) &&& nI 1 = nI 1 then nI 0 else d k) = z at hz ⊢
        refine Or.inr ?_
        have b1 : (-1 : Int32).toInt = -1 := by decide
        have b2 : (nI 10000).toInt = 10000 := by decide
        have b3 : (nI 9999).toInt = 9999 := by decide
        have b4 : (nI 0).toInt = 0 := by decide
        rcases i with ⟨i1, i2⟩ | ⟨a, b, i1, i2, i3, i4, i5⟩
        · rw [i1, i2]
          dsimp only
          refine ⟨z, z, ?_, ?_, hz.1, Int.le_refl _, hz.2⟩
          · rw [if_pos (by rw [xlt_i]; omega), if_pos (by rw [xlt_i]; omega)]
          · have e5 : (if z < nI 9999 then z else nI 9999) = z := by
              split
              · rfl
              · rename_i g
                rw [xlt_i] at g
                rw [xeq_i]
                omega
            have e6 : (if nI 0 < z then z else nI 0) = z := by
              split
              · rfl
              · rename_i g
                rw [xlt_i] at g
                rw [xeq_i]
                omega
            rw [e5, e6]
        · rw [i1, i2]
          dsimp only
          refine ⟨_, _, rfl, rfl, ?_, ?_, ?_⟩
          · split <;> omega
          · split <;> split <;> (rename_i g1 g2; rw [xlt_i] at g1 g2; omega)
          · split <;> omega
      · have g1 : 0 < nI c := by
          rw [xlt_i, xti0, nI_toInt (by omega)]
          omega
        have g2 : ¬ nI c = 0 := by
          rw [xeq_i, xti0, nI_toInt (by omega)]
          omega
        rw [if_pos g1, if_neg g2]
        exact i
  have hx2 : ¬ x.toInt < 0 := by
    rw [xlt_i, xti0] at hx
    exact hx
  unfold spr alS
  rcases key n (Nat.le_refl n) with ⟨i1, i2⟩ | ⟨a, b, i1, i2, i3, i4, i5⟩
  · rw [i1, i2]
    dsimp only
    have b1 : ((-1 : Int32) - nI 10000).toInt = -10001 := by decide
    have b2 : (nI 0 - nI 9999).toInt = -9999 := by decide
    rw [xlt_i, xlt_i, b1, b2]
    omega
  · rw [i1, i2]
/-- the two sides' hide -/
theorem hide_eq {d o d' o' : Nat → Int32} {n : Nat} (hn : n ≤ 7) (hs : ∀ s, s < n → (0 ≤ (d s).toInt ∧ (d s).toInt ≤ 9999) ∧ d' s = d s ∧ ∃ c, c ≤ 48 ∧ o s = nI c ∧ o' s = nI c) (x : Int32) (hx : ¬ x < 0) : mhS d' o' n x (2 ^ n) (nI (2 ^ n - 1)) = xfold (hdF d o n x) (2 ^ n - 1) (nI (2 ^ n - 1)) := by
  have p128 : 2 ^ n ≤ 2 ^ 7 := Nat.pow_le_pow_right (by omega) hn
  have p1 : 1 ≤ 2 ^ n := Nat.one_le_two_pow
  have A1 : ∀ k, k ≤ 2 ^ n - 1 → xfold (hdF d o n x) k (nI (2 ^ n - 1)) = nI (xfold (hdN (fun j => ¬ x < alS (nI j) d' o' n)) k (2 ^ n - 1)) ∧ xfold (hdN (fun j => ¬ x < alS (nI j) d' o' n)) k (2 ^ n - 1) ≤ 2 ^ n - 1 := by
    intro k
    induction k with
    | zero => intro _; exact ⟨rfl, Nat.le_refl _⟩
    | succ k ih =>
      intro hk
      obtain ⟨i1, i2⟩ := ih (by omega)
      have e1 : xfold (hdF d o n x) (k + 1) (nI (2 ^ n - 1)) = hdF d o n x k (xfold (hdF d o n x) k (nI (2 ^ n - 1))) := rfl
      have e2 : xfold (hdN (fun j => ¬ x < alS (nI j) d' o' n)) (k + 1) (2 ^ n - 1) = hdN (fun j => ¬ x < alS (nI j) d' o' n) k (xfold (hdN (fun j => ¬ x < alS (nI j) d' o' n)) k (2 ^ n - 1)) := rfl
      rw [e1, e2, i1]
      generalize xfold (hdN (fun j => ¬ x < alS (nI j) d' o' n)) k (2 ^ n - 1) = y at i2 ⊢
      unfold hdF hdN
      rw [bc_bit k (by omega), bc_bit y (by omega)]
      have sa := spr_al hs (nI k) x hx
      by_cases c1 : bitS (nI k) < bitS (nI y)
      · rw [if_pos c1, if_pos c1]
        by_cases c2 : x < alS (nI k) d' o' n
        · rw [if_pos (sa.mpr c2), if_neg (fun e => e c2)]
          exact ⟨rfl, i2⟩
        · rw [if_neg (fun e => c2 (sa.mp e)), if_pos c2]
          exact ⟨rfl, by omega⟩
      · rw [if_neg c1, if_neg c1]
        exact ⟨rfl, i2⟩
  have A2 : ∀ c y, c ≤ 2 ^ n → y ≤ 2 ^ n - 1 → mhS d' o' n x c (nI y) = nI (mhN (fun j => ¬ x < alS (nI j) d' o' n) c y) := by
    intro c
    induction c with
    | zero => intro y _ _; rfl
    | succ c ih =>
      intro y hc hy
      unfold mhS mhN
      by_cases c1 : bitS (nI y) < bitS (nI c)
      · rw [if_pos c1, if_pos c1]
        exact ih y (by omega) hy
      · rw [if_neg c1, if_neg c1]
        by_cases c2 : x < alS (nI c) d' o' n
        · rw [if_pos c2, if_neg (fun e => e c2)]
          exact ih y (by omega) hy
        · rw [if_neg c2, if_pos c2]
          exact ih c (by omega) (by omega)
  rw [(A1 _ (Nat.le_refl _)).1, A2 _ _ (Nat.le_refl _) (Nat.le_refl _)]
  have B1 := hd_bst (fun j => ¬ x < alS (nI j) d' o' n) hn
  have B2 := mh_bst (fun j => ¬ x < alS (nI j) d' o' n) (2 ^ n - 1)
  rw [show 2 ^ n - 1 + 1 = 2 ^ n by omega] at B2
  rw [bst_uniq B2 B1]
section XO3
variable {X : xS} {h h' : xH}
theorem o_hide (H : xREL X h) (x : Int32) : opR X h m_X11_hide m_X12_hide [.ref 16, .int x, xU, xU] [.ref 169, .int x, xU, xU] := by
  obtain ⟨fi, ta, lf, lib, ol, un, t, len, it, la, si, tp, tr, S, nm, A, hC, hM, hP, hI, hY, hx⟩ := H
  rcases hY with hN | hY
  · obtain ⟨rfl, n2, ⟨d, k, a, o, n3⟩, n4, n5, n6, n7⟩ := id hN
    exact op_look hC hP hI (Or.inl hN) hx (r_hideN hC.1 n3 x) (m_hideN hM (by rw [n4]; decide) x) hM kpt_rfl xFr_rfl
  · obtain ⟨p, n, m, pl, fr, to, hr, d, k, a, o, g, u, v, so, dr, y0, y1, y2, y3, y4, y5, y6⟩ := id hY
    obtain ⟨f0, f1, f2, f3, f4, f5, f6, f7, f8, f9⟩ := y5
    rcases x_len x with c | ⟨c1, c2⟩
    · exact op_look hC hP hI (Or.inr hY) hx (r_hideB hC.1 y1 c) (m_hideB hM f0 c) hM kpt_rfl xFr_rfl
    · refine op_look hC hP hI (Or.inr hY) hx (r_hide hC.1 y1 y2 c1 c2) ?_ hM kpt_rfl xFr_rfl
      rw [m_hide hM f2 f1 f0 c1 c2, hide_eq (d := d) (o := o) f2 _ x c1]
      intro s hs
      obtain ⟨_, _, _, _, s5, s6, _, c, o1, o2, o3⟩ := f7 s hs
      exact ⟨s5, s6, c, o1, o2, o3⟩
end XO3
