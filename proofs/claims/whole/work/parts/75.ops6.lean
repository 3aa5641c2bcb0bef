/-! ops: acts -/
theorem pR_f {f f' : Nat → Int32} {n m hr : Nat} {so dr d k a o u v : Nat → Int32} (H : pR f n m hr so dr d k a o u v) (hf : ∀ q, q < 54 → f' q = f q) : pR f' n m hr so dr d k a o u v := by
  obtain ⟨h0, h1, h2, h3, h4, h5, h6, h7, h8, h9⟩ := H
  refine ⟨(hf 0 (by omega)).trans h0, (hf 1 (by omega)).trans h1, h2, (hf 2 (by omega)).trans h3, h4, (hf 25 (by omega)).trans h5, h6, ?_, ?_, h9⟩
  · intro s hs
    obtain ⟨s1, s2, s3, s4, s5, s6, ⟨b, b1, b2, b3, b4⟩, ⟨c, c1, c2, c3⟩⟩ := h7 s hs
    exact ⟨s1, (hf _ (by omega)).trans s2, s3, (hf _ (by omega)).trans s4, s5, (hf _ (by omega)).trans s6, ⟨b, b1, b2, (hf _ (by omega)).trans b3, (hf _ (by omega)).trans b4⟩, c, c1, c2, (hf _ (by omega)).trans c3⟩
  · intro r hr
    exact ⟨(hf _ (by omega)).trans (h8 r hr).1, (hf _ (by omega)).trans (h8 r hr).2⟩
theorem pR_d {f : Nat → Int32} {n m hr : Nat} {so dr d k a o d' k' a' o' u v : Nat → Int32} (H : pR f n m hr so dr d k a o u v) (hd : ∀ j, j < 7 → d' j = d j ∧ k' j = k j ∧ a' j = a j ∧ o' j = o j) : pR f n m hr so dr d' k' a' o' u v := by
  obtain ⟨h0, h1, h2, h3, h4, h5, h6, h7, h8, h9⟩ := H
  refine ⟨h0, h1, h2, h3, h4, h5, h6, ?_, h8, ?_⟩
  · intro s hs
    obtain ⟨s1, s2, s3, s4, s5, s6, ⟨b, b1, b2, b3, b4⟩, ⟨c, c1, c2, c3⟩⟩ := h7 s hs
    obtain ⟨d1, d2, d3, d4⟩ := hd s (by omega)
    refine ⟨s1, s2, s3, s4, by rw [d1]; exact s5, by rw [d1]; exact s6, ⟨b, b1, by rw [d2]; exact b2, b3, by rw [d3]; exact b4⟩, c, c1, by rw [d4]; exact c2, c3⟩
  · intro s t hs ht e
    rw [(hd s (by omega)).2.1, (hd t (by omega)).2.1] at e
    exact h9 s t hs ht e
theorem rm_fold (f : Nat → Int32) (c : Nat) (w : Nat → Int32) : ∀ k, xfold (rmF f c) k w = fun q => if 29 * c ≤ q ∧ q < 29 * c + k then f (25 + (q - 29 * c)) else w q := by
  intro k
  induction k with
  | zero => funext q; rw [if_neg (by omega)]; rfl
  | succ k ih =>
    show rmF f c k (xfold (rmF f c) k w) = _
    rw [ih]
    unfold rmF upd
    funext q
    by_cases e : q = 29 * c + k
    · rw [if_pos e, if_pos (by omega), e, Nat.add_sub_cancel_left]
    · rw [if_neg e]
      dsimp only
      by_cases e2 : 29 * c ≤ q ∧ q < 29 * c + k
      · rw [if_pos e2, if_pos (by omega)]
      · rw [if_neg e2, if_neg (by omega)]
theorem sh_fold (w : Nat → Int32) : ∀ k, xfold shF k w = fun q => if q < k then w (q + 29) else w q := by
  intro k
  induction k with
  | zero => funext q; rw [if_neg (by omega)]; rfl
  | succ k ih =>
    show shF k (xfold shF k w) = _
    rw [ih]
    unfold shF upd
    funext q
    by_cases e : q = k
    · rw [if_pos e, if_pos (by omega), e]
      dsimp only
      rw [if_neg (by omega)]
    · rw [if_neg e]
      dsimp only
      by_cases e2 : q < k
      · rw [if_pos e2, if_pos (by omega)]
      · rw [if_neg e2, if_neg (by omega)]
/-- the row of what is kept for undo -/
theorem rmS_new (un : Nat) (hun : un ≤ 24) (f w : Nat → Int32) (q : Nat) (hq : q < 29) : rmS un f w (29 * (kUn un - 1) + q) = f (25 + q) := by
  unfold rmS kUn
  by_cases c : un < 24
  · rw [if_pos c, if_pos c, rm_fold]
    dsimp only
    rw [if_pos (by omega)]
    exact congrArg f (by omega)
  · rw [if_neg c, if_neg c, rm_fold]
    dsimp only
    rw [if_pos (by omega)]
    exact congrArg f (by omega)
theorem rmS_old (un : Nat) (hun : un ≤ 24) (f w : Nat → Int32) (j q : Nat) (hj : j + 1 < kUn un) (hq : q < 29) : rmS un f w (29 * j + q) = w (29 * (if un < 24 then j else j + 1) + q) := by
  unfold rmS
  unfold kUn at hj
  by_cases c : un < 24
  · rw [if_pos c] at hj
    rw [if_pos c, if_pos c, rm_fold]
    dsimp only
    rw [if_neg (by omega)]
  · rw [if_neg c] at hj
    rw [if_neg c, if_neg c, rm_fold, sh_fold]
    dsimp only
    rw [if_neg (by omega), if_pos (by omega)]
    exact congrArg w (by omega)
def aB (lib : Nat) : Nat → Prop := fun c => c = 16 ∨ (36 ≤ c ∧ c ≤ 155) ∨ inL lib c
theorem inK_aB {lib i : Nat} (hi : i < 24) : ∀ c, inK lib i c → aB lib c := by
  intro c hc
  rcases hc with hc | hc | hc
  · exact Or.inl hc
  · refine Or.inr (Or.inl ?_)
    have := hc.1; have := hc.2
    omega
  · exact Or.inr (Or.inr hc)
section XO6
variable {X : xS} {h h1 h2 h' : xH} {fi ta lf : Int32} {lib ol un t len p n m pl fr to hr hr' : Nat} {it : Nat → Nat → Int32} {la si tp tr : Nat → Int32} {S S' : Nat → Int32} {nm : Int64} {A A' : Nat → Nat → Int32} {d k a o d' k' a' o' u v so dr f' : Nat → Int32} {g : Nat → Option Nat}
def cmY (X : xS) (h : xH) (fi ta lf : Int32) (lib ol un p n m pl fr to hr : Nat) (d k a o : Nat → Int32) (g : Nat → Option Nat) (u v so dr : Nat → Int32) (S : Nat → Int32) (A : Nat → Nat → Int32) : Prop := xTH X h fi ta lf lib ol un p n m pl fr to (nI hr) d k a o g u v so dr (zL lib) ∧ (∀ j, j < 24 → xAn X h (36 + 5 * j)) ∧ pR (A 0) n m hr so dr d k a o u v ∧ rlU X h ol un p n m so dr u v (A 0) (A 3) ∧ S 0 = nI un
theorem cmY_of (hC : rlC X h fi ta lf lib ol un len it la si tp tr) (hP : rlP fi ta lf ol un t len it la si tp tr S A) (y0 : 180 ≤ lib) (y1 : xLB X h lib (.ref p) (nI hr) d k a o) (y2 : xPB X h p n m pl fr to g u v) (y3 : xGB X h n g so dr) (y4 : xZB (zL lib) p n pl fr to g) (y5 : pR (A 0) n m hr so dr d k a o u v) (y6 : rlU X h ol un p n m so dr u v (A 0) (A 3)) : cmY X h fi ta lf lib ol un p n m pl fr to hr d k a o g u v so dr S A := by
  obtain ⟨p0, p1, p2, p3, p4, p5, p6, p7, p8, p9, p10, p11, p12⟩ := hP
  exact ⟨⟨hC.1, hC.2.2.2.1, y1, y2, y3, y4, fun c hc => hc, y0, p10, p11⟩, hC.2.2.2.2.1, y5, y6, p12⟩
/-- one act -/
theorem cmY_act (H : cmY X h fi ta lf lib ol un p n m pl fr to hr d k a o g u v so dr S A) (TH : xTH X h1 fi ta lf lib (kOl ol un) (kUn un) p n m pl fr to (nI hr') d' k' a' o' g u v so dr (zL lib)) (ps : xPs X h1 (36 + 5 * ((ol + un) % 24)) (.ref p) (nI hr) d k a o) (fr1 : xFr X (inK lib ((ol + un) % 24)) h h1) (hf : ∀ q, q < 25 → f' q = A 0 q) (hpr : pR f' n m hr' so dr d' k' a' o' u v) : cmY X h1 fi ta lf lib (kOl ol un) (kUn un) p n m pl fr to hr' d' k' a' o' g u v so dr (upd S 0 (nI (kUn un))) (setA (setA A 3 (rmS un (A 0) (A 3))) 0 f') := by
  obtain ⟨T0, an, pr, U, s0⟩ := H
  have hol := T0.2.2.2.2.2.2.2.2.1
  have hun := T0.2.2.2.2.2.2.2.2.2
  have hi : (ol + un) % 24 < 24 := Nat.mod_lt _ (by omega)
  have hlib : 180 ≤ lib := T0.2.2.2.2.2.2.2.1
  obtain ⟨d2, k2, a2, o2, ps1, ps2⟩ := ps
  refine ⟨TH, ?_, by rw [setA_eq]; exact hpr, ?_, upd_eq⟩
  · intro j hj
    by_cases e : j = (ol + un) % 24
    · rw [e]
      exact xAn_of (Or.inr ⟨p, rfl⟩) ps1
    · exact xAn_fr (an j hj) fr1 (fun c e1 e2 => by have := e1.1; have := e1.2; unfold inK inL at e2; omega)
  · rw [setA_eq, setA_ne (by decide), setA_eq]
    intro j hj
    by_cases e : j + 1 = kUn un
    · have e1 : (kOl ol un + j) % 24 = (ol + un) % 24 := by
        unfold kUn at e
        unfold kOl
        by_cases c : un < 24
        · rw [if_pos c] at e
          rw [if_pos c, show j = un by omega]
        · rw [if_neg c] at e
          rw [if_neg c]
          omega
      rw [e1]
      refine ⟨hr, d2, k2, a2, o2, ps1, pR_d (pR_f pr ?_) ps2⟩
      intro q hq
      unfold mrg
      by_cases c : q < 25
      · rw [if_pos c, hf q c]
      · rw [if_neg c]
        have := rmS_new un hun (A 0) (A 3) (q - 25) (by omega)
        rw [show kUn un - 1 = j by omega] at this
        rw [this]
        congr 1
        omega
    · have e1 : (kOl ol un + j) % 24 = (ol + (if un < 24 then j else j + 1)) % 24 := by
        unfold kOl
        by_cases c : un < 24
        · rw [if_pos c, if_pos c]
        · rw [if_neg c, if_neg c]
          omega
      have e2 : (if un < 24 then j else j + 1) < un := by
        unfold kUn at hj e
        by_cases c : un < 24
        · rw [if_pos c] at hj e ⊢
          omega
        · rw [if_neg c] at hj e ⊢
          omega
      obtain ⟨hr0, d0, k0, a0, o0, u1, u2⟩ := U _ e2
      rw [e1]
      have hne : (ol + (if un < 24 then j else j + 1)) % 24 ≠ (ol + un) % 24 := by
        by_cases c : un < 24
        · rw [if_pos c] at e2 ⊢
          omega
        · rw [if_neg c] at e2 ⊢
          omega
      have hm := Nat.mod_lt (ol + (if un < 24 then j else j + 1)) (show 24 > 0 by omega)
      refine ⟨hr0, d0, k0, a0, o0, xLB_fr u1 fr1 (fun c e1 e2 => by have := e1.1; have := e1.2; unfold inK inL at e2; omega), pR_f u2 ?_⟩
      intro q hq
      unfold mrg
      by_cases c : q < 25
      · rw [if_pos c, if_pos c, hf q c]
      · rw [if_neg c, if_neg c]
        exact rmS_old un hun (A 0) (A 3) j (q - 25) (by omega) (by omega)
/-- and back to the relation -/
theorem cmY_rel {ol' un' : Nat} (hC : rlC X h fi ta lf lib ol un len it la si tp tr) (hP : rlP fi ta lf ol un t len it la si tp tr S A) (hI : rlI X h lib A) (H : cmY X h1 fi ta lf lib ol' un' p n m pl fr to hr d k a o g u v so dr S' A') (hF : xFr X (aB lib) h h1) (hM : xMB X h2 S' nm A') (hF2 : xFr X inM h1 h2) (hS : ∀ i, i ≠ 0 → S' i = S i) (hA : ∀ i, i ≠ 0 → i ≠ 3 → A' i = A i) (hx : xmx 700 h2) : xREL X h2 := by
  obtain ⟨T0, an, pr, U, s0⟩ := H
  obtain ⟨t1, t2, t3, t4, t5, t6, t7, t8, t9, t10⟩ := T0
  obtain ⟨c1, c2, c3, c4, c5, c6⟩ := hC
  have hC1 : rlC X h1 fi ta lf lib ol' un' len it la si tp tr := ⟨t1, xRW_fr c2 hF (fun c e1 e2 e3 => by unfold aB inL at e3; omega), (hF.2 29 (by unfold aB inL; omega)).trans c3, t2, an, xTB_fr c6 hF ⟨by unfold aB inL; omega, by unfold aB inL; omega⟩⟩
  have hY1 : rlN X h1 lib un' A' ∨ rlY X h1 lib ol' un' A' := Or.inr ⟨p, n, m, pl, fr, to, hr, d, k, a, o, g, u, v, so, dr, t8, t3, t4, t5, t6, pr, U⟩
  have hI1 := rlI_fr hI hF (fun c e1 e2 e3 => by unfold aB inL at e3; omega) (fun c e1 e2 => by have := e1.1; have := e1.2; unfold aB at e2; rcases e2 with e2 | e2 | e2; omega; omega; exact e1.2 e2)
  have hI2 := rlI_fr hI1 hF2 (fun c c1 c2 => inM_B c (by omega) (by omega)) inM_Z
  have hY2 := rlNY_fr hY1 hF2 (inM_L (Or.inr t8)) inM_Z (fun c c1 c2 => inM_B c (by omega) (by omega))
  obtain ⟨p0, p1, p2, p3, p4, p5, p6, p7, p8, p9, p10, p11, p12⟩ := hP
  refine ⟨fi, ta, lf, lib, ol', un', t, len, it, la, si, tp, tr, S', nm, A', rlC_fr hC1 hF2 inM_B, hM, ⟨(hS 1 (by decide)).trans p0, p1, (hS 8 (by decide)).trans p2, ?_, ?_, p5, (hS 2 (by decide)).trans p6, p7, (hS 13 (by decide)).trans p8, ?_, t9, t10, s0⟩, ?_, hY2, hx⟩
  · rw [hA 4 (by decide) (by decide), hA 5 (by decide) (by decide), hA 6 (by decide) (by decide)]; exact p3
  · rw [hA 7 (by decide) (by decide)]; exact p4
  · rw [hA 9 (by decide) (by decide)]; exact p9
  · unfold rlI at hI2 ⊢
    rw [hA 1 (by decide) (by decide), hA 2 (by decide) (by decide)]
    exact hI2
theorem op_act {m1 m2 : xMd} {as1 as2 : List Value} {x : Int32} (hC : rlC X h fi ta lf lib ol un len it la si tp tr) (hM : xMB X h S nm A) (hP : rlP fi ta lf ol un t len it la si tp tr S A) (hI : rlI X h lib A) (hx : xmx 700 h) (H : cmY X h fi ta lf lib ol un p n m pl fr to hr d k a o g u v so dr S A) (q1 : xR X m1 0 as1 [] h = some (some (.int x), h1)) (TH : xTH X h1 fi ta lf lib (kOl ol un) (kUn un) p n m pl fr to (nI hr') d' k' a' o' g u v so dr (zL lib)) (ps : xPs X h1 (36 + 5 * ((ol + un) % 24)) (.ref p) (nI hr) d k a o) (fr1 : xFr X (inK lib ((ol + un) % 24)) h h1) (q2 : ∀ hh, xMB X hh S nm A → ∃ h2, xR X m2 0 as2 [] hh = some (some (.int x), h2) ∧ xMB X h2 (upd S 0 (nI (kUn un))) nm (setA (setA A 3 (rmS un (A 0) (A 3))) 0 f') ∧ xFr X inM hh h2) (hf : ∀ q, q < 25 → f' q = A 0 q) (hpr : pR f' n m hr' so dr d' k' a' o' u v) : opR X h m1 m2 as1 as2 := by
  have hi : (ol + un) % 24 < 24 := Nat.mod_lt _ (by omega)
  have hlib : 180 ≤ lib := H.1.2.2.2.2.2.2.2.1
  have hM1 := xMB_fr hM fr1 (fun c e1 e2 e3 => by unfold inK inL at e3; omega)
  obtain ⟨h2, s1, s2, s3⟩ := q2 _ hM1
  have hx1 := xmx_fr hx q1 fr1.1
  have hx2 := xmx_fr hx1 s1 s3.1
  exact ⟨x, h1, h2, q1, s1, cmY_rel hC hP hI (cmY_act H TH ps fr1 hf hpr) (xFr_mo fr1 (inK_aB hi)) s2 s3 (fun i hi => upd_ne hi) (fun i h0 h3 => by rw [setA_ne h0, setA_ne h3]) hx2, by rw [s3.1, fr1.1]; omega⟩
end XO6
