/-! THE RELATION between the class and the reference -/
def zL (lib : Nat) : Nat → Prop := fun c => 180 ≤ c ∧ ¬ inL lib c
def pS (f : Nat → Int32) (n : Nat) (so dr d k a o : Nat → Int32) (s : Nat) : Prop := (∃ t, so s = nI t ∧ 1 ≤ t ∧ t ≤ 5) ∧ f (3 + s) = so s ∧ (1 ≤ (dr s).toInt ∧ (dr s).toInt ≤ 5) ∧ f (10 + s) = dr s ∧ (0 ≤ (d s).toInt ∧ (d s).toInt ≤ 9999) ∧ f (26 + s) = d s ∧ (∃ b, b < n ∧ k s = nI b ∧ f (33 + s) = nI b ∧ f (40 + b) = a s) ∧ ∃ c, c ≤ 48 ∧ o s = nI c ∧ f (47 + s) = nI c
def pR (f : Nat → Int32) (n m hr : Nat) (so dr d k a o u v : Nat → Int32) : Prop := f 0 = nI 1 ∧ f 1 = nI n ∧ n ≤ 7 ∧ f 2 = nI m ∧ m ≤ 4 ∧ f 25 = nI hr ∧ hr ≤ 999 ∧ (∀ s, s < n → pS f n so dr d k a o s) ∧ (∀ r, r < m → f (17 + r) = u r ∧ f (21 + r) = v r) ∧ ∀ s t, s < n → t < n → k s = k t → s = t
def rwR (it : Nat → Nat → Int32) (la si : Nat → Int32) (L Z I : Nat → Int32) : Prop := ∀ r, r < 8 → ((si r = -1 ∧ L r = -1000000) ∨ (∃ c, c ≤ 40 ∧ si r = nI c ∧ Z r = nI c ∧ L r = la r ∧ ∃ l, l ≤ 2 ∧ la r = nI l)) ∧ ∀ i, i < 40 → it r i = I (40 * r + i)
def tpR (tp T : Nat → Int32) (t : Nat) : Prop := ∀ k, k < t → ∃ b, b < 256 ∧ T k = nI b ∧ tp k = (nI b).toInt8.toInt32
def xAn (X : xS) (h : xH) (b : Nat) : Prop := ∃ pv hr d k a o, (pv = Value.null ∨ ∃ p, pv = .ref p) ∧ xLB X h b pv hr d k a o
def xLR (X : xS) (h : xH) (b lib : Nat) (f : Nat → Int32) : Prop := ∃ p n m pl fr to hr d k a o g u v so dr, xLB X h b (.ref p) (nI hr) d k a o ∧ xPB X h p n m pl fr to g u v ∧ xGB X h n g so dr ∧ xZB (zL lib) p n pl fr to g ∧ pR f n m hr so dr d k a o u v
/-- the class's cells -/
def rlC (X : xS) (h : xH) (fi ta lf : Int32) (lib ol un len : Nat) (it : Nat → Nat → Int32) (la si tp tr : Nat → Int32) : Prop := xCB X h fi ta lf lib (nI ol) (nI un) ∧ xRW X h it la si ∧ xget X h 29 = some (.inr ((1, 400), .inl tp)) ∧ xPA X h ∧ (∀ j, j < 24 → xAn X h (36 + 5 * j)) ∧ xTB X h len tr
/-- what is alike of rows, tape, trace, numbers -/
def rlP (fi ta lf : Int32) (ol un t len : Nat) (it : Nat → Nat → Int32) (la si tp tr : Nat → Int32) (S : Nat → Int32) (A : Nat → Nat → Int32) : Prop := S 1 = fi ∧ ta = nI t ∧ S 8 = lf ∧ rwR it la si (A 4) (A 5) (A 6) ∧ tpR tp (A 7) t ∧ t ≤ 400 ∧ S 2 = nI t ∧ len ≤ 16 ∧ S 13 = nI len ∧ (∀ i, i < len → A 9 i = tr i) ∧ ol < 24 ∧ un ≤ 24 ∧ S 0 = nI un
def rlI (X : xS) (h : xH) (lib : Nat) (A : Nat → Nat → Int32) : Prop := ∀ i, i < 2 → (A 2 i = 0 ∧ ∃ hr d k a o, xLB X h (157 + 5 * i) .null hr d k a o) ∨ (A 2 i = 1 ∧ 180 ≤ lib ∧ xLR X h (157 + 5 * i) lib (fun q => A 1 (54 * i + q)))
def rlN (X : xS) (h : xH) (lib un : Nat) (A : Nat → Nat → Int32) : Prop := lib = 30 ∧ un = 0 ∧ (∃ d k a o, xLB X h 30 .null 0 d k a o) ∧ A 0 0 = 0 ∧ A 0 1 = 0 ∧ A 0 2 = 0 ∧ A 0 25 = 0
def mrg (f w : Nat → Int32) (j q : Nat) : Int32 := if q < 25 then f q else w (29 * j + (q - 25))
/-- what is kept for undo -/
def rlU (X : xS) (h : xH) (ol un p n m : Nat) (so dr u v : Nat → Int32) (f w : Nat → Int32) : Prop := ∀ j, j < un → ∃ hr d k a o, xLB X h (36 + 5 * ((ol + j) % 24)) (.ref p) (nI hr) d k a o ∧ pR (mrg f w j) n m hr so dr d k a o u v
def rlY (X : xS) (h : xH) (lib ol un : Nat) (A : Nat → Nat → Int32) : Prop := ∃ p n m pl fr to hr d k a o g u v so dr, 180 ≤ lib ∧ xLB X h lib (.ref p) (nI hr) d k a o ∧ xPB X h p n m pl fr to g u v ∧ xGB X h n g so dr ∧ xZB (zL lib) p n pl fr to g ∧ pR (A 0) n m hr so dr d k a o u v ∧ rlU X h ol un p n m so dr u v (A 0) (A 3)
def xREL (X : xS) (h : xH) : Prop := ∃ fi ta lf lib ol un t len it la si tp tr S nm A, rlC X h fi ta lf lib ol un len it la si tp tr ∧ xMB X h S nm A ∧ rlP fi ta lf ol un t len it la si tp tr S A ∧ rlI X h lib A ∧ (rlN X h lib un A ∨ rlY X h lib ol un A) ∧ xmx 700 h
section XRL
variable {X : xS} {h h' : xH} {fi ta lf : Int32} {lib ol un t len : Nat} {it : Nat → Nat → Int32} {la si tp tr : Nat → Int32} {S : Nat → Int32} {nm : Int64} {A : Nat → Nat → Int32} {B : Nat → Prop}
theorem xTB_fr (H : xTB X h len tr) (hF : xFr X B h h') (hB : ¬ B 167 ∧ ¬ B 168) : xTB X h' len tr := ⟨(hF.2 _ hB.1).trans H.1, (hF.2 _ hB.2).trans H.2⟩
theorem xAn_fr {b : Nat} (H : xAn X h b) (hF : xFr X B h h') (hB : ∀ c, inL b c → ¬ B c) : xAn X h' b := by
  obtain ⟨pv, hr, d, k, a, o, h1, h2⟩ := H
  exact ⟨pv, hr, d, k, a, o, h1, xLB_fr h2 hF hB⟩
theorem xAn_of {b : Nat} {pv : Value} {hr : Int32} {d k a o : Nat → Int32} (hp : pv = .null ∨ ∃ p, pv = .ref p) (hL : xLB X h b pv hr d k a o) : xAn X h b := ⟨pv, hr, d, k, a, o, hp, hL⟩
theorem xLR_fr {b : Nat} {f : Nat → Int32} (H : xLR X h b lib f) (hF : xFr X B h h') (hB : ∀ c, inL b c → ¬ B c) (hZ : ∀ c, zL lib c → ¬ B c) : xLR X h' b lib f := by
  obtain ⟨p, n, m, pl, fr, to, hr, d, k, a, o, g, u, v, so, dr, h1, h2, h3, h4, h5⟩ := H
  exact ⟨p, n, m, pl, fr, to, hr, d, k, a, o, g, u, v, so, dr, xLB_fr h1 hF hB, xPB_fr h2 h4 hF hZ, xGB_fr h3 h4 hF hZ, h4, h5⟩
theorem rlI_fr (H : rlI X h lib A) (hF : xFr X B h h') (hB : ∀ c, 157 ≤ c → c ≤ 166 → ¬ B c) (hZ : ∀ c, zL lib c → ¬ B c) : rlI X h' lib A := by
  intro i hi
  have hd : ∀ c, inL (157 + 5 * i) c → ¬ B c := fun c hc => hB c (by have := hc.1; omega) (by have := hc.2; omega)
  rcases H i hi with ⟨h1, hr, d, k, a, o, h2⟩ | ⟨h1, h3, h2⟩
  · exact Or.inl ⟨h1, hr, d, k, a, o, xLB_fr h2 hF hd⟩
  · exact Or.inr ⟨h1, h3, xLR_fr h2 hF hd hZ⟩
theorem rlU_fr {p n m : Nat} {so dr u v f w : Nat → Int32} (H : rlU X h ol un p n m so dr u v f w) (hF : xFr X B h h') (hB : ∀ c, 36 ≤ c → c ≤ 155 → ¬ B c) : rlU X h' ol un p n m so dr u v f w := by
  intro j hj
  obtain ⟨hr, d, k, a, o, h1, h2⟩ := H j hj
  exact ⟨hr, d, k, a, o, xLB_fr h1 hF (fun c hc => hB c (by have := hc.1; omega) (by have := hc.2; have := Nat.mod_lt (ol + j) (show 24 > 0 by omega); omega)), h2⟩
theorem rlC_fr (H : rlC X h fi ta lf lib ol un len it la si tp tr) (hF : xFr X B h h') (hB : ∀ c, 16 ≤ c → c ≤ 168 → ¬ B c) : rlC X h' fi ta lf lib ol un len it la si tp tr := by
  obtain ⟨h1, h2, h3, h4, h5, h6⟩ := H
  exact ⟨(hF.2 _ (hB _ (by omega) (by omega))).trans h1, xRW_fr h2 hF (fun c c1 c2 => hB _ (by omega) (by omega)), (hF.2 _ (hB _ (by omega) (by omega))).trans h3, xPA_fr h4 hF (hB _ (by omega) (by omega)) (hB _ (by omega) (by omega)), fun j hj => xAn_fr (h5 j hj) hF (fun c hc => hB c (by have := hc.1; omega) (by have := hc.2; omega)), xTB_fr h6 hF ⟨hB _ (by omega) (by omega), hB _ (by omega) (by omega)⟩⟩
theorem rlN_fr (H : rlN X h lib un A) (hF : xFr X B h h') (hB : ∀ c, inL lib c → ¬ B c) : rlN X h' lib un A := by
  obtain ⟨rfl, h2, ⟨d, k, a, o, h3⟩, h4⟩ := H
  exact ⟨rfl, h2, ⟨d, k, a, o, xLB_fr h3 hF hB⟩, h4⟩
theorem rlY_fr (H : rlY X h lib ol un A) (hF : xFr X B h h') (hL : ∀ c, inL lib c → ¬ B c) (hZ : ∀ c, zL lib c → ¬ B c) (hB : ∀ c, 36 ≤ c → c ≤ 155 → ¬ B c) : rlY X h' lib ol un A := by
  obtain ⟨p, n, m, pl, fr, to, hr, d, k, a, o, g, u, v, so, dr, h0, h1, h2, h3, h4, h5, h6⟩ := H
  exact ⟨p, n, m, pl, fr, to, hr, d, k, a, o, g, u, v, so, dr, h0, xLB_fr h1 hF hL, xPB_fr h2 h4 hF hZ, xGB_fr h3 h4 hF hZ, h4, h5, rlU_fr h6 hF hB⟩
theorem rlN_lib (H : rlN X h lib un A) : lib = 30 := H.1
theorem rlY_lib (H : rlY X h lib ol un A) : 180 ≤ lib := by
  obtain ⟨p, n, m, pl, fr, to, hr, d, k, a, o, g, u, v, so, dr, h0, _⟩ := H
  exact h0
theorem rl_lib (H : rlN X h lib un A ∨ rlY X h lib ol un A) : lib = 30 ∨ 180 ≤ lib := by
  rcases H with H | H
  · exact Or.inl H.1
  · exact Or.inr (rlY_lib H)
theorem rlNY_fr (H : rlN X h lib un A ∨ rlY X h lib ol un A) (hF : xFr X B h h') (hL : ∀ c, inL lib c → ¬ B c) (hZ : ∀ c, zL lib c → ¬ B c) (hB : ∀ c, 36 ≤ c → c ≤ 155 → ¬ B c) : rlN X h' lib un A ∨ rlY X h' lib ol un A := by
  rcases H with H | H
  · exact Or.inl (rlN_fr H hF hL)
  · exact Or.inr (rlY_fr H hF hL hZ hB)
theorem inM_L (hl : lib = 30 ∨ 180 ≤ lib) : ∀ c, inL lib c → ¬ inM c := by
  intro c h1 h2
  have := h1.1; have := h1.2; have := h2.1; have := h2.2
  omega
theorem inM_Z : ∀ c, zL lib c → ¬ inM c := by
  intro c h1 h2
  have := h1.1; have := h2.2
  omega
theorem inM_B : ∀ c, 16 ≤ c → c ≤ 168 → ¬ inM c := by
  intro c h1 h2 h3
  have := h3.1
  omega
theorem xmx_fr {v : Option Value} {m : xMd} {pc : Nat} {ls st : List Value} (H : xmx 700 h) (hR : xR X m pc ls st h = some (v, h')) (hl : h'.length = h.length) : xmx 700 h' := xmx_same H (xR_kp hR) hl
/-- a call of the reference that changes nothing but scratch -/
theorem rl_look {S' : Nat → Int32} {nm' : Int64} (hC : rlC X h fi ta lf lib ol un len it la si tp tr) (hP : rlP fi ta lf ol un t len it la si tp tr S A) (hI : rlI X h lib A) (hY : rlN X h lib un A ∨ rlY X h lib ol un A) (hx : xmx 700 h') (hM' : xMB X h' S' nm' A) (hk : kpt S S') (hF : xFr X inM h h') : xREL X h' := by
  have hl := rl_lib hY
  refine ⟨fi, ta, lf, lib, ol, un, t, len, it, la, si, tp, tr, S', nm', A, rlC_fr hC hF inM_B, hM', ?_, rlI_fr hI hF (fun c h1 h2 => inM_B c (by omega) (by omega)) inM_Z, rlNY_fr hY hF (inM_L hl) inM_Z (fun c h1 h2 => inM_B c (by omega) (by omega)), hx⟩
  obtain ⟨p0, p1, p2, p3, p4, p5, p6, p7, p8, p9, p10, p11, p12⟩ := hP
  exact ⟨(hk 1 (by omega)).trans p0, p1, (hk 8 (by omega)).trans p2, p3, p4, p5, (hk 2 (by omega)).trans p6, p7, (hk 13 (by omega)).trans p8, p9, p10, p11, (hk 0 (by omega)).trans p12⟩
theorem pR_ST {f : Nat → Int32} {n m hr : Nat} {so dr d k a o u v : Nat → Int32} (H : pR f n m hr so dr d k a o u v) : xST f n m hr := by
  obtain ⟨h0, h1, h2, h3, h4, h5, h6, h7, h8, h9⟩ := H
  refine ⟨h0, h1, h2, h3, h4, h5, h6, ?_, ?_, ?_⟩
  · intro s hs
    obtain ⟨⟨t, e1, e2⟩, e3, _⟩ := h7 s hs
    exact ⟨t, e3.trans e1, e2⟩
  · intro s hs
    obtain ⟨_, _, _, _, _, _, ⟨b, b1, b2, b3, b4⟩, _⟩ := h7 s hs
    exact ⟨b, b3, by omega⟩
  · intro s hs
    obtain ⟨_, _, _, _, _, _, _, c, c1, c2, c3⟩ := h7 s hs
    exact ⟨c, c3, c1⟩
end XRL
