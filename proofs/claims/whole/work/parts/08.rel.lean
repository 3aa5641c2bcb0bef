/-! THE RELATION between the x machine's state and the Jvm's: cell k of the x heap lies at B + k; below 16: cells that were there before (pre) -/
def xWg : List Cond := lw_tbl.filter goodWord
theorem xmem {w : Cond} (h : w ∈ lw_tbl) (g : goodWord w = true) : w ∈ xWg := List.mem_filter.mpr ⟨h, g⟩
theorem xWg_in {w : Cond} (h : w ∈ xWg) : w ∈ lw_tbl := (List.mem_filter.mp h).1
theorem xWg_good {ws : List Cond} (h : ∀ w ∈ ws, w ∈ xWg) : GoodIn xWg ws := fun w hw => ⟨h w hw, good_of_word (List.mem_filter.mp (h w hw)).2⟩
def xa (B : Nat) (pre : Nat → Nat) (k : Nat) : Nat := if k < 16 then pre k else B + (k - 16)
def xv (B : Nat) (pre : Nat → Nat) (v : Value) : Value := match v with
  | .ref k => .ref (xa B pre k)
  | .int x => .int x
  | .long x => .long x
  | .float x => .float x
  | .double x => .double x
  | .null => .null
  | .retAddr x => .retAddr x
def xcE (B : Nat) (pre : Nat → Nat) (tA : Nat → ClassId) (e : xE) : va_E := match e with
  | .inl (ci, fs) => .inr (ci, fs.map (xv B pre))
  | .inr ((t, n), .inl f) => .inl (tA t, n, .inl f)
  | .inr ((t, n), .inr g) => .inl (tA t, n, .inr (.inr (.inr (.inr (fun j => (g j).map (xa B pre))))))
def xRel (B : Nat) (pre : Nat → Nat) (tA : Nat → ClassId) (D : va_G) (h : xH) (H : Heap) : Prop := H.size = B + h.length ∧ ∀ (k : Nat) (e : xE), h[k]? = some e → va_at D vwCl (B + k, xcE B pre tA e) H
def xesz (e : xE) : Nat := match e with
  | .inl (_, fs) => fs.length
  | .inr ((_, n), _) => n
def xsl (h : xH) : Nat := (h.map xesz).sum
theorem xRel.set {B : Nat} {pre : Nat → Nat} {tA : Nat → ClassId} {D : va_G} {h : xH} {H H1 : Heap} (hR : xRel B pre tA D h H) {k : Nat} {e : xE} (hk : k < h.length) (he : va_at D vwCl (B + k, xcE B pre tA e) H1) (z : H1.size = H.size) (oq : ∀ q : Nat, q ≠ B + k → H1[q]? = H[q]?) : xRel B pre tA D (h.set k e) H1 := by
  refine ⟨by rw [z, hR.1, List.length_set], fun j e' hj => ?_⟩
  by_cases hjk : j = k
  · subst hjk
    rw [List.getElem?_set_self hk] at hj
    cases hj
    exact he
  · rw [List.getElem?_set_ne (Ne.symm hjk)] at hj
    exact (hR.2 j e' hj).kept (oq _ (fun q => hjk (Nat.add_left_cancel q)))
theorem xRel.push {B : Nat} {pre : Nat → Nat} {tA : Nat → ClassId} {D : va_G} {h : xH} {H H1 : Heap} (hR : xRel B pre tA D h H) {e : xE} (he : va_at D vwCl (H.size, xcE B pre tA e) H1) (z : H1.size = H.size + 1) (o1 : ∀ q : Nat, q < H.size → H1[q]? = H[q]?) : xRel B pre tA D (h ++ [e]) H1 := by
  refine ⟨by rw [z, hR.1, List.length_append]; rfl, fun j e' hj => ?_⟩
  by_cases hl : j < h.length
  · rw [List.getElem?_append_left hl] at hj
    exact (hR.2 j e' hj).kept (o1 _ (by rw [hR.1]; exact Nat.add_lt_add_left hl B))
  · rw [List.getElem?_append_right (by omega)] at hj
    have hz : j - h.length < 1 := (List.getElem?_eq_some_iff.mp hj).1
    have hj0 : j = h.length := by omega
    subst hj0
    rw [Nat.sub_self] at hj
    cases hj
    rw [← hR.1]
    exact he
theorem xget_obj {X : xS} {h : xH} {a ci : Nat} {fs : List Value} (H : xget X h a = some (.inl (ci, fs))) : 16 ≤ a ∧ h[a - 16]? = some (.inl (ci, fs)) := by
  unfold xget at H
  split at H
  · cases H
  · split at H
    · cases H
    · exact ⟨by omega, H⟩
theorem xget_16 {X : xS} {h : xH} {a : Nat} (ha : 16 ≤ a) : xget X h a = h[a - 16]? := by
  unfold xget
  rw [if_neg (by omega), if_neg (by omega)]
theorem xget_lo {X : xS} {h : xH} {a : Nat} {e : xE} (H : xget X h a = some e) (ha : a < 16) : a = 0 ∧ e = .inr ((0, X.1), .inl X.2) := by
  unfold xget at H
  split at H
  · rename_i h0
    cases H
    exact ⟨h0, rfl⟩
  · first
      | cases H
      | (rw [if_pos ha] at H; cases H)
theorem xa_16 {B : Nat} {pre : Nat → Nat} {a : Nat} (ha : 16 ≤ a) : xa B pre a = B + (a - 16) := by
  unfold xa
  rw [if_neg (by omega)]
theorem xa_lo {B : Nat} {pre : Nat → Nat} {a : Nat} (ha : a < 16) : xa B pre a = pre a := by
  unfold xa
  rw [if_pos ha]
theorem xsl_set {h : xH} {k : Nat} {e0 e : xE} (h0 : h[k]? = some e0) (he : xesz e = xesz e0) : xsl (h.set k e) = xsl h := by
  unfold xsl
  rw [List.map_set, he]
  congr 1
  refine List.ext_getElem? fun j => ?_
  by_cases hj : j = k
  · subst hj
    rw [List.getElem?_set_self (by rw [List.length_map]; exact (List.getElem?_eq_some_iff.mp h0).1), List.getElem?_map, h0]
    rfl
  · rw [List.getElem?_set_ne (Ne.symm hj)]
theorem xsl_app (h g : xH) : xsl (h ++ g) = xsl h + xsl g := by
  unfold xsl
  rw [List.map_append, List.sum_append]
/-- the locals -/
def xuns (v : Value) : Bool := match v with
  | .retAddr _ => true
  | _ => false
theorem xuns_f {v : Value} (h : ∀ z, v ≠ .retAddr z) : xuns v = false := by
  cases v <;> first | rfl | exact absurd rfl (h _)
theorem xuns_t {v : Value} (h : ¬ xuns v = true) : ∀ z, v ≠ .retAddr z := fun z e => h (by rw [e]; rfl)
def xlv (B : Nat) (pre : Nat → Nat) : Nat → List Value → List (Nat × Value)
  | _, [] => []
  | k, v :: t => if xuns v = true then xlv B pre (k + 1) t else (k, xv B pre v) :: xlv B pre (k + 1) t
theorem xlv_mem {B : Nat} {pre : Nat → Nat} : ∀ (al : List Value) (k : Nat) (q : Nat × Value), q ∈ xlv B pre k al → ∃ (j : Nat) (v : Value), al[j]? = some v ∧ (∀ z, v ≠ .retAddr z) ∧ q = (k + j, xv B pre v)
  | [], _, _, h => by cases h
  | v :: t, k, q, h => by
    unfold xlv at h
    split at h
    · obtain ⟨j, w, h1, h2, h3⟩ := xlv_mem t (k + 1) q h
      exact ⟨j + 1, w, h1, h2, by rw [h3, Nat.add_right_comm]; rfl⟩
    · rename_i hv
      rcases List.mem_cons.mp h with h | h
      · exact ⟨0, v, rfl, xuns_t hv, h⟩
      · obtain ⟨j, w, h1, h2, h3⟩ := xlv_mem t (k + 1) q h
        exact ⟨j + 1, w, h1, h2, by rw [h3, Nat.add_right_comm]; rfl⟩
theorem xlv_in {B : Nat} {pre : Nat → Nat} : ∀ (al : List Value) (k j : Nat) (v : Value), al[j]? = some v → (∀ z, v ≠ .retAddr z) → (k + j, xv B pre v) ∈ xlv B pre k al
  | [], _, _, _, h, _ => by cases h
  | w :: t, k, 0, v, h, hv => by
    rw [List.getElem?_cons_zero] at h
    cases h
    unfold xlv
    rw [if_neg (by rw [xuns_f hv]; decide)]
    exact List.mem_cons_self
  | w :: t, k, j + 1, v, h, hv => by
    rw [List.getElem?_cons_succ] at h
    have h1 := xlv_in (B := B) (pre := pre) t (k + 1) j v h hv
    rw [Nat.add_right_comm] at h1
    unfold xlv
    split
    · exact h1
    · exact List.mem_cons_of_mem _ h1
theorem lv_mono {ls : Array Slot} {nL : Nat} {l l' : List (Nat × Value)} (h : lv_has ls nL l) (hs : ∀ q ∈ l', q ∈ l) : lv_has ls nL l' := ⟨h.1, h.2.1, fun q hq => h.2.2 q (hs q hq)⟩
theorem xl_get {B : Nat} {pre : Nat → Nat} {rl : Array Slot} {nL : Nat} {al : List Value} (h : lv_has rl nL (xlv B pre 0 al)) {i : Nat} {v : Value} (hi : al[i]? = some v) (hv : ∀ z, v ≠ .retAddr z) : rl[i]? = some (.val (xv B pre v)) := by
  have h1 := xlv_in (B := B) (pre := pre) al 0 i v hi hv
  rw [Nat.zero_add] at h1
  exact h.2.2 _ h1
theorem xv_cat (B : Nat) (pre : Nat → Nat) (v : Value) : (xv B pre v).category = v.category := by cases v <;> rfl
theorem xl_set {B : Nat} {pre : Nat → Nat} {rl : Array Slot} {nL : Nat} {al al' : List Value} {i : Nat} {w : Value} {w' : Value} (hw : xv B pre w = w') (hs : xsto al i w = some al') (h : lv_has rl nL ((i, w') :: (xlv B pre 0 al).filter (fun q => !(q.1 == i) && !(q.1 + 1 == i && q.2.category == 2)))) : lv_has rl nL (xlv B pre 0 al') := by
  subst hw
  have key : al' = al.set i w ∧ i < al.length ∧ ∀ v, al[i - 1]? = some v → v.category ≠ 2 := by
    unfold xsto at hs
    split at hs
    · cases hs
    · cases hs
    · rename_i h1 h2
      split at hs
      · rename_i h3
        cases hs
        refine ⟨rfl, h3, fun v hv hc => ?_⟩
        cases v <;> first | exact absurd (show (1 : Nat) = 2 from hc) (by decide) | exact h1 _ hv | exact h2 _ hv
      · cases hs
  obtain ⟨rfl, hi, hc⟩ := key
  refine lv_mono h fun q hq => ?_
  obtain ⟨j, v, h1, h2, rfl⟩ := xlv_mem _ _ _ hq
  rw [Nat.zero_add]
  by_cases hj : j = i
  · subst hj
    rw [List.getElem?_set_self hi] at h1
    cases h1
    exact List.mem_cons_self
  · rw [List.getElem?_set_ne (Ne.symm hj)] at h1
    refine List.mem_cons_of_mem _ (List.mem_filter.mpr ⟨?_, ?_⟩)
    · have := xlv_in (B := B) (pre := pre) al 0 j v h1 h2
      rwa [Nat.zero_add] at this
    · have h5 : ¬ (j + 1 = i ∧ (xv B pre v).category = 2) := by
        rintro ⟨h6, h7⟩
        rw [xv_cat] at h7
        exact hc v (by rw [← h6]; exact h1) h7
      simp only [Bool.and_eq_true, Bool.not_eq_true', beq_eq_false_iff_ne, ne_eq, Bool.and_eq_false_iff]
      refine ⟨hj, ?_⟩
      by_cases h6 : j + 1 = i
      · exact Or.inr (fun h7 => h5 ⟨h6, h7⟩)
      · exact Or.inl h6
theorem xsto_len {al al' : List Value} {i : Nat} {w : Value} (hs : xsto al i w = some al') : al'.length = al.length ∧ i < al.length := by
  unfold xsto at hs
  split at hs
  · cases hs
  · cases hs
  · split at hs
    · rename_i h3
      cases hs
      exact ⟨List.length_set, h3⟩
    · cases hs
theorem xgo_inv {pc : Nat} {ls st : List Value} {h : xH} {pc' : Nat} {ls' st' : List Value} {h' : xH} (H : xgo pc ls st h = some (.inr (.inl (pc', ls', st', h')))) : pc = pc' ∧ ls = ls' ∧ st = st' ∧ h = h' := by
  unfold xgo at H
  cases H
  exact ⟨rfl, rfl, rfl, rfl⟩
theorem xjmp_inv {pc : Nat} {off : Int} {ls st : List Value} {h : xH} {pc' : Nat} {ls' st' : List Value} {h' : xH} (H : xjmp pc off ls st h = some (.inr (.inl (pc', ls', st', h')))) : (pc : Int) + off = (pc' : Int) ∧ ls = ls' ∧ st = st' ∧ h = h' := by
  unfold xjmp at H
  split at H
  · rename_i h0
    obtain ⟨rfl, h1⟩ := xgo_inv H
    exact ⟨h0.symm, h1⟩
  · cases H
