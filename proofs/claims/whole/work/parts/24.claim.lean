/-! THE CLAIM out of the x machine's run of the law -/
def R_law : String := "DustReadsLaw"
def lw_P (b : Addr) (xs : List Int32) (args : Array Value) (s : State) : Prop := args = #[.ref b] ∧ s.IntsAt b xs ∧ xs.length ≤ 384 ∧ (Jvm.Cond.and given_1 narrow_1).before args s = true
def lw_Q (_ : Array Value) (s : State) (o : Outcome) (t : State) : Prop := o = .returned (some (.int 1)) ∧ Framed s o t [] 600000 7302250
def lw_Z (below : List Frame) (a : Array Value) (s : State) : State → Prop := fun t => ∃ o, t.status = .running ∧ Ended t below o ∧ lw_Q a s o t
/-- the law's own end, with 1 on the stack, nothing written that was there before, its room as the claim has it -/
theorem lw_ret {p : Program} {l : Launch} {e : Env} {s : State} {m : MethodId} {below : List Frame} {meth : Method} {c : Code} {b : Nat} (hx : p.tables.exec = Jvm.exec) (hb : c.code = code) (hr : meth.sig.returnType = ret) (hlocks : meth.locks = false) {pc : Nat} {H : Heap} {ls : Array Slot} (hdg : decode code pc = .ok (.ireturn, 1)) : W p l e room_1 s m #[Value.ref b] below meth c H [] 600000 7302250 (lw_Z below #[Value.ref b] s) (F0 m pc ls [.int 1]) := by
  intro T hT X
  obtain ⟨fs, hret, hrun, hended, hW, hframe⟩ := X.leave (v := some (.int 1)) (hlocks := hlocks) (fun h => by rw [hr] at h; cases h)
  have hmeth' : T.vm.method? m = some meth := X.method'
  refine ⟨T.setFrames fs, ?_, .returned (some (.int 1)), hrun, hended, rfl, ⟨_, rfl⟩, hW, hframe⟩
  jvm_step X.here [X.here.top, hx, hb, hdg, hmeth', hr, ret, narrow_b1]
  (try refine ⟨rfl, ?_⟩); (try refine ⟨rfl, ?_⟩)
  first | (intro acts; rw [hret _ acts rfl rfl rfl]) | rw [hret _ _ rfl rfl rfl]
  exact Steps.refl _
/-- what holds at the law's entry: the machine, the code, the tables' words (any of lw_tbl by 'hts w (by decide +kernel)'), the script of L ints xs at the cell b, what the Statement gives of the start (any of its parts by flat_of_before) -/
def lw_At (p : Program) (s : State) (m : MethodId) (meth : Method) (c : Code) (b L : Nat) (xs : Nat → Int32) : Prop :=
  p.tables.exec = Jvm.exec ∧ c.code = code ∧ meth.sig.returnType = ret ∧ c.maxLocals = 4 ∧ s.vm.findClass R_law = some m.cls ∧ (∀ w ∈ lw_tbl, w.before #[Value.ref b] s = true) ∧ va_X b L xs s s.heap ∧ b < s.heap.size ∧ meth.locks = false ∧ (Jvm.Cond.and given_1 narrow_1).before #[Value.ref b] s = true
theorem x_law_mok : xMok m_L_law := ⟨by decide, rfl⟩
theorem whole_start_of {p : Program} {e : Env} {s : State} {m : MethodId} {below : List Frame} {meth : Method} {c : Code} (l : Launch) {b L : Nat} {xs : Nat → Int32} {h' : xH} (hrun : xR (L, xs) m_L_law 0 [.ref 0, xU, xU, xU] [] [] = some (some (.int 1), h')) (hcells : h'.length ≤ 600000) (hslots : xsl h' ≤ 7302250) (C0 : lw_At p s m meth c b L xs) : W p l e room_1 s m #[Value.ref b] below meth c s.heap [] 0 0 (lw_Z below #[Value.ref b] s) (entryFrame m ([Value.ref b] : List Value).toArray 4) := by
  obtain ⟨hx, hb, hr, hml, hown, hts, hX, hbl, hlocks, hgv⟩ := C0
  obtain ⟨pre, adV, tA, D, hG, hp0⟩ := x_start hts hX hbl hgv
  obtain ⟨n, hn⟩ := xR_iff.mp hrun
  have hl := lv_entry ([.ref b]) (n := 4) (Nat.le_of_ble_eq_true rfl)
  rw [lg_entry_eq]
  generalize (lg_sl ([.ref b]) ++ List.replicate (4 - (lg_sl ([.ref b])).length) Slot.unset).toArray = ls at hl ⊢
  have hl2 : lv_has ls 4 (xlv s.heap.size pre 0 [.ref 0, xU, xU, xU]) := by
    have e : xlv s.heap.size pre 0 [.ref 0, xU, xU, xU] = [(0, .ref b)] := by
      show [(0, Value.ref (xa s.heap.size pre 0))] = _
      rw [xa_lo (by decide), hp0]
    rw [e]
    exact hl
  have hC : xC p room_1 s m #[Value.ref b] meth c m_L_law := ⟨hx, hb, hml, hown, fun w hw => hts w (xWg_in hw), (fun h => absurd h (by decide +kernel)), Nat.le_of_ble_eq_true rfl, Nat.le_of_ble_eq_true rfl⟩
  have hR : xRel s.heap.size pre tA D [] s.heap := ⟨rfl, fun k e h => by cases h⟩
  refine x_goes l (L, xs) s.heap.size pre adV tA D n m_L_law 0 _ [] [] (some (.int 1)) h' hn x_law_mok p e room_1 s m #[Value.ref b] below meth c s.heap [] 0 0 h'.length (xsl h') ls _ hC hG hR va_S.rf hl2 rfl (by show h'.length + 0 = 0 + h'.length; omega) (by show xsl h' + 0 = 0 + xsl h'; omega) hcells hslots (fun pc1 al1 st1 rl1 H1 locs1 hA hR1 hS1 => ?_)
  obtain ⟨-, i, hd, hret⟩ := xact_retI hA
  rcases hret with ⟨rfl, x, rfl, hv, -⟩ | ⟨rfl, w, rfl, hv, hr2, -⟩ | ⟨-, -, hv, -⟩
  · cases hv
    refine va_forget (fun q hq => hS1.2.2 q hq) (W.widen hcells hslots ?_)
    exact lw_ret hx hb hr hlocks hd
  · exact absurd hr2 (by decide)
  · cases hv
