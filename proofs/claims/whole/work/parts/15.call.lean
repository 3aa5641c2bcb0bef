/-! CALLS, one form for all kinds: what a call's row says of the tables becomes 'xRule': from the callee's contract to the call -/
/-- an object's method is called (op: invokevirtual or invokespecial) on an object of class C -/
def xRuleO (op : Nat → ClassFile.Instr) (own : String) (idx : Nat) (C : String) (n : Nat) (y : MethodName) (b : ByteArray) (L : Nat) (ret : Option FieldType) : Prop :=
  ∀ (p : Program) (l : Launch) (e : Env) (R : Room) (s : State) (m : MethodId) (args : Array Value) (below : List Frame) (meth : Method) (c : Code) (H : Heap) (locs : List Loc) (cells slots : Nat) (cc : ByteArray) (nL : Nat) (rm : Room) (Pc : Array Value → State → Prop) (Qc : Array Value → State → Outcome → State → Prop) (mc ms : Nat) (free : Addr → Prop) (a : Addr) (As rest : List Value) (g : JFrame),
    CallFix p m c cc nL s args xWg own → xNest s → (∃ cC, ClassAt s C cC) → Met l y (xw y b L ret) rm Pc Qc mc ms free → rm.cells = mc → rm.slots = ms → (rm.frames + 1 ≤ R.frames ∧ 8 + (L + 11) + rm.locals ≤ R.locals) → PreV s H C a Pc As →
    g.method = m → As.length = n → g.locals.size = nL → g.stack = As.reverse ++ .ref a :: rest → 2 * g.monitorRoom + (rest.map fun v => v.category).sum ≤ 8 → decode cc g.pc = .ok (op idx, 3) → (cells + mc ≤ R.cells ∧ slots + ms ≤ R.slots) →
    va_Run p l e R s m args below meth c H locs cells slots mc ms g rest (Qc (Value.ref a :: As).toArray) free
def xRuleS (own : String) (idx : Nat) (n : Nat) (y : MethodName) (b : ByteArray) (L : Nat) (ret : Option FieldType) : Prop :=
  ∀ (p : Program) (l : Launch) (e : Env) (R : Room) (s : State) (m : MethodId) (args : Array Value) (below : List Frame) (meth : Method) (c : Code) (H : Heap) (locs : List Loc) (cells slots : Nat) (cc : ByteArray) (nL : Nat) (rm : Room) (Pc : Array Value → State → Prop) (Qc : Array Value → State → Outcome → State → Prop) (mc ms : Nat) (free : Addr → Prop) (As rest : List Value) (g : JFrame),
    CallFix p m c cc nL s args xWg own → xNest s → Met l y (xw y b L ret) rm Pc Qc mc ms free → rm.cells = mc → rm.slots = ms → (rm.frames + 1 ≤ R.frames ∧ 8 + (L + 11) + rm.locals ≤ R.locals) → PreS s H Pc As →
    g.method = m → As.length = n → g.locals.size = nL → g.stack = As.reverse ++ rest → 2 * g.monitorRoom + (rest.map fun v => v.category).sum ≤ 8 → decode cc g.pc = .ok (.invokestatic idx, 3) → (cells + mc ≤ R.cells ∧ slots + ms ≤ R.slots) →
    va_Run p l e R s m args below meth c H locs cells slots mc ms g rest (Qc As.toArray) free
def xNoMH (y : MethodName) (n : Nat) : Prop := y.cls ≠ "java/lang/invoke/MethodHandle" ∧ y.cls ≠ "java/lang/invoke/VarHandle" ∧ (parseMethodDescriptor y.desc).map (fun d => d.parameters.length) = some n
section XCR
variable {own C : String} {idx n L : Nat} {x y : MethodName} {b : ByteArray} {ret : Option FieldType} {owner host : String}
theorem xr_V (h1 : Cond.methodLink own idx y ∈ xWg) (h2 : Cond.instanceMethod y ∈ xWg) (h3 : Cond.selects C y y ∈ xWg) (h4 : Cond.initialized C ∈ xWg) (h5 : Cond.code y b L ret ∈ xWg) (hd : y.cls = C ∧ xNoMH y n) : xRuleO .invokevirtual own idx C n y b L ret := by
  intro p l e R s m args below meth c H locs cells slots cc nL rm Pc Qc mc ms free a As rest g hS hN hat hM hrc hrs hR hp hg hn hsz hst hW hdg hf
  exact va_runV hS hM (cwV (Ts := xWg) n hS.2.2.2.2 (goodIn_V h1 h2 h3 h4 (xw_good h5)) rfl hrc hrs hd hR) hp hg hn hsz hst hW hdg hf
theorem goodIn_U (h1 : Cond.methodLink own idx x ∈ xWg) (h2 : Cond.sameMethod x.cls owner x.name x.desc ∈ xWg) (h3 : Cond.selects C x y ∈ xWg) (h4 : Cond.instanceMethod y ∈ xWg) (h5 : Cond.initialized y.cls ∈ xWg) {ws : List Cond} (h : GoodIn xWg ws) : GoodIn xWg (va_wsU own idx C owner x y ws) := by
  intro w hw
  unfold va_wsU at hw
  rcases List.mem_append.mp hw with hw | hw
  · refine xWg_good (ws := [.methodLink own idx x, .sameMethod x.cls owner x.name x.desc, .selects C x y, .instanceMethod y, .initialized y.cls]) (fun w hw => ?_) w hw
    simp only [List.mem_cons, List.not_mem_nil, or_false] at hw
    rcases hw with rfl | rfl | rfl | rfl | rfl <;> assumption
  · exact h w hw
theorem xr_U (h1 : Cond.methodLink own idx x ∈ xWg) (h2 : Cond.sameMethod x.cls owner x.name x.desc ∈ xWg) (h3 : Cond.selects C x y ∈ xWg) (h4 : Cond.instanceMethod y ∈ xWg) (h5 : Cond.initialized y.cls ∈ xWg) (h6 : Cond.code y b L ret ∈ xWg) (hyx : y = ⟨owner, x.name, x.desc⟩) (hd : owner ≠ "java/lang/invoke/MethodHandle" ∧ owner ≠ "java/lang/invoke/VarHandle" ∧ (parseMethodDescriptor x.desc).map (fun d => d.parameters.length) = some n) : xRuleO .invokevirtual own idx C n y b L ret := by
  intro p l e R s m args below meth c H locs cells slots cc nL rm Pc Qc mc ms free a As rest g hS hN hat hM hrc hrs hR hp hg hn hsz hst hW hdg hf
  exact va_runU hS hM (va_cwU (Ts := xWg) n hS.2.2.2.2 (goodIn_U h1 h2 h3 h4 h5 (xw_good h6)) rfl hrc hrs hyx hd hR) hp hg hn hsz hst hW hdg hf
theorem xr_A (h1 : Cond.methodLink own idx x ∈ xWg) (h2 : Cond.sameMethod x.cls "DustReads$Place" x.name x.desc ∈ xWg) (h3 : Cond.selects C x y ∈ xWg) (h4 : Cond.instanceMethod y ∈ xWg) (h5 : Cond.initialized y.cls ∈ xWg) (h6 : Cond.code y b L ret ∈ xWg) (hx : x.name = "kindTold" ∧ x.desc = "()I") (hd : (parseMethodDescriptor x.desc).map (fun d => d.parameters.length) = some n) : xRuleO .invokevirtual own idx C n y b L ret := by
  intro p l e R s m args below meth c H locs cells slots cc nL rm Pc Qc mc ms free a As rest g hS hN hat hM hrc hrs hR hp hg hn hsz hst hW hdg hf
  exact va_runU hS hM (va_cwA (Ts := xWg) n hS.2.2.2.2 (goodIn_U h1 h2 h3 h4 h5 (xw_good h6)) rfl hrc hrs (by rw [hx.1, hx.2]; exact hN.2.2.1) ⟨by decide, by decide, hd⟩ hR) hp hg hn hsz hst hW hdg hf
theorem xr_O (h1 : Cond.methodLink own idx x ∈ xWg) (h2 : Cond.sameMethod x.cls owner x.name x.desc ∈ xWg) (h3 : Cond.selects C x y ∈ xWg) (h4 : Cond.instanceMethod y ∈ xWg) (h5 : Cond.initialized y.cls ∈ xWg) (h6 : Cond.code y b L ret ∈ xWg) (h7 : Cond.instanceMethod ⟨owner, x.name, x.desc⟩ ∈ xWg) {b0 : ByteArray} {m0 : Nat} {r0 : Option FieldType} (h0 : Cond.code ⟨owner, x.name, x.desc⟩ b0 m0 r0 ∈ xWg) (hd : owner ≠ "java/lang/invoke/MethodHandle" ∧ owner ≠ "java/lang/invoke/VarHandle" ∧ (parseMethodDescriptor x.desc).map (fun d => d.parameters.length) = some n) : xRuleO .invokevirtual own idx C n y b L ret := by
  intro p l e R s m args below meth c H locs cells slots cc nL rm Pc Qc mc ms free a As rest g hS hN hat hM hrc hrs hR hp hg hn hsz hst hW hdg hf
  have hG : GoodIn xWg (va_wsO own idx C owner x y (xw y b L ret)) := by
    intro w hw
    unfold va_wsO at hw
    rcases List.mem_append.mp hw with hw | hw
    · refine xWg_good (ws := [.methodLink own idx x, .sameMethod x.cls owner x.name x.desc, .instanceMethod ⟨owner, x.name, x.desc⟩, .selects C x y, .instanceMethod y, .initialized y.cls]) (fun w hw => ?_) w hw
      simp only [List.mem_cons, List.not_mem_nil, or_false] at hw
      rcases hw with rfl | rfl | rfl | rfl | rfl | rfl <;> assumption
    · exact xw_good h6 w hw
  exact va_runU hS hM (va_cwO (Ts := xWg) n hS.2.2.2.2 hG rfl hrc hrs h0 hd hR) hp hg hn hsz hst hW hdg hf
theorem xr_I (h1 : Cond.methodLink own idx y ∈ xWg) (h2 : Cond.instanceMethod y ∈ xWg) (h4 : Cond.initialized y.cls ∈ xWg) (h5 : Cond.code y b L none ∈ xWg) (hy : y.name = "<init>") (hd : xNoMH y n) : xRuleO .invokespecial own idx C n y b L none := by
  intro p l e R s m args below meth c H locs cells slots cc nL rm Pc Qc mc ms free a As rest g hS hN hat hM hrc hrs hR hp hg hn hsz hst hW hdg hf
  exact va_runI hS hM (cwI (Ts := xWg) n hS.2.2.2.2 (xw_good h5) rfl hrc hrs (hS.2.2.2.2 _ h4) (hS.2.2.2.2 _ h1) (hS.2.2.2.2 _ h2) hy hd hR) ⟨hp.1, hp.2.2⟩ hg hn hsz hst hW hdg hf
theorem xr_IN (h1 : (own, idx, y, host) ∈ xNwM) (h2 : Cond.instanceMethod y ∈ xWg) (h4 : Cond.initialized y.cls ∈ xWg) (h5 : Cond.code y b L none ∈ xWg) (hy : y.name = "<init>") (hd : xNoMH y n) : xRuleO .invokespecial own idx C n y b L none := by
  intro p l e R s m args below meth c H locs cells slots cc nL rm Pc Qc mc ms free a As rest g hS hN hat hM hrc hrs hR hp hg hn hsz hst hW hdg hf
  exact va_runIN hS hM ⟨va_cnB (Ts := xWg) n hS.2.2.2.2 (xw_good h5) rfl hrc hrs (hN.2.1 _ h1) (hS.2.2.2.2 _ h4) hd hR, hy, hS.2.2.2.2 _ h2⟩ ⟨hp.1, hp.2.2⟩ hg hn hsz hst hW hdg hf
theorem xr_SU (h1 : Cond.methodLink own idx y ∈ xWg) (h2 : Cond.sameMethod y.cls y.cls y.name y.desc ∈ xWg) (h3 : Cond.superclass own y.cls ∈ xWg) (h4 : Cond.instanceMethod y ∈ xWg) (h5 : Cond.initialized y.cls ∈ xWg) (h6 : Cond.code y b L ret ∈ xWg) (hd : y.name ≠ "<init>" ∧ (parseMethodDescriptor y.desc).map (fun d => d.parameters.length) = some n) : xRuleO .invokespecial own idx C n y b L ret := by
  intro p l e R s m args below meth c H locs cells slots cc nL rm Pc Qc mc ms free a As rest g hS hN hat hM hrc hrs hR hp hg hn hsz hst hW hdg hf
  have hG : GoodIn xWg (va_wsSU own idx y (xw y b L ret)) := by
    intro w hw
    unfold va_wsSU at hw
    rcases List.mem_append.mp hw with hw | hw
    · refine xWg_good (ws := [.methodLink own idx y, .sameMethod y.cls y.cls y.name y.desc, .superclass own y.cls, .instanceMethod y, .initialized y.cls]) (fun w hw => ?_) w hw
      simp only [List.mem_cons, List.not_mem_nil, or_false] at hw
      rcases hw with rfl | rfl | rfl | rfl | rfl <;> assumption
    · exact xw_good h6 w hw
  obtain ⟨cC, hat⟩ := hat
  exact va_runSU hat hS hM (va_cwSU (Ts := xWg) n hS.2.2.2.2 hG rfl hrc hrs hd hR) hp hg hn hsz hst hW hdg hf
theorem xr_S (h1 : Cond.methodLink own idx y ∈ xWg) (h2 : Cond.static y ∈ xWg) (h4 : Cond.initialized y.cls ∈ xWg) (h5 : Cond.code y b L ret ∈ xWg) (hd : xNoMH y n) : xRuleS own idx n y b L ret := by
  intro p l e R s m args below meth c H locs cells slots cc nL rm Pc Qc mc ms free As rest g hS hN hM hrc hrs hR hp hg hn hsz hst hW hdg hf
  exact va_runS hS hM (va_cwS (Ts := xWg) n hS.2.2.2.2 (goodIn_app3 h1 h2 h4 (xw_good h5)) rfl hrc hrs hd hR) hp hg hn hsz hst hW hdg hf
theorem xr_SN (h1 : (own, idx, y, host) ∈ xNwM) (h2 : Cond.static y ∈ xWg) (h4 : Cond.initialized y.cls ∈ xWg) (h5 : Cond.code y b L ret ∈ xWg) (hd : xNoMH y n) : xRuleS own idx n y b L ret := by
  intro p l e R s m args below meth c H locs cells slots cc nL rm Pc Qc mc ms free As rest g hS hN hM hrc hrs hR hp hg hn hsz hst hW hdg hf
  exact va_runSN hS hM ⟨va_cnB (Ts := xWg) n hS.2.2.2.2 (xw_good h5) rfl hrc hrs (hN.2.1 _ h1) (hS.2.2.2.2 _ h4) hd hR, hS.2.2.2.2 _ h2, trivial⟩ hp hg hn hsz hst hW hdg hf
end XCR
