/-! SOUND: the induction -/
set_option maxHeartbeats 4000000 in
theorem x_goes (l : Launch) (X : xS) (B : Nat) (pre adV : Nat → Nat) (tA : Nat → ClassId) (D : va_G) : ∀ n, xGoes l X B pre adV tA D n := by
  intro n
  induction n with
  | zero => intro m pc al st h v h' H; cases H
  | succ n ih =>
    intro m pc al st h v h' H hm p e R s mid args below meth c Hp locs cells slots CC SS rl Q hC hG hR hS hl hal hCC hSS hCR hSR kret
    rw [xr] at H
    cases hA : xact X m pc al st h with
    | none => rw [hA] at H; cases H
    | some A =>
      rw [hA] at H
      obtain r0 | ⟨pc1, al1, st1, h1⟩ | ⟨m1, l0, pc1, al1, st1, h1⟩ := A
      · dsimp only at H
        cases H
        have e1 := (xact_retI hA).1
        subst e1
        have e2 : CC = cells := by omega
        have e3 : SS = slots := by omega
        subst e2; subst e3
        exact kret _ _ _ _ _ _ hA hR hS
      · dsimp only at H
        have hg := xr_grow n H
        refine xact_sound hC hG hR hS hl hal hA (by have := hg.1; omega) (by have := hg.2; omega) ?_
        intro H' locs' cells' slots' rl' hR' hS' hl' hal' hc' hs'
        exact ih m pc1 al1 st1 h1 v h' H hm p e R s mid args below meth c H' locs' cells' slots' CC SS rl' Q hC hG hR' hS' hl' hal' (by omega) (by omega) hCR hSR kret
      · dsimp only at H
        cases hB : xr X n m1 0 l0 [] h1 with
        | none => rw [hB] at H; cases H
        | some q =>
          obtain ⟨v1, h2⟩ := q
          rw [hB] at H
          dsimp only at H
          obtain ⟨rfl, rfl, rfl, hlt, hst4, hL, as, rfl, has, hkind⟩ := xact_call hA
          have hg1 := xr_grow n hB
          have hg2 := xr_grow n H
          obtain ⟨mc, hmc⟩ : ∃ mc, mc + h1.length = h2.length := ⟨h2.length - h1.length, by have := hg1.1; omega⟩
          obtain ⟨ms, hms⟩ : ∃ ms, ms + xsl h1 = xsl h2 := ⟨xsl h2 - xsl h1, by have := hg1.2; omega⟩
          have hrm : xRm m1 mc ms = { frames := m1.2.2.2.2.2, cells := mc, slots := ms, locals := 30 * m1.2.2.2.2.2 } := rfl
          have hroom : (xRm m1 mc ms).frames + 1 ≤ R.frames ∧ 8 + (m1.2.2.2.1 + 11) + (xRm m1 mc ms).locals ≤ R.locals := by
            have h5 := hC.2.2.2.2.2.2
            constructor
            · show m1.2.2.2.2.2 + 1 ≤ R.frames
              omega
            · show 8 + (m1.2.2.2.1 + 11) + 30 * m1.2.2.2.2.2 ≤ R.locals
              omega
          have hq0 : ∀ a : Nat, a < s.heap.size → ¬ xA0 B a → Hp[a]? = s.heap[a]? := hS.2.1
          have hblind : FrameBlind (xPc (as.map (xv B pre)) (fun U Hh => xG B pre adV tA D X U Hh ∧ xRel B pre tA D h1 Hh)) := fun a U g mk hh => ⟨hh.1, hh.2.1.alike, hh.2.2⟩
          have hPc : ∀ U : State, U.heap = Hp → s.WarmedH U.vm → xPc (as.map (xv B pre)) (fun U Hh => xG B pre adV tA D X U Hh ∧ xRel B pre tA D h1 Hh) (as.map (xv B pre)).toArray U := fun U hU hW => ⟨rfl, by rw [hU]; exact ⟨hG.moved hW hS.1 hq0, hR⟩⟩
          have hcells : cells + mc ≤ R.cells ∧ slots + ms ≤ R.slots := ⟨by have := hg2.1; omega, by have := hg2.2; omega⟩
          have h8 : 2 * (F0 mid pc rl (st.map (xv B pre))).monitorRoom + ((st1.map (xv B pre)).map fun v => v.category).sum ≤ 8 := by
            have := xcat8 (B := B) (pre := pre) hst4
            show 2 * 0 + _ ≤ 8
            omega
          have run : va_Run p l e R s mid args below meth c Hp locs cells slots mc ms (F0 mid pc rl (st.map (xv B pre))) (st1.map (xv B pre)) (xQ B pre tA D v1 h2 (as.map (xv B pre)).toArray) (xA0 B) := by
            rcases hkind with ⟨k, ci, fs, a, nn, asr, op, hop, hd, hnp, has2, hst, hlen, hg⟩ | ⟨k, nn, hd, hcs, hst, hlen⟩
            · subst has2
              have hCv : xCvR op m.1 k ci m1 := by
                rcases hop with ⟨rfl, h9⟩ | ⟨rfl, h9⟩
                · exact xcv_ok _ _ _ _ h9
                · exact xci_ok _ _ _ _ h9
              obtain ⟨⟨n2, hn2, hrule⟩, ⟨T, N, hvc⟩, hmok⟩ := hCv
              have en : n2 = nn := Option.some.inj (hn2.symm.trans hnp)
              subst en
              obtain ⟨ha16, hh⟩ := xget_obj hg
              have hat := hR.2 _ _ hh
              have hrecv : ∃ cellB : Cell, Hp[xa B pre a]? = some cellB ∧ cellB.vm.isStatics = false ∧ s.vm.findClass (xcn ci) = some cellB.cls := by
                rw [xa_16 ha16]
                exact va_recv hG.1 (x_one hat) (q0 := 0) hvc rfl
              exact hrule p l e R s mid args below meth c Hp locs cells slots m.2.2.1 m.2.2.2.1 (xRm m1 mc ms) _ _ mc ms (xA0 B) (xa B pre a) (asr.map (xv B pre)) (st1.map (xv B pre)) (F0 mid pc rl (st.map (xv B pre))) ⟨hC.1, hC.2.1, hC.2.2.1, hC.2.2.2.1, hC.2.2.2.2.1⟩ hG.2.1 ⟨_, (hG.1.1 ci _ hvc).2⟩ (x_met ih hmok has hB hmc hms) rfl rfl hroom ⟨hblind, hrecv, hPc⟩ rfl (by rw [List.length_map]; exact hlen) hl.1 (by show st.map (xv B pre) = _; rw [hst, List.map_append, List.map_reverse]; rfl) h8 hd hcells
            · obtain ⟨hrule, hmok⟩ := xcs_ok _ _ _ hcs
              exact hrule p l e R s mid args below meth c Hp locs cells slots m.2.2.1 m.2.2.2.1 (xRm m1 mc ms) _ _ mc ms (xA0 B) (as.map (xv B pre)) (st1.map (xv B pre)) (F0 mid pc rl (st.map (xv B pre))) ⟨hC.1, hC.2.1, hC.2.2.1, hC.2.2.2.1, hC.2.2.2.2.1⟩ hG.2.1 (x_met ih hmok has hB hmc hms) rfl rfl hroom ⟨hblind, hPc⟩ rfl (by rw [List.length_map]; exact hlen) hl.1 (by show st.map (xv B pre) = _; rw [hst, List.map_append, List.map_reverse]) h8 hd hcells
          intro T hT Xs
          obtain ⟨v0, st0, t, T', L, h0, X', hL, e1, e2, ⟨hv0, hRt, hF⟩, step⟩ := run T hT Xs
          have hv1 : v0 = v1.map (xv B pre) := by
            injection hv0
          have hS1 : va_S (xA0 B) s.heap T'.heap (locs ++ L) := by
            refine ⟨?_, fun q h5 h6 => ?_, fun q hq => ?_⟩
            · rw [e1]
              have h7 := hF.1
              rw [h0] at h7
              exact Nat.le_trans hS.1 h7
            · rw [e1, hF.2 q (by rw [h0]; exact Nat.lt_of_lt_of_le h5 hS.1) h6, h0]
              exact hS.2.1 q h5 h6
            · rcases List.mem_append.mp hq with hq | hq
              · exact hS.2.2 q hq
              · exact hL q hq
          have K := ih m (pc + 3) al1 (v1.toList ++ st1) h2 v h' H hm p e R s mid args below meth c T'.heap (locs ++ L) (cells + mc) (slots + ms) CC SS rl Q hC hG (by rw [e1]; exact hRt) hS1 hl hal (by omega) (by omega) hCR hSR kret
          obtain ⟨tt, a1, b1⟩ := K T' rfl X'
          refine ⟨tt, step tt ?_, b1⟩
          rw [hv1]
          have hmap : (v1.toList ++ st1).map (xv B pre) = (v1.map (xv B pre)).toList ++ st1.map (xv B pre) := by
            rw [List.map_append]
            cases v1 <;> rfl
          rw [hmap] at a1
          exact a1
