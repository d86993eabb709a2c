-- CALLS of methods that return or throw; calls of methods with a table
section TXC
variable {p : Program} {l : Launch} {e : Env} {R : Room} {s : State} {m : MethodId} {args : Array Value} {below : List Frame} {meth : Method} {c : Code} {locs : List Loc} {cells slots : Nat}
variable {y : MethodName} {bytes cc : ByteArray} {maxL nL mc ms n index fr lo : Nat} {ret : Option FieldType} {own : String} {b : Addr} {As rest st0 av : List Value} {pc : Nat} {ls : Array Slot} {γ : gE} {PS : State → Prop} {A A0 : Nat → Prop} {H H0 : Heap} {XC : String → Heap → Prop} {Q : State → Prop} {hh : List (Nat × Nat × Nat × Nat)}
theorem tx_call {PO : Int32 → Heap → Prop} (S : bs_F p s m args c cc nL own) (hC : CX γ s) (htab : c.exceptionTable.toList.map (fun h => (h.startPc, h.endPc, h.handlerPc, h.catchType)) = hh) (hA : ∀ q, H.size ≤ q → A q) (hAA : ∀ q, A q → A0 q) (hS : va_S A0 H0 H locs)
    (hM : XM l y bytes maxL ret fr lo mc ms (.ref b :: As) γ A PS (mQi PO A) XC) (hbl : ∀ u U : State, u.vm = U.vm → u.heap = U.heap → PS u → PS U) (me : bs_Mi y bytes maxL ret n) (lk : Cond.methodLink own index y ∈ bs_W0) (hR : fr + 1 ≤ R.frames ∧ 8 + (maxL + 11) + lo ≤ R.locals)
    (hrv : ∃ cellB : Cell, H[b]? = some cellB ∧ cellB.vm.isStatics = false ∧ s.vm.findClass y.cls = some cellB.cls) (hPS : ∀ U : State, U.heap = H → s.WarmedH U.vm → PS U) (hn : As.length = n) (hsz : ls.size = nL) (hst : st0 = As.reverse ++ .ref b :: rest) (hrm : (rest.map fun v => v.category).sum ≤ 8) (hdg : decode cc pc = .ok (.invokevirtual index, 3)) (hf : cells + mc ≤ R.cells ∧ slots + ms ≤ R.slots)
    (hXC : ∀ (E : String) (H1 : Heap), XC E H1 → H.size ≤ H1.size ∧ ∀ q : Nat, q < H.size → ¬ A q → H1[q]? = H[q]?)
    (kk : ∀ (r : Int32) (H1 : Heap) (locs1 : List Loc), PO r H1 → va_S A0 H0 H1 locs1 → H.size ≤ H1.size → (∀ q : Nat, q < H.size → ¬ A q → H1[q]? = H[q]?) → W p l e R s m args below meth c H1 locs1 (cells + mc) (slots + ms) Q (F0 m (pc + 3) ls (.int r :: rest)))
    (kx : ∀ (E : String) (q : Addr) (H1 : Heap) (locs1 : List Loc), XC E H1 → va_S A0 H0 H1 locs1 → ∃ h, tc_H own E s args pc hh h ∧ W p l e R s m args below meth c H1 locs1 (cells + mc) (slots + ms) Q (F0 m h ls [.ref q])) : W p l e R s m args below meth c H locs cells slots Q (F0 m pc ls st0) := by
  intro T hT X
  obtain ⟨hx, hb, hml, hown, hW⟩ := S
  subst hb
  obtain ⟨m1, m2, m3, m4, hMH, hVH, hds⟩ := me
  obtain ⟨cellB, hcB, hoB, hclB⟩ := hrv
  have hy : y.cls ≠ "java/lang/invoke/MethodHandle" ∧ y.cls ≠ "java/lang/invoke/VarHandle" := ⟨hMH, hVH⟩
  obtain ⟨mk, methM, hnamed, hmethM, hstM, habM⟩ := Cond.instanceMethod_spec (hW _ m1)
  obtain ⟨methN, cM, hmethN, -, -, -, -, -, -, hsigM⟩ := Cond.code_spec hnamed (hW _ m4)
  cases hmethM.symm.trans hmethN
  obtain ⟨c2, r2, m9, q1, q2, q3, q4, kP, hkP, hkPi⟩ := Cond.selects_spec (hW _ m2)
  cases hclB.symm.trans q1
  cases (State.methodFound?_of_named hnamed hy).symm.trans q2
  cases hnamed.symm.trans q3
  have hsel : selectMethod e.platform s.vm cellB.cls mk = .method mk := by rw [Launch.admits_selectMethod X.admits]; exact q4
  have hlen : As.length = methM.sig.parameters.length := by
    rw [hsigM] at hds
    exact hn.trans (Option.some.inj hds).symm
  obtain ⟨vm₁, X₁, hstep⟩ := X.invokevirtual hx hown (hW _ lk) hnamed hmethM hstM hkP hkPi hy (a := b) (cell := cellB) (by rw [hT]; exact hcB) (fun z h => by rw [h] at hoB; cases hoB) hsel hmethM habM hkP hkPi (g := F0 m pc ls st0) rfl (argsL := As) (rest := rest) hlen hst hdg
  have hcome := tc_come (g := F0 m pc ls rest) (a := (Value.ref b :: As).toArray) (mk := mk) X₁ rfl (hsz.trans hml.symm) hdg (by simpa using hrm) (X₁.named hnamed) hM (tx_blind hbl) ⟨rfl, hC.warm X₁.warmed, fun q hq => hA q (by rw [← hT]; exact hq), hPS _ hT X₁.warmed⟩
    (fun w hw => by
      rcases List.mem_cons.mp hw with rfl | hw
      · exact word_at X₁.warmed (good_of_word (List.mem_filter.mp m4).2) (hW _ m4)
      · exact word_at X₁.warmed (good_of_word (List.mem_filter.mp hw).2) (hW _ hw))
    (word_at X₁.warmed (good_of_word (List.mem_filter.mp m3).2) (hW _ m3)) hR hf
  rcases hcome with ⟨v, st, t, T', L, e1, X', hL, e2, ⟨⟨r, u, hv, hr, hB⟩, hz, hk⟩, hsteps⟩ | ⟨q, E, ce, T', L, X', hL, hxc, hce, hcv, hcl, hsteps⟩
  · cases hv
    subst hr
    have hz1 : H.size ≤ T'.heap.size := by rw [e2]; rw [e1] at hz; rw [← hT]; exact hz
    have hk1 : ∀ q : Nat, q < H.size → ¬ A q → T'.heap[q]? = H[q]? := by
      intro q h1 h2
      rw [e2, ← hT]
      rw [e1] at hk
      exact hk q (by rw [← hT] at h1; exact h1) h2
    have hS1 : va_S A0 H0 T'.heap (locs ++ L) := ⟨Nat.le_trans hS.1 hz1, fun q h1 h2 => (hk1 q (Nat.lt_of_lt_of_le h1 hS.1) (fun h9 => h2 (hAA q h9))).trans (hS.2.1 q h1 h2), fun z hz => (List.mem_append.mp hz).elim (hS.2.2 z) (fun h => hAA _ (hL z h))⟩
    obtain ⟨t2, a1, b1⟩ := kk u T'.heap (locs ++ L) (by rw [e2]; exact hB) hS1 hz1 hk1 T' rfl X'
    exact ⟨t2, hstep _ fun acts => by rw [doInvoke_state]; exact hsteps.trans a1, b1⟩
  · obtain ⟨hz1, hk1⟩ := hXC E _ hxc
    have hS1 : va_S A0 H0 T'.heap (locs ++ L) := ⟨Nat.le_trans hS.1 hz1, fun q h1 h2 => (hk1 q (Nat.lt_of_lt_of_le h1 hS.1) (fun h9 => h2 (hAA q h9))).trans (hS.2.1 q h1 h2), fun z hz => (List.mem_append.mp hz).elim (hS.2.2 z) (fun h => hAA _ (hL z h))⟩
    obtain ⟨h, hH, hgo⟩ := kx E q T'.heap (locs ++ L) hxc hS1
    obtain ⟨vm', XV, stV⟩ := tc_catch X' (g := F0 m pc ls rest) rfl hown hce hcv hcl htab hH
    obtain ⟨t2, a1, b1⟩ := hgo (T'.setVm vm') rfl XV
    exact ⟨t2, hstep _ fun acts => by rw [doInvoke_state]; exact hsteps.trans (stV _ a1), b1⟩
end TXC
