-- CATCHES: the table's rows, cold or warm; a call that returns or throws
/-- the rows of a table, of an exception of the class th: the first that takes it is the one with the handler h -/
def tc_T (s0 : State) (pl : Platform) (d : ClassId) (pc : Nat) (th : ClassId) : List ExceptionTableEntry → Nat → Prop
  | [], _ => False
  | x :: t, h => covers x pc = true ∧ x.catchType ≠ 0 ∧ ∃ k, s0.vm.ClassLinks pl d x.catchType k ∧ ((s0.vm.assignable th k = true ∧ h = x.handlerPc) ∨ (s0.vm.assignable th k = false ∧ tc_T s0 pl d pc th t h))
/-- the same by words -/
def tc_H (own E : String) (s : State) (args : Array Value) (pc : Nat) : List (Nat × Nat × Nat × Nat) → Nat → Prop
  | [], _ => False
  | x :: t, h => (x.1 ≤ pc ∧ pc < x.2.1) ∧ x.2.2.2 ≠ 0 ∧ ∃ nm : String, (Cond.classLink own x.2.2.2 nm).before args s = true ∧ ((va_Nw (.castable E nm) s ∧ h = x.2.2.1) ∨ (va_Nc E nm s ∧ tc_H own E s args pc t h))
theorem tc_of {own E : String} {s : State} {args : Array Value} {pc h : Nat} {d th : ClassId} {pl : Platform} (hpl : pl.magicAccessors = ({} : Platform).magicAccessors) (hown : s.vm.findClass own = some d) (hE : s.vm.findClass E = some th) :
    ∀ (L : List ExceptionTableEntry) (hh : List (Nat × Nat × Nat × Nat)), L.map (fun h => (h.startPc, h.endPc, h.handlerPc, h.catchType)) = hh → tc_H own E s args pc hh h → tc_T s pl d pc th L h := by
  intro L
  induction L with
  | nil => intro hh e hq; subst e; exact hq
  | cons x t ih =>
    intro hh e hq
    subst e
    obtain ⟨⟨h1, h2⟩, h0, nm, hl, hr⟩ := hq
    obtain ⟨k, hk, hkl⟩ := Cond.classLink_spec hown hl pl hpl
    refine ⟨by simp only [covers, Bool.and_eq_true, decide_eq_true_eq]; exact ⟨h1, h2⟩, h0, k, hkl, ?_⟩
    rcases hr with ⟨hc, e⟩ | ⟨⟨a8, b8, q1, q2, q3⟩, ht⟩
    · obtain ⟨c3, c4, q1, q2, q3⟩ := Cond.castable_spec hc
      cases Option.some.inj (q1.symm.trans hE)
      cases Option.some.inj (q2.symm.trans hk)
      exact Or.inl ⟨q3, e⟩
    · cases Option.some.inj (q1.symm.trans hE)
      cases Option.some.inj (q2.symm.trans hk)
      exact Or.inr ⟨q3, ih _ rfl ht⟩
section TCA
variable {e : Env} {f : JFrame} {a : Addr} {cell : Cell}
theorem tc_row {S : State} {x : ExceptionTableEntry} {t : List ExceptionTableEntry} {k : ClassId} {Q : Handler → Pre} {E : CtlPost} {d : Bool} {acts : List Action} (hx : covers x f.pc = true) (h0 : x.catchType ≠ 0)
    (hl : S.vm.ClassLinks e.platform f.method.cls x.catchType k) (hcell : S.heap[a]? = some cell) (hobj : ∀ z, cell.vm ≠ .statics z) (hk : ∃ z, S.vm.classes[cell.cls]? = some z) (hc : ∃ z, S.vm.classes[k]? = some z) :
    wp (findHandler.go f a (x :: t)) Q E e d acts S ↔ if S.vm.assignable cell.cls k = true then Q (.found x.handlerPc) d acts (S.setVm (S.vm.noted f.method.cls x.catchType (.cls k))) else wp (findHandler.go f a t) Q E e d acts (S.setVm (S.vm.noted f.method.cls x.catchType (.cls k))) := by
  have hal : S.vm.Alike (S.vm.noted f.method.cls x.catchType (.cls k)) := (Vm.Alike.refl S.vm).noted _ _ _
  obtain ⟨z1, hz1⟩ := hk
  obtain ⟨z2, hz2⟩ := hc
  obtain ⟨y1, hy1, -⟩ := hal.2.2 _ _ hz1
  obtain ⟨y2, hy2, -⟩ := hal.2.2 _ _ hz2
  obtain ⟨ha, ht⟩ := (resolveClass_links e.toSetting hl).op (op := VmOp.resolveClass f.method.cls x.catchType) rfl
  simp only [covers] at hx
  cases hfit : S.vm.assignable cell.cls k
  · have hf9 : (S.vm.noted f.method.cls x.catchType (.cls k)).assignable cell.cls k = false := by rw [hal.assignable]; exact hfit
    simp [findHandler.go, hx, h0, ha, ht, hcell, hobj, hy1, hy2, hf9, VmOp.dirties, VmOp.acts]
  · have hf9 : (S.vm.noted f.method.cls x.catchType (.cls k)).assignable cell.cls k = true := by rw [hal.assignable]; exact hfit
    simp [findHandler.go, hx, h0, ha, ht, hcell, hobj, hy1, hy2, hf9, VmOp.dirties, VmOp.acts]
theorem tc_go {s0 : State} {h : Nat} (hobj : ∀ z, cell.vm ≠ .statics z) (hk0 : ∃ z, s0.vm.classes[cell.cls]? = some z) : ∀ (L : List ExceptionTableEntry) (S : State), s0.WarmedH S.vm → S.heap[a]? = some cell → tc_T s0 e.platform f.method.cls f.pc cell.cls L h →
    ∃ vm', s0.WarmedH vm' ∧ ∀ (Q : Handler → Pre) (E : CtlPost) (d : Bool) (acts : List Action), wp (findHandler.go f a L) Q E e d acts S ↔ Q (.found h) d acts (S.setVm vm') := by
  obtain ⟨z0, hz0⟩ := hk0
  intro L
  induction L with
  | nil => intro S _ _ hq; exact hq.elim
  | cons x t ih =>
    intro S hW hcell hq
    obtain ⟨hx, h0, k, hl, hr⟩ := hq
    obtain ⟨dk, _, _, kt, hd, _, _, _, _, hkt, _, hopen⟩ := hl.here
    have hWn := hW.noted hd hopen (State.rightAt_cls hl)
    obtain ⟨y1, hy1, -⟩ := hW.alike.2.2 _ _ hz0
    obtain ⟨y2, hy2, -⟩ := hW.alike.2.2 _ _ hkt
    rcases hr with ⟨hfit, rfl⟩ | ⟨hno, ht⟩
    · refine ⟨_, hWn, fun Q E d acts => ?_⟩
      rw [tc_row hx h0 (hW.classLinks hl) hcell hobj ⟨y1, hy1⟩ ⟨y2, hy2⟩, if_pos (by rw [hW.alike.assignable]; exact hfit)]
    · obtain ⟨vm', hW', hq⟩ := ih (S.setVm (S.vm.noted f.method.cls x.catchType (.cls k))) hWn hcell ht
      refine ⟨vm', hW', fun Q E d acts => ?_⟩
      rw [tc_row hx h0 (hW.classLinks hl) hcell hobj ⟨y1, hy1⟩ ⟨y2, hy2⟩, if_neg (by rw [hW.alike.assignable, hno]; decide)]
      exact hq Q E d acts
end TCA
theorem tc_step {tb : Tables} {e : Env} {T target : State} {g : JFrame} {c : Code} {below : List Frame} {a : Addr} {pc : Nat} {vm' : Vm} (h : At T g.method c below)
    (hfind : ∀ (Q : Handler → Pre) (E : CtlPost) (d : Bool) (acts : List Action), wp (findHandler g a) Q E e d acts ((T.setTop g).pushFrame (.throwing a)) ↔ Q (.found pc) d acts (((T.setTop g).pushFrame (.throwing a)).setVm vm'))
    (hrest : Steps tb e below ((T.setVm vm').setTop { g with pc := pc, stack := [.ref a] }) target) : Steps tb e below ((T.setTop g).pushFrame (.throwing a)) target := by
  obtain ⟨hgo, hw⟩ := h.throwing a
  have hstep : ∀ r, (stepThrowing e ((T.setTop g).pushFrame (.throwing a)) a (.java g :: r)).Is ((((T.setTop g).pushFrame (.throwing a)).setVm vm').setFrames (.java { g with pc := pc, stack := [.ref a] } :: r)) [] := by
    intro r
    simp only [stepThrowing, searchFrame, vmDo]
    generalize hr : Sem.go _ e false [] _ = res
    obtain ⟨as, rfl, ha⟩ := Sem.eq_ok_of hr (a := Handler.found pc) (s' := ((T.setTop g).pushFrame (.throwing a)).setVm vm') (acts' := []) (by simp [hfind _ _ _ _])
    exact ⟨rfl, ha⟩
  refine Steps.head hgo hw ?_
  rw [stepThread_throwing (frames_entered h.top _), (hstep _).1]
  obtain ⟨g₀, hg⟩ := Option.isSome_iff_exists.mp h.top
  obtain ⟨r, hr⟩ := State.topJava?_eq_some.mp hg
  have hr' : (T.setVm vm').frames = .java g₀ :: r := hr
  rw [State.setTop_of_frames _ hr'] at hrest
  have e1 : ((T.setTop g).pushFrame (.throwing a)).setVm vm' = (T.setVm vm').setFrames (.throwing a :: .java g :: r) := by
    rw [State.pushFrame, State.frames_setTop' g h.top, State.setTop_of_frames _ hr, State.setFrames_setFrames, hr]
    rfl
  rw [e1, State.setFrames_setFrames, hr]
  exact hrest
section TCB
variable {p : Program} {l : Launch} {e : Env} {R : Room} {s : State} {m : MethodId} {args : Array Value} {below : List Frame} {meth : Method} {c : Code} {T U : State} {locs : List Loc} {cells slots : Nat}
variable {y : MethodName} {bytes cc : ByteArray} {maxL nL mc ms n index fr lo len W9 : Nat} {ret : Option FieldType} {own : String} {b : Addr} {As rest st0 av : List Value} {pc : Nat} {ls : Array Slot} {γ : gE} {PS : State → Prop} {A A0 : Nat → Prop} {H H0 : Heap} {Qc : Array Value → State → Outcome → State → Prop} {XC : String → Heap → Prop} {Q : State → Prop}
theorem tc_catch (X : Stand p l e R s m args below meth c T locs cells slots) {g : JFrame} (hg : g.method = m) {E : String} {ce : Cell} {q : Addr} {h : Nat} {hh : List (Nat × Nat × Nat × Nat)} (hown : s.vm.findClass own = some m.cls) (hcell : T.heap[q]? = some ce) (hv : ce.vm = .none) (hcl : s.vm.findClass E = some ce.cls)
    (htab : c.exceptionTable.toList.map (fun h => (h.startPc, h.endPc, h.handlerPc, h.catchType)) = hh) (hH : tc_H own E s args g.pc hh h) :
    ∃ vm', Stand p l e R s m args below meth c (T.setVm vm') locs cells slots ∧ ∀ target, Steps p.tables e below ((T.setVm vm').setTop { g with pc := h, stack := [.ref q] }) target → Steps p.tables e below ((T.setTop g).pushFrame (.throwing q)) target := by
  have hpl : e.platform.magicAccessors = ({} : Platform).magicAccessors := by rw [X.admits.platform]
  have hT := tc_of hpl hown hcl _ _ htab hH
  subst hg
  obtain ⟨k9, h9, -⟩ := Vm.findClass_spec hcl
  have hobj : ∀ z, ce.vm ≠ .statics z := VmData.ne_statics_of (by rw [hv]; rfl)
  have hSv : ((T.setTop g).pushFrame (.throwing q)).vm = T.vm := Stand.throwing_vm T g q
  have hSh : ((T.setTop g).pushFrame (.throwing q)).heap = T.heap := Stand.throwing_heap T g q
  obtain ⟨vm', hW', hq⟩ := tc_go (e := e) (f := g) (a := q) (s0 := s) (h := h) hobj ⟨k9, h9⟩ c.exceptionTable.toList ((T.setTop g).pushFrame (.throwing q)) (by rw [hSv]; exact X.warmed) (by rw [hSh]; exact hcell) hT
  refine ⟨vm', X.noted hW', fun target hr => ?_⟩
  refine tc_step X.here (vm' := vm') (fun Q E d acts => ?_) hr
  rw [W.findHandler_eq (meth := meth) (code := c) (by rw [hSv]; exact X.method') X.code]
  exact hq Q E d acts
/-- the callee's end, seen from the caller's frame -/
theorem tc_come {mk : MethodId} {a : Array Value} {g : JFrame} {ig : Instr} (X : Stand p l e R s m args below meth c U locs cells slots) (hg : g.method = m) (hsize : g.locals.size = c.maxLocals) (hdg : decode c.code g.pc = .ok (ig, len))
    (hw9 : 2 * g.monitorRoom + (g.stack.map fun v => v.category).sum ≤ 8) (hn : U.methodNamed? y = some mk) {Pc : Array Value → State → Prop}
    (hM : MetFree l y (headSpec (Cond.code y bytes maxL ret :: bs_W0) (bs_rm fr mc ms lo)) Pc (fun _ _ _ _ _ => True) (tx_Q Qc XC mc ms A)) (hbl : FrameBlind Pc) (hP : Pc a U)
    (hws : ∀ w ∈ Cond.code y bytes maxL ret :: bs_W0, w.before a U = true) (hini : (Cond.initialized y.cls).before a U = true) (hR : fr + 1 ≤ R.frames ∧ 8 + (maxL + 11) + lo ≤ R.locals) (hf : cells + mc ≤ R.cells ∧ slots + ms ≤ R.slots) :
    (∃ (v : Option Value) (st t T' : State) (L : List Loc), st.heap = U.heap ∧ Stand p l e R s m args below meth c T' (locs ++ L) (cells + mc) (slots + ms) ∧ (∀ z ∈ L, A z.base) ∧ T'.heap = t.heap ∧ Qc a st (.returned v) t ∧
      Steps p.tables e below (doInvoke e (U.setTop g) [] mk a).1 (T'.setTop { g with pc := g.pc + len, stack := v.toList ++ g.stack })) ∨
    ∃ (q : Addr) (E : String) (ce : Cell) (T' : State) (L : List Loc), Stand p l e R s m args below meth c T' (locs ++ L) (cells + mc) (slots + ms) ∧ (∀ z ∈ L, A z.base) ∧ XC E T'.heap ∧ T'.heap[q]? = some ce ∧ ce.vm = .none ∧ s.vm.findClass E = some ce.cls ∧
      Steps p.tables e below (doInvoke e (U.setTop g) [] mk a).1 ((T'.setTop g).pushFrame (.throwing q)) := by
  have h : At U g.method c below := by rw [hg]; exact X.here
  obtain ⟨methY, cY, hmY, hcY, -, hlY, -⟩ := Cond.code_spec hn (hws _ List.mem_cons_self)
  obtain ⟨kY, hkY, -⟩ := className_of_methodNamed hn
  have hiY : kY.init = .initialized := Cond.initialized_spec (findClass_of_methodNamed hn) hkY hini
  have happ : (headSpec (Cond.code y bytes maxL ret :: bs_W0) (bs_rm fr mc ms lo)).appliesLoose y e.platform (U.calling g mk a) = true :=
    Spec.appliesLoose_calling (g := g) h hdg hn hkY hiY (X.room_calling (g := g) (R' := bs_rm fr mc ms lo) hsize hmY hcY hR.1 (by rw [hlY]; show _ + _ + lo ≤ _; omega) hf.1 hf.2) (atoms_intro hws)
  obtain ⟨mid, hmid⟩ := h.above
  have hfr : (U.setTop g).frames = (.java g :: mid) ++ below := by rw [State.frames_setTop' g h.top, hmid]; rfl
  obtain ⟨o, z, hsteps, -, hend, hq⟩ := Steps.callFree hM p X.admits X.cas X.clock (acts := []) hfr happ (hbl _ _ _ _ hP) trivial
  rw [State.frames_setTop' g h.top] at hend
  obtain ⟨g₀, hg0⟩ := Option.isSome_iff_exists.mp h.top
  obtain ⟨r, hr⟩ := State.topJava?_eq_some.mp hg0
  obtain ⟨t9, ht9, -⟩ := State.frames_cons hr
  have hr' : (({ U with heap := z.heap, slotsUsed := z.slotsUsed } : State).setVm z.vm).frames = .java g₀ :: r := hr
  -- what both ends share: the state is the caller's, with the callee's heap, tables and frames
  have both : ∀ L : List Loc, (U.calling g mk a).WarmedH z.vm → (U.calling g mk a).sameButNew ({ z with vm := (U.calling g mk a).vm } : State) L mc ms →
      z = (({ U with heap := z.heap, slotsUsed := z.slotsUsed } : State).setVm z.vm).setFrames z.frames ∧ Stand p l e R s m args below meth c (({ U with heap := z.heap, slotsUsed := z.slotsUsed } : State).setVm z.vm) (locs ++ L) (cells + mc) (slots + ms) := by
    intro L hWz hsz
    obtain ⟨e2, q2, q3, q4, q5, q6⟩ := hsz
    have hWU : U.WarmedH z.vm := hWz
    have e3 : z = ({ (U.calling g mk a).setFrames z.frames with heap := z.heap, slotsUsed := z.slotsUsed } : State).setVm z.vm := by
      have e4 : z = ({ z with vm := (U.calling g mk a).vm } : State).setVm z.vm := rfl
      rw [e2] at e4
      exact e4
    have hsame : U.sameButNew ({ U with heap := z.heap, slotsUsed := z.slotsUsed } : State) L mc ms := by
      refine ⟨?_, q2, q3, q4, q5, q6⟩
      show ({ U with heap := z.heap, slotsUsed := z.slotsUsed } : State) = { U.setFrames U.frames with heap := z.heap, slotsUsed := z.slotsUsed }
      rw [State.setFrames_self ht9]
    refine ⟨?_, ⟨X.admits, X.cas, X.clock, X.frames, X.room, X.hears, X.method, X.code, (X.here.setHeapUsed z.heap z.slotsUsed).setVm hWU.alike, X.tail, State.WarmedH.trans X.warmed hWU, X.limits, X.bytes, X.same.trans (hsame.setVm s.vm)⟩⟩
    refine e3.trans ?_
    rw [State.calling_eq h.top, State.setFrames_setFrames]
    rfl
  rcases hq with ⟨hqc, L, hfe, hL⟩ | ⟨q, E, ce, L, rfl, hx, hce, hcv, hcl, hWz, hsz, hL⟩
  · obtain ⟨⟨v, rfl⟩, hWz, hsz⟩ := id hfe
    obtain ⟨ez, XZ⟩ := both L hWz hsz
    obtain ⟨c₂, i₂, len₂, hc₂, hd₂, hf₂⟩ := hend
    have hcc : c₂ = c := by
      have h1 : z.code? g.method = U.code? g.method := by
        rw [State.code?_eq, State.code?_eq, (show U.WarmedH z.vm from hWz).alike.method?]
      exact Option.some.inj (hc₂.symm.trans (h1.trans h.code))
    subst hcc
    have hlen : len₂ = len := by rw [hdg] at hd₂; cases hd₂; rfl
    subst hlen
    refine Or.inl ⟨v, U.calling g mk a, z, _, L, rfl, XZ, hL, rfl, hqc, ?_⟩
    rw [State.setTop_of_frames _ hr']
    have e5 : z = (({ U with heap := z.heap, slotsUsed := z.slotsUsed } : State).setVm z.vm).setFrames (.java { g with pc := g.pc + len₂, stack := v.toList ++ g.stack } :: r) := by
      refine ez.trans ?_
      rw [hf₂, hr]
      rfl
    rw [← e5]
    exact hsteps
  · obtain ⟨ez, XZ⟩ := both L hWz hsz
    have hf₂ : z.frames = .throwing q :: .java g :: U.frames.tail := hend
    have hcl9 : s.vm.findClass E = some ce.cls := by
      have h1 : U.vm.findClass E = some ce.cls := hcl
      rw [X.warmed.alike.findClass] at h1
      exact h1
    refine Or.inr ⟨q, E, ce, _, L, XZ, hL, hx, hce, hcv, hcl9, ?_⟩
    have e5 : z = ((({ U with heap := z.heap, slotsUsed := z.slotsUsed } : State).setVm z.vm).setTop g).pushFrame (.throwing q) := by
      refine ez.trans ?_
      rw [hf₂, State.pushFrame, State.frames_setTop' g (by rw [Option.isSome_iff_exists]; exact ⟨g₀, hg0⟩), State.setTop_of_frames _ hr', State.setFrames_setFrames]
      rfl
    rw [← e5]
    exact hsteps
end TCB
-- CALLS of methods that return or throw; calls of methods with a table
section TXC
variable {p : Program} {l : Launch} {e : Env} {R : Room} {s : State} {m : MethodId} {args : Array Value} {below : List Frame} {meth : Method} {c : Code} {locs : List Loc} {cells slots : Nat}
variable {y : MethodName} {bytes cc : ByteArray} {maxL nL mc ms n index fr lo : Nat} {ret : Option FieldType} {own : String} {b : Addr} {As rest st0 av : List Value} {pc : Nat} {ls : Array Slot} {γ : gE} {PS : State → Prop} {A A0 : Nat → Prop} {H H0 : Heap} {XC : String → Heap → Prop} {Q : State → Prop} {hh : List (Nat × Nat × Nat × Nat)}
theorem tx_call {PO : Int32 → Heap → Prop} (S : bs_F p s m args c cc nL own) (hC : CX γ s) (htab : c.exceptionTable.toList.map (fun h => (h.startPc, h.endPc, h.handlerPc, h.catchType)) = hh) (hA : ∀ q, H.size ≤ q → A q) (hAA : ∀ q, A q → A0 q) (hS : va_S A0 H0 H locs)
    (hM : XM l y bytes maxL ret fr lo mc ms (.ref b :: As) γ A PS (mQi PO A) XC) (hbl : ∀ u U : State, u.vm = U.vm → u.heap = U.heap → PS u → PS U) (me : bs_Mi y bytes maxL ret n) (lk : Cond.methodLink own index y ∈ bs_W0) (hR : fr + 1 ≤ R.frames ∧ 8 + (maxL + 11) + lo ≤ R.locals)
    (hrv : ∃ cellB : Cell, H[b]? = some cellB ∧ cellB.vm.isStatics = false ∧ s.vm.findClass y.cls = some cellB.cls) (hPS : ∀ U : State, U.heap = H → s.WarmedH U.vm → PS U) (hn : As.length = n) (hsz : ls.size = nL) (hst : st0 = As.reverse ++ .ref b :: rest) (hrm : (rest.map fun v => v.category).sum ≤ 8) (hdg : decode cc pc = .ok (.invokevirtual index, 3)) (hf : cells + mc ≤ R.cells ∧ slots + ms ≤ R.slots)
    (hXC : ∀ (E : String) (H1 : Heap), XC E H1 → H.size ≤ H1.size ∧ ∀ q : Nat, q < H.size → ¬ A q → H1[q]? = H[q]?)
    (kk : ∀ (r : Int32) (H1 : Heap) (locs1 : List Loc), PO r H1 → va_S A0 H0 H1 locs1 → H.size ≤ H1.size → (∀ q : Nat, q < H.size → ¬ A q → H1[q]? = H[q]?) → W p l e R s m args below meth c H1 locs1 (cells + mc) (slots + ms) Q (F0 m (pc + 3) ls (.int r :: rest)))
    (kx : ∀ (E : String) (q : Addr) (H1 : Heap) (locs1 : List Loc), XC E H1 → va_S A0 H0 H1 locs1 → ∃ h, tc_H own E s args pc hh h ∧ W p l e R s m args below meth c H1 locs1 (cells + mc) (slots + ms) Q (F0 m h ls [.ref q])) : W p l e R s m args below meth c H locs cells slots Q (F0 m pc ls st0) := by
  intro T hT X
  obtain ⟨hx, hb, hml, hown, hW⟩ := S
  subst hb
  obtain ⟨m1, m2, m3, m4, hMH, hVH, hds⟩ := me
  obtain ⟨cellB, hcB, hoB, hclB⟩ := hrv
  have hy : y.cls ≠ "java/lang/invoke/MethodHandle" ∧ y.cls ≠ "java/lang/invoke/VarHandle" := ⟨hMH, hVH⟩
  obtain ⟨mk, methM, hnamed, hmethM, hstM, habM⟩ := Cond.instanceMethod_spec (hW _ m1)
  obtain ⟨methN, cM, hmethN, -, -, -, -, -, -, hsigM⟩ := Cond.code_spec hnamed (hW _ m4)
  cases hmethM.symm.trans hmethN
  obtain ⟨c2, r2, m9, q1, q2, q3, q4, kP, hkP, hkPi⟩ := Cond.selects_spec (hW _ m2)
  cases hclB.symm.trans q1
  cases (State.methodFound?_of_named hnamed hy).symm.trans q2
  cases hnamed.symm.trans q3
  have hsel : selectMethod e.platform s.vm cellB.cls mk = .method mk := by rw [Launch.admits_selectMethod X.admits]; exact q4
  have hlen : As.length = methM.sig.parameters.length := by
    rw [hsigM] at hds
    exact hn.trans (Option.some.inj hds).symm
  obtain ⟨vm₁, X₁, hstep⟩ := X.invokevirtual hx hown (hW _ lk) hnamed hmethM hstM hkP hkPi hy (a := b) (cell := cellB) (by rw [hT]; exact hcB) (fun z h => by rw [h] at hoB; cases hoB) hsel hmethM habM hkP hkPi (g := F0 m pc ls st0) rfl (argsL := As) (rest := rest) hlen hst hdg
  have hcome := tc_come (g := F0 m pc ls rest) (a := (Value.ref b :: As).toArray) (mk := mk) X₁ rfl (hsz.trans hml.symm) hdg (by simpa using hrm) (X₁.named hnamed) hM (tx_blind hbl) ⟨rfl, hC.warm X₁.warmed, fun q hq => hA q (by rw [← hT]; exact hq), hPS _ hT X₁.warmed⟩
    (fun w hw => by
      rcases List.mem_cons.mp hw with rfl | hw
      · exact word_at X₁.warmed (good_of_word (List.mem_filter.mp m4).2) (hW _ m4)
      · exact word_at X₁.warmed (good_of_word (List.mem_filter.mp hw).2) (hW _ hw))
    (word_at X₁.warmed (good_of_word (List.mem_filter.mp m3).2) (hW _ m3)) hR hf
  rcases hcome with ⟨v, st, t, T', L, e1, X', hL, e2, ⟨⟨r, u, hv, hr, hB⟩, hz, hk⟩, hsteps⟩ | ⟨q, E, ce, T', L, X', hL, hxc, hce, hcv, hcl, hsteps⟩
  · cases hv
    subst hr
    have hz1 : H.size ≤ T'.heap.size := by rw [e2]; rw [e1] at hz; rw [← hT]; exact hz
    have hk1 : ∀ q : Nat, q < H.size → ¬ A q → T'.heap[q]? = H[q]? := by
      intro q h1 h2
      rw [e2, ← hT]
      rw [e1] at hk
      exact hk q (by rw [← hT] at h1; exact h1) h2
    have hS1 : va_S A0 H0 T'.heap (locs ++ L) := ⟨Nat.le_trans hS.1 hz1, fun q h1 h2 => (hk1 q (Nat.lt_of_lt_of_le h1 hS.1) (fun h9 => h2 (hAA q h9))).trans (hS.2.1 q h1 h2), fun z hz => (List.mem_append.mp hz).elim (hS.2.2 z) (fun h => hAA _ (hL z h))⟩
    obtain ⟨t2, a1, b1⟩ := kk u T'.heap (locs ++ L) (by rw [e2]; exact hB) hS1 hz1 hk1 T' rfl X'
    exact ⟨t2, hstep _ fun acts => by rw [doInvoke_state]; exact hsteps.trans a1, b1⟩
  · obtain ⟨hz1, hk1⟩ := hXC E _ hxc
    have hS1 : va_S A0 H0 T'.heap (locs ++ L) := ⟨Nat.le_trans hS.1 hz1, fun q h1 h2 => (hk1 q (Nat.lt_of_lt_of_le h1 hS.1) (fun h9 => h2 (hAA q h9))).trans (hS.2.1 q h1 h2), fun z hz => (List.mem_append.mp hz).elim (hS.2.2 z) (fun h => hAA _ (hL z h))⟩
    obtain ⟨h, hH, hgo⟩ := kx E q T'.heap (locs ++ L) hxc hS1
    obtain ⟨vm', XV, stV⟩ := tc_catch X' (g := F0 m pc ls rest) rfl hown hce hcv hcl htab hH
    obtain ⟨t2, a1, b1⟩ := hgo (T'.setVm vm') rfl XV
    exact ⟨t2, hstep _ fun acts => by rw [doInvoke_state]; exact hsteps.trans (stV _ a1), b1⟩
end TXC
-- what a throw's words are; the potential of lengths
def sw_k : Cond → Bool
  | .castable .. => true
  | .declares .. => true
  | .laysStatic .. => true
  | _ => false
def SW (s0 : State) : Prop := (∀ w ∈ lw_tbl, sw_k w = true → va_Nw w s0) ∧ va_Zq Bundle.tN "UNASSIGNED_STACK" Bundle.steD (fun q => s0.heap.size ≤ q) s0 s0.heap ∧ va_Zq Bundle.tN "SUPPRESSED_SENTINEL" Bundle.listD (fun q => s0.heap.size ≤ q) s0 s0.heap ∧
  (∀ (own : String) (k : Nat) (tx : String), Cond.stringRef own k tx ∈ lw_tbl → ∃ a, vk_R own k tx a s0) ∧
  (∃ (t : Nat) (f : Nat → Value), va_Z "TypeBook$Names" "FIRST_SORTS" "[I" (.ref t) (fun q => s0.heap.size ≤ q) s0 s0.heap ∧ va_T .int t 12 f (fun q => s0.heap.size ≤ q) s0 s0.heap ∧ ∀ j, ∃ x : Int32, f j = .int x) ∧
  (∃ (t : Nat) (f : Nat → Value), va_Z "TypeBook$Names" "FIRST_NUMBERS" "[I" (.ref t) (fun q => s0.heap.size ≤ q) s0 s0.heap ∧ va_T .int t 12 f (fun q => s0.heap.size ≤ q) s0 s0.heap ∧ ∀ j, ∃ x : Int32, f j = .int x)
theorem sw_cast {s0 U : State} {C D : String} {args : Array Value} (h0 : SW s0) (hF : s0.WarmedH U.vm) (hm : Cond.castable C D ∈ lw_tbl) : (Cond.castable C D).before args U = true := va_Nw.use rfl (va_Nw.warmC hF (h0.1 _ hm rfl))
theorem sw_decl {s0 U : State} {x : MethodName} {args : Array Value} (h0 : SW s0) (hF : s0.WarmedH U.vm) (hm : Cond.declares x ∈ lw_tbl) : (Cond.declares x).before args U = true :=
  va_tabs (A := #[]) (u := s0.setVm U.vm) (U := U) rfl rfl (by rw [Cond.declares_setVm hF.alike]; exact h0.1 _ hm rfl)
theorem ta_IAE {s s0 : State} {args : Array Value} (hW : ∀ w ∈ bs_W0, w.before args s = true) (h0 : SW s0) : ∀ U : State, FB s0 U U.heap → U.vm = s.vm → ∀ w ∈ Bundle.ownAtoms R_TypeBook 64 "java/lang/IllegalArgumentException" ["java/lang/RuntimeException", "java/lang/Exception"], w.before args U = true := by
  intro U hF hv
  have hWu : s.WarmedH U.vm := by rw [hv]; exact State.WarmedH.refl s
  have hg : ∀ w ∈ bs_W0, w.before args U = true := fun w h => word_at hWu (good_of_word (List.mem_filter.mp h).2) (hW w h)
  exact fw_c (hg _ (bs_in (in_tables_1_1 (List.mem_of_getElem? (i := 15) rfl)) rfl)) (fw_c (hg _ (bs_in (in_tables_1_2 (List.mem_of_getElem? (i := 117) rfl)) rfl)) (fw_c (hg _ (bs_in (in_tables_1_2 (List.mem_of_getElem? (i := 126) rfl)) rfl)) (fw_c (hg _ (bs_in (in_tables_1_2 (List.mem_of_getElem? (i := 130) rfl)) rfl)) (fw_c (hg _ (bs_in (in_tables_1_2 (List.mem_of_getElem? (i := 133) rfl)) rfl)) (fw_c (hg _ (bs_in (in_tables_1_2 (List.mem_of_getElem? (i := 135) rfl)) rfl)) (fw_c (hg _ (bs_in (in_tables_1_2 (List.mem_of_getElem? (i := 118) rfl)) rfl)) (fw_c (hg _ (bs_in (in_tables_1_2 (List.mem_of_getElem? (i := 119) rfl)) rfl)) (fw_c (hg _ (bs_in (in_tables_1_1 (List.mem_of_getElem? (i := 30) rfl)) rfl)) (fw_c (hg _ (bs_in (in_tables_1_1 (List.mem_of_getElem? (i := 31) rfl)) rfl)) (fw_c (hg _ (bs_in (in_tables_1_2 (List.mem_of_getElem? (i := 120) rfl)) rfl)) (fw_c (hg _ (bs_in (in_tables_1_2 (List.mem_of_getElem? (i := 125) rfl)) rfl)) (fw_c (hg _ (bs_in (in_tables_1_2 (List.mem_of_getElem? (i := 131) rfl)) rfl)) (fw_c (hg _ (bs_in (in_tables_1_2 (List.mem_of_getElem? (i := 151) rfl)) rfl)) (fw_c (hg _ (bs_in (in_tables_1_2 (List.mem_of_getElem? (i := 107) rfl)) rfl)) (fw_c (hg _ (bs_in (in_tables_1_2 (List.mem_of_getElem? (i := 152) rfl)) rfl)) (fw_c (hg _ (bs_in (in_tables_1_2 (List.mem_of_getElem? (i := 109) rfl)) rfl)) (fw_c (hg _ (bs_in (in_tables_1_2 (List.mem_of_getElem? (i := 153) rfl)) rfl)) (fw_c (hg _ (bs_in (in_tables_1_2 (List.mem_of_getElem? (i := 111) rfl)) rfl)) (fw_c (hg _ (bs_in (in_tables_1_2 (List.mem_of_getElem? (i := 121) rfl)) rfl)) (fw_c (fb_lays hF (h0.1 _ (in_tables_1_2 (List.mem_of_getElem? (i := 122) rfl)) rfl)) (fw_c (hg _ (bs_in (in_tables_1_2 (List.mem_of_getElem? (i := 123) rfl)) rfl)) (fw_c (fb_lays hF (h0.1 _ (in_tables_1_2 (List.mem_of_getElem? (i := 124) rfl)) rfl)) (fw_c (hg _ (bs_in (in_tables_1_2 (List.mem_of_getElem? (i := 113) rfl)) rfl)) (fw_c (hg _ (bs_in (in_tables_1_2 (List.mem_of_getElem? (i := 147) rfl)) rfl)) (fw_c (hg _ (bs_in (in_tables_1_2 (List.mem_of_getElem? (i := 148) rfl)) rfl)) (fw_c (hg _ (bs_in (in_tables_1_2 (List.mem_of_getElem? (i := 150) rfl)) rfl)) (fw_c (hg _ (bs_in (in_tables_1_2 (List.mem_of_getElem? (i := 113) rfl)) rfl)) (fw_c (hg _ (bs_in (in_tables_1_2 (List.mem_of_getElem? (i := 138) rfl)) rfl)) (fw_c (hg _ (bs_in (in_tables_1_2 (List.mem_of_getElem? (i := 139) rfl)) rfl)) (fw_c (hg _ (bs_in (in_tables_1_2 (List.mem_of_getElem? (i := 140) rfl)) rfl)) (fw_c (hg _ (bs_in (in_tables_1_2 (List.mem_of_getElem? (i := 141) rfl)) rfl)) (fw_c (sw_decl h0 hF.1 (in_tables_1_2 (List.mem_of_getElem? (i := 99) rfl))) (fw_c (hg _ (bs_in (in_tables_1_2 (List.mem_of_getElem? (i := 141) rfl)) rfl)) (fw_c (hg _ (bs_in (in_tables_1_2 (List.mem_of_getElem? (i := 142) rfl)) rfl)) (fw_c (hg _ (bs_in (in_tables_1_2 (List.mem_of_getElem? (i := 143) rfl)) rfl)) (fw_c (hg _ (bs_in (in_tables_1_2 (List.mem_of_getElem? (i := 144) rfl)) rfl)) (fw_c (sw_decl h0 hF.1 (in_tables_1_2 (List.mem_of_getElem? (i := 101) rfl))) (fw_c (hg _ (bs_in (in_tables_1_2 (List.mem_of_getElem? (i := 144) rfl)) rfl)) (fw_c (hg _ (bs_in (in_tables_1_2 (List.mem_of_getElem? (i := 145) rfl)) rfl)) (fw_c (hg _ (bs_in (in_tables_1_2 (List.mem_of_getElem? (i := 146) rfl)) rfl)) (fw_c (hg _ (bs_in (in_tables_1_2 (List.mem_of_getElem? (i := 147) rfl)) rfl)) (fw_c (sw_decl h0 hF.1 (in_tables_1_2 (List.mem_of_getElem? (i := 103) rfl))) (fw_c (hg _ (bs_in (in_tables_1_2 (List.mem_of_getElem? (i := 137) rfl)) rfl)) (fw_c (hg _ (bs_in (in_tables_1_2 (List.mem_of_getElem? (i := 96) rfl)) rfl)) (fw_c (sw_cast h0 hF.1 (in_tables_1_2 (List.mem_of_getElem? (i := 97) rfl))) (fw_c (hg _ (bs_in (in_tables_1_2 (List.mem_of_getElem? (i := 104) rfl)) rfl)) (fw_c (hg _ (bs_in (in_tables_1_2 (List.mem_of_getElem? (i := 105) rfl)) rfl)) (fw_c (hg _ (bs_in (in_tables_1_2 (List.mem_of_getElem? (i := 106) rfl)) rfl)) (fw_c (hg _ (bs_in (in_tables_1_2 (List.mem_of_getElem? (i := 108) rfl)) rfl)) (fw_c (hg _ (bs_in (in_tables_1_2 (List.mem_of_getElem? (i := 110) rfl)) rfl)) (fw_c (hg _ (bs_in (in_tables_1_2 (List.mem_of_getElem? (i := 112) rfl)) rfl)) (fw_c (fb_isRef hF h0.2.1) (fw_c (fb_isRef hF h0.2.2.1) (fw_c (hg _ (bs_in (in_tables_1_2 (List.mem_of_getElem? (i := 116) rfl)) rfl)) (fw_c (hg _ (bs_in (in_tables_1_2 (List.mem_of_getElem? (i := 115) rfl)) rfl)) (fw_c (hg _ (bs_in (in_tables_1_2 (List.mem_of_getElem? (i := 114) rfl)) rfl)) (fw_n)))))))))))))))))))))))))))))))))))))))))))))))))))))))))
theorem ta_ISE {s s0 : State} {args : Array Value} (hW : ∀ w ∈ bs_W0, w.before args s = true) (h0 : SW s0) : ∀ U : State, FB s0 U U.heap → U.vm = s.vm → ∀ w ∈ Bundle.ownAtoms R_TypeBook 83 "java/lang/IllegalStateException" ["java/lang/RuntimeException", "java/lang/Exception"], w.before args U = true := by
  intro U hF hv
  have hWu : s.WarmedH U.vm := by rw [hv]; exact State.WarmedH.refl s
  have hg : ∀ w ∈ bs_W0, w.before args U = true := fun w h => word_at hWu (good_of_word (List.mem_filter.mp h).2) (hW w h)
  exact fw_c (hg _ (bs_in (in_tables_1_1 (List.mem_of_getElem? (i := 15) rfl)) rfl)) (fw_c (hg _ (bs_in (in_tables_1_2 (List.mem_of_getElem? (i := 117) rfl)) rfl)) (fw_c (hg _ (bs_in (in_tables_1_2 (List.mem_of_getElem? (i := 126) rfl)) rfl)) (fw_c (hg _ (bs_in (in_tables_1_2 (List.mem_of_getElem? (i := 130) rfl)) rfl)) (fw_c (hg _ (bs_in (in_tables_1_2 (List.mem_of_getElem? (i := 133) rfl)) rfl)) (fw_c (hg _ (bs_in (in_tables_1_2 (List.mem_of_getElem? (i := 135) rfl)) rfl)) (fw_c (hg _ (bs_in (in_tables_1_2 (List.mem_of_getElem? (i := 118) rfl)) rfl)) (fw_c (hg _ (bs_in (in_tables_1_2 (List.mem_of_getElem? (i := 119) rfl)) rfl)) (fw_c (hg _ (bs_in (in_tables_1_1 (List.mem_of_getElem? (i := 30) rfl)) rfl)) (fw_c (hg _ (bs_in (in_tables_1_1 (List.mem_of_getElem? (i := 31) rfl)) rfl)) (fw_c (hg _ (bs_in (in_tables_1_2 (List.mem_of_getElem? (i := 120) rfl)) rfl)) (fw_c (hg _ (bs_in (in_tables_1_2 (List.mem_of_getElem? (i := 125) rfl)) rfl)) (fw_c (hg _ (bs_in (in_tables_1_2 (List.mem_of_getElem? (i := 131) rfl)) rfl)) (fw_c (hg _ (bs_in (in_tables_1_2 (List.mem_of_getElem? (i := 151) rfl)) rfl)) (fw_c (hg _ (bs_in (in_tables_1_2 (List.mem_of_getElem? (i := 107) rfl)) rfl)) (fw_c (hg _ (bs_in (in_tables_1_2 (List.mem_of_getElem? (i := 152) rfl)) rfl)) (fw_c (hg _ (bs_in (in_tables_1_2 (List.mem_of_getElem? (i := 109) rfl)) rfl)) (fw_c (hg _ (bs_in (in_tables_1_2 (List.mem_of_getElem? (i := 153) rfl)) rfl)) (fw_c (hg _ (bs_in (in_tables_1_2 (List.mem_of_getElem? (i := 111) rfl)) rfl)) (fw_c (hg _ (bs_in (in_tables_1_2 (List.mem_of_getElem? (i := 121) rfl)) rfl)) (fw_c (fb_lays hF (h0.1 _ (in_tables_1_2 (List.mem_of_getElem? (i := 122) rfl)) rfl)) (fw_c (hg _ (bs_in (in_tables_1_2 (List.mem_of_getElem? (i := 123) rfl)) rfl)) (fw_c (fb_lays hF (h0.1 _ (in_tables_1_2 (List.mem_of_getElem? (i := 124) rfl)) rfl)) (fw_c (hg _ (bs_in (in_tables_1_2 (List.mem_of_getElem? (i := 113) rfl)) rfl)) (fw_c (hg _ (bs_in (in_tables_1_2 (List.mem_of_getElem? (i := 147) rfl)) rfl)) (fw_c (hg _ (bs_in (in_tables_1_2 (List.mem_of_getElem? (i := 148) rfl)) rfl)) (fw_c (hg _ (bs_in (in_tables_1_2 (List.mem_of_getElem? (i := 150) rfl)) rfl)) (fw_c (hg _ (bs_in (in_tables_1_2 (List.mem_of_getElem? (i := 113) rfl)) rfl)) (fw_c (hg _ (bs_in (in_tables_1_2 (List.mem_of_getElem? (i := 181) rfl)) rfl)) (fw_c (hg _ (bs_in (in_tables_1_2 (List.mem_of_getElem? (i := 182) rfl)) rfl)) (fw_c (hg _ (bs_in (in_tables_1_2 (List.mem_of_getElem? (i := 183) rfl)) rfl)) (fw_c (hg _ (bs_in (in_tables_1_2 (List.mem_of_getElem? (i := 141) rfl)) rfl)) (fw_c (sw_decl h0 hF.1 (in_tables_1_2 (List.mem_of_getElem? (i := 99) rfl))) (fw_c (hg _ (bs_in (in_tables_1_2 (List.mem_of_getElem? (i := 141) rfl)) rfl)) (fw_c (hg _ (bs_in (in_tables_1_2 (List.mem_of_getElem? (i := 142) rfl)) rfl)) (fw_c (hg _ (bs_in (in_tables_1_2 (List.mem_of_getElem? (i := 143) rfl)) rfl)) (fw_c (hg _ (bs_in (in_tables_1_2 (List.mem_of_getElem? (i := 144) rfl)) rfl)) (fw_c (sw_decl h0 hF.1 (in_tables_1_2 (List.mem_of_getElem? (i := 101) rfl))) (fw_c (hg _ (bs_in (in_tables_1_2 (List.mem_of_getElem? (i := 144) rfl)) rfl)) (fw_c (hg _ (bs_in (in_tables_1_2 (List.mem_of_getElem? (i := 145) rfl)) rfl)) (fw_c (hg _ (bs_in (in_tables_1_2 (List.mem_of_getElem? (i := 146) rfl)) rfl)) (fw_c (hg _ (bs_in (in_tables_1_2 (List.mem_of_getElem? (i := 147) rfl)) rfl)) (fw_c (sw_decl h0 hF.1 (in_tables_1_2 (List.mem_of_getElem? (i := 103) rfl))) (fw_c (hg _ (bs_in (in_tables_1_2 (List.mem_of_getElem? (i := 180) rfl)) rfl)) (fw_c (hg _ (bs_in (in_tables_1_2 (List.mem_of_getElem? (i := 171) rfl)) rfl)) (fw_c (sw_cast h0 hF.1 (in_tables_1_2 (List.mem_of_getElem? (i := 172) rfl))) (fw_c (hg _ (bs_in (in_tables_1_2 (List.mem_of_getElem? (i := 173) rfl)) rfl)) (fw_c (hg _ (bs_in (in_tables_1_2 (List.mem_of_getElem? (i := 128) rfl)) rfl)) (fw_c (hg _ (bs_in (in_tables_1_2 (List.mem_of_getElem? (i := 174) rfl)) rfl)) (fw_c (hg _ (bs_in (in_tables_1_2 (List.mem_of_getElem? (i := 175) rfl)) rfl)) (fw_c (hg _ (bs_in (in_tables_1_2 (List.mem_of_getElem? (i := 176) rfl)) rfl)) (fw_c (hg _ (bs_in (in_tables_1_2 (List.mem_of_getElem? (i := 177) rfl)) rfl)) (fw_c (fb_isRef hF h0.2.1) (fw_c (fb_isRef hF h0.2.2.1) (fw_c (hg _ (bs_in (in_tables_1_2 (List.mem_of_getElem? (i := 116) rfl)) rfl)) (fw_c (hg _ (bs_in (in_tables_1_2 (List.mem_of_getElem? (i := 115) rfl)) rfl)) (fw_c (hg _ (bs_in (in_tables_1_2 (List.mem_of_getElem? (i := 178) rfl)) rfl)) (fw_n)))))))))))))))))))))))))))))))))))))))))))))))))))))))))
theorem ta_IOB {s s0 : State} {args : Array Value} (hW : ∀ w ∈ bs_W0, w.before args s = true) (h0 : SW s0) : ∀ U : State, FB s0 U U.heap → U.vm = s.vm → ∀ w ∈ Bundle.ownAtoms R_TypeBook 119 "java/lang/IndexOutOfBoundsException" ["java/lang/RuntimeException", "java/lang/Exception"], w.before args U = true := by
  intro U hF hv
  have hWu : s.WarmedH U.vm := by rw [hv]; exact State.WarmedH.refl s
  have hg : ∀ w ∈ bs_W0, w.before args U = true := fun w h => word_at hWu (good_of_word (List.mem_filter.mp h).2) (hW w h)
  exact fw_c (hg _ (bs_in (in_tables_1_1 (List.mem_of_getElem? (i := 15) rfl)) rfl)) (fw_c (hg _ (bs_in (in_tables_1_2 (List.mem_of_getElem? (i := 117) rfl)) rfl)) (fw_c (hg _ (bs_in (in_tables_1_2 (List.mem_of_getElem? (i := 126) rfl)) rfl)) (fw_c (hg _ (bs_in (in_tables_1_2 (List.mem_of_getElem? (i := 130) rfl)) rfl)) (fw_c (hg _ (bs_in (in_tables_1_2 (List.mem_of_getElem? (i := 133) rfl)) rfl)) (fw_c (hg _ (bs_in (in_tables_1_2 (List.mem_of_getElem? (i := 135) rfl)) rfl)) (fw_c (hg _ (bs_in (in_tables_1_2 (List.mem_of_getElem? (i := 118) rfl)) rfl)) (fw_c (hg _ (bs_in (in_tables_1_2 (List.mem_of_getElem? (i := 119) rfl)) rfl)) (fw_c (hg _ (bs_in (in_tables_1_1 (List.mem_of_getElem? (i := 30) rfl)) rfl)) (fw_c (hg _ (bs_in (in_tables_1_1 (List.mem_of_getElem? (i := 31) rfl)) rfl)) (fw_c (hg _ (bs_in (in_tables_1_2 (List.mem_of_getElem? (i := 120) rfl)) rfl)) (fw_c (hg _ (bs_in (in_tables_1_2 (List.mem_of_getElem? (i := 125) rfl)) rfl)) (fw_c (hg _ (bs_in (in_tables_1_2 (List.mem_of_getElem? (i := 131) rfl)) rfl)) (fw_c (hg _ (bs_in (in_tables_1_2 (List.mem_of_getElem? (i := 151) rfl)) rfl)) (fw_c (hg _ (bs_in (in_tables_1_2 (List.mem_of_getElem? (i := 107) rfl)) rfl)) (fw_c (hg _ (bs_in (in_tables_1_2 (List.mem_of_getElem? (i := 152) rfl)) rfl)) (fw_c (hg _ (bs_in (in_tables_1_2 (List.mem_of_getElem? (i := 109) rfl)) rfl)) (fw_c (hg _ (bs_in (in_tables_1_2 (List.mem_of_getElem? (i := 153) rfl)) rfl)) (fw_c (hg _ (bs_in (in_tables_1_2 (List.mem_of_getElem? (i := 111) rfl)) rfl)) (fw_c (hg _ (bs_in (in_tables_1_2 (List.mem_of_getElem? (i := 121) rfl)) rfl)) (fw_c (fb_lays hF (h0.1 _ (in_tables_1_2 (List.mem_of_getElem? (i := 122) rfl)) rfl)) (fw_c (hg _ (bs_in (in_tables_1_2 (List.mem_of_getElem? (i := 123) rfl)) rfl)) (fw_c (fb_lays hF (h0.1 _ (in_tables_1_2 (List.mem_of_getElem? (i := 124) rfl)) rfl)) (fw_c (hg _ (bs_in (in_tables_1_2 (List.mem_of_getElem? (i := 113) rfl)) rfl)) (fw_c (hg _ (bs_in (in_tables_1_2 (List.mem_of_getElem? (i := 147) rfl)) rfl)) (fw_c (hg _ (bs_in (in_tables_1_2 (List.mem_of_getElem? (i := 148) rfl)) rfl)) (fw_c (hg _ (bs_in (in_tables_1_2 (List.mem_of_getElem? (i := 150) rfl)) rfl)) (fw_c (hg _ (bs_in (in_tables_1_2 (List.mem_of_getElem? (i := 113) rfl)) rfl)) (fw_c (hg _ (bs_in (in_tables_1_3 (List.mem_of_getElem? (i := 34) rfl)) rfl)) (fw_c (hg _ (bs_in (in_tables_1_3 (List.mem_of_getElem? (i := 35) rfl)) rfl)) (fw_c (hg _ (bs_in (in_tables_1_3 (List.mem_of_getElem? (i := 36) rfl)) rfl)) (fw_c (hg _ (bs_in (in_tables_1_2 (List.mem_of_getElem? (i := 141) rfl)) rfl)) (fw_c (sw_decl h0 hF.1 (in_tables_1_2 (List.mem_of_getElem? (i := 99) rfl))) (fw_c (hg _ (bs_in (in_tables_1_2 (List.mem_of_getElem? (i := 141) rfl)) rfl)) (fw_c (hg _ (bs_in (in_tables_1_2 (List.mem_of_getElem? (i := 142) rfl)) rfl)) (fw_c (hg _ (bs_in (in_tables_1_2 (List.mem_of_getElem? (i := 143) rfl)) rfl)) (fw_c (hg _ (bs_in (in_tables_1_2 (List.mem_of_getElem? (i := 144) rfl)) rfl)) (fw_c (sw_decl h0 hF.1 (in_tables_1_2 (List.mem_of_getElem? (i := 101) rfl))) (fw_c (hg _ (bs_in (in_tables_1_2 (List.mem_of_getElem? (i := 144) rfl)) rfl)) (fw_c (hg _ (bs_in (in_tables_1_2 (List.mem_of_getElem? (i := 145) rfl)) rfl)) (fw_c (hg _ (bs_in (in_tables_1_2 (List.mem_of_getElem? (i := 146) rfl)) rfl)) (fw_c (hg _ (bs_in (in_tables_1_2 (List.mem_of_getElem? (i := 147) rfl)) rfl)) (fw_c (sw_decl h0 hF.1 (in_tables_1_2 (List.mem_of_getElem? (i := 103) rfl))) (fw_c (hg _ (bs_in (in_tables_1_3 (List.mem_of_getElem? (i := 33) rfl)) rfl)) (fw_c (hg _ (bs_in (in_tables_1_3 (List.mem_of_getElem? (i := 24) rfl)) rfl)) (fw_c (sw_cast h0 hF.1 (in_tables_1_3 (List.mem_of_getElem? (i := 25) rfl))) (fw_c (hg _ (bs_in (in_tables_1_3 (List.mem_of_getElem? (i := 26) rfl)) rfl)) (fw_c (hg _ (bs_in (in_tables_1_2 (List.mem_of_getElem? (i := 129) rfl)) rfl)) (fw_c (hg _ (bs_in (in_tables_1_3 (List.mem_of_getElem? (i := 27) rfl)) rfl)) (fw_c (hg _ (bs_in (in_tables_1_3 (List.mem_of_getElem? (i := 28) rfl)) rfl)) (fw_c (hg _ (bs_in (in_tables_1_3 (List.mem_of_getElem? (i := 29) rfl)) rfl)) (fw_c (hg _ (bs_in (in_tables_1_3 (List.mem_of_getElem? (i := 30) rfl)) rfl)) (fw_c (fb_isRef hF h0.2.1) (fw_c (fb_isRef hF h0.2.2.1) (fw_c (hg _ (bs_in (in_tables_1_2 (List.mem_of_getElem? (i := 116) rfl)) rfl)) (fw_c (hg _ (bs_in (in_tables_1_2 (List.mem_of_getElem? (i := 115) rfl)) rfl)) (fw_c (hg _ (bs_in (in_tables_1_3 (List.mem_of_getElem? (i := 31) rfl)) rfl)) (fw_n)))))))))))))))))))))))))))))))))))))))))))))))))))))))))
def Ph (κ : Nat → Nat) : Nat := 5 * (κ 6) + 5 * (κ 7) + 4 * (κ 8) + 4 * (κ 9) + 4 * (κ 10) + 4 * (κ 11) + 5 * (κ 12) + 4 * (κ 13) + 3 * (κ 14) + 1 * (κ 15)
/-- what a public call leaves: the book, its sizes, and how much has come -/
def PB (γ : gE) (A : Nat → Prop) (κ : Nat → Nat) (H0 : Heap) (rel : (Nat → Nat) → Prop) (H : Heap) : Prop := ∃ κ' : Nat → Nat, INV γ A κ' H ∧ rel κ' ∧ Ph κ ≤ Ph κ' ∧ GR H0 H (Ph κ' - Ph κ + 1) (2 * (Ph κ' - Ph κ) + 6)
theorem pb_of {γ : gE} {A : Nat → Prop} {κ : Nat → Nat} {H0 H : Heap} {rel : (Nat → Nat) → Prop} {k n : Nat} (κ' : Nat → Nat) (hI : INV γ A κ' H) (hr : rel κ') (hG : GR H0 H k n) (h1 : Ph κ ≤ Ph κ') (h2 : k ≤ Ph κ' - Ph κ + 1) (h3 : n ≤ 2 * (Ph κ' - Ph κ) + 6) : PB γ A κ H0 rel H := ⟨κ', hI, hr, h1, hG.mono h2 h3⟩
def fr_A (A : Nat → Prop) (H0 H : Heap) : Prop := H0.size ≤ H.size ∧ ∀ q : Nat, q < H0.size → ¬ A q → H[q]? = H0[q]?
theorem fr_more {A : Nat → Prop} {H0 H H1 : Heap} {locs : List Loc} (hS : va_S A H0 H locs) (hz : H.size ≤ H1.size) (hk : ∀ q : Nat, q < H.size → H1[q]? = H[q]?) : fr_A A H0 H1 := ⟨Nat.le_trans hS.1 hz, fun q h1 h2 => (hk q (Nat.lt_of_lt_of_le h1 hS.1)).trans (hS.2.1 q h1 h2)⟩
theorem inv_more {γ : gE} {A : Nat → Prop} {κ : Nat → Nat} {H H1 : Heap} (hI : INV γ A κ H) (hk : ∀ q : Nat, q < H.size → H1[q]? = H[q]?) : INV γ A κ H1 := by
  obtain ⟨ρ, hρ, hc⟩ := hI
  exact ⟨ρ, hρ, fun i h1 h2 => cmp_kept (hc i h1 h2) (fun q _ h => hk q h) (fun q h _ => h)⟩
theorem inv_len {γ : gE} {A : Nat → Prop} {κ : Nat → Nat} {H : Heap} (hI : INV γ A κ H) : (κ 6 ≤ 8192 ∧ κ 7 ≤ 8192 ∧ κ 8 ≤ 8192 ∧ κ 9 ≤ 8192 ∧ κ 10 ≤ 8192 ∧ κ 11 ≤ 8192 ∧ κ 12 ≤ 8192 ∧ κ 13 ≤ 8192 ∧ κ 14 ≤ 8192 ∧ κ 15 ≤ 8192) ∧ κ 0 ≤ κ 11 ∧ κ 1 ≤ κ 0 ∧ κ 2 ≤ κ 12 ∧ κ 4 ≤ κ 13 ∧ κ 5 ≤ κ 14 ∧ 1 ≤ κ 3 ∧ κ 3 ≤ 32 := by
  obtain ⟨_, _, ⟨_, _, _, _, _, a1, _⟩, _, _⟩ := inv_c hI 1 (by decide) (by decide)
  obtain ⟨_, _, ⟨_, _, _, _, _, _, _, _, _, b1, b2, _, b4, _⟩, _, _⟩ := inv_c hI 2 (by decide) (by decide)
  obtain ⟨_, _, ⟨_, _, _, _, _, _, _, _, _, _, _, _, _, _, _, c1, c2, _, c4, c5, _⟩, _, _⟩ := inv_c hI 3 (by decide) (by decide)
  obtain ⟨_, _, ⟨_, _, _, _, _, _, _, _, _, d1, d2, _⟩, _, _⟩ := inv_c hI 4 (by decide) (by decide)
  obtain ⟨_, _, ⟨_, _, _, _, _, _, _, e1, e2, _⟩, _, _⟩ := inv_c hI 5 (by decide) (by decide)
  obtain ⟨_, _, ⟨_, _, _, f1, _⟩, _, _⟩ := inv_c hI 6 (by decide) (by decide)
  obtain ⟨_, _, ⟨_, _, _, _, _, _, _, _, _, _, _, g1, _⟩, _, _⟩ := inv_c hI 7 (by decide) (by decide)
  obtain ⟨_, _, ⟨_, _, _, i1, _⟩, _, _⟩ := inv_c hI 8 (by decide) (by decide)
  obtain ⟨_, _, ⟨_, _, _, _, _, _, _, _, _, _, _, j1, _⟩, _, _⟩ := inv_c hI 9 (by decide) (by decide)
  obtain ⟨_, _, ⟨_, _, _, k1, _⟩, _, _⟩ := inv_c hI 10 (by decide) (by decide)
  exact ⟨⟨g1, j1, f1, i1, k1, b2, c2, d2, e2, a1⟩, b1, b4, c1, d1, e1, c4, c5⟩
theorem wcm {n N : Nat} (hn : n ≤ 8192) (hN : N ≤ 4096) : wc n N ≤ 1 ∧ wm n N ≤ 16384 ∧ n ≤ wl n N ∧ wc n N ≤ wl n N - n ∧ wm n N ≤ 2 * (wl n N - n) ∧ wl n N ≤ 8192 ∧ N ≤ wl n N := by
  unfold wc wm wl
  by_cases h : N ≤ n
  · simp only [if_pos h]
    omega
  · simp only [if_neg h]
    omega
theorem le_ok {x v : Int32} {N : Nat} (h0 : ¬ x < 0) (ev : v = nI N) (h1 : x ≤ v) (hN : N < 2 ^ 31) : ∃ k, k ≤ N ∧ x = nI k := by
  subst ev
  obtain ⟨j, hj, rfl⟩ := nI_of h0
  exact ⟨j, (nI_leI hj hN).mp h1, rfl⟩
theorem lt_ok {v c : Int32} {N M : Nat} (ev : v = nI N) (ec : c = nI M) (h : v < c) (hN : N < 2 ^ 31) (hM : M < 2 ^ 31) : N < M := by
  subst ev; subst ec
  exact (nI_ltI hN hM).mp h
theorem ge_ok {v c : Int32} {N M : Nat} (ev : v = nI N) (ec : c = nI M) (h : ¬ v < c) (hN : N < 2 ^ 31) (hM : M < 2 ^ 31) : M ≤ N := by
  subst ev; subst ec
  exact Nat.not_lt.mp (fun h9 => h ((nI_ltI hN hM).mpr h9))
theorem gt_ok {v c : Int32} {N M : Nat} (ev : v = nI N) (ec : c = nI M) (h : c < v) (hN : N < 2 ^ 31) (hM : M < 2 ^ 31) : M < N := by
  subst ev; subst ec
  exact (nI_ltI hM hN).mp h
theorem ngt_ok {v c : Int32} {N M : Nat} (ev : v = nI N) (ec : c = nI M) (h : ¬ c < v) (hN : N < 2 ^ 31) (hM : M < 2 ^ 31) : N ≤ M := by
  subst ev; subst ec
  exact Nat.not_lt.mp (fun h9 => h ((nI_ltI hM hN).mpr h9))
section TXO
variable {l : Launch} {y : MethodName} {bytes : ByteArray} {maxL mc ms fr lo : Nat} {av : List Value} {γ : gE} {A : Nat → Prop} {PS : State → Prop} {XC : String → Heap → Prop}
theorem tx_openI {PO : Int32 → Heap → Prop} (hy : plainName y.cls = true) (hn : (lg_sl av).length ≤ maxL)
    (body : ∀ (p : Program) (e : Env) (s : State) (m : MethodId) (args : Array Value) (below : List Frame) (meth : Method) (c : Code) (ls : Array Slot) (Q : State → Prop), bs_F p s m args c bytes maxL y.cls → meth.sig.returnType = some .int → meth.locks = false → c.exceptionTable.toList = [] → CX γ s → (∀ q, s.heap.size ≤ q → A q) → PS s → Q = tx_MQ below (mQi PO A) XC args s mc ms A → lv_has ls maxL (lv_args 0 av) →
      W p l e (bs_rm fr mc ms lo) s m args below meth c s.heap [] 0 0 Q (F0 m 0 ls [])) : XM l y bytes maxL (some .int) fr lo mc ms av γ A PS (mQi PO A) XC :=
  tx_open hy hn (fun p e s m below meth c ls S hr hlk hX hC hA hP hl => body p e s m _ below meth c ls _ S hr hlk hX hC hA hP rfl hl)
theorem ps_openZ {post : Int32 → Prop} (hy : plainName y.cls = true) (hn : (lg_sl av).length ≤ maxL)
    (body : ∀ (p : Program) (e : Env) (s : State) (m : MethodId) (args : Array Value) (below : List Frame) (meth : Method) (c : Code) (ls : Array Slot) (Q : State → Prop), bs_F p s m args c bytes maxL y.cls → CX γ s → PS s → (∀ (v : Int32) (pc : Nat) (ls : Array Slot), narrow .boolean (.int v) = .int v → post v → decode bytes pc = .ok (.ireturn, 1) → W p l e (bs_rm fr 0 0 lo) s m args below meth c s.heap [] 0 0 Q (F0 m pc ls [.int v])) → lv_has ls maxL (lv_args 0 av) → W p l e (bs_rm fr 0 0 lo) s m args below meth c s.heap [] 0 0 Q (F0 m 0 ls [])) :
    Met l y (Cond.code y bytes maxL (some .boolean) :: bs_W0) (bs_rm fr 0 0 lo) (va_Pc av (fun U => CX γ U ∧ PS U)) (vp_Si post) 0 0 (fun _ => False) := by
  refine Met.ofW (cc := bytes) (maxL := maxL) (ret := some .boolean) hy rfl ?_
  intro p e s m args below meth c s₁ B hml hv
  obtain ⟨rfl, hC, hP⟩ := hv
  have hts := bs_hts (atoms_spec (ws := Cond.code y bytes maxL (some .boolean) :: bs_W0) B.pre)
  have hl := lv_entry av (n := maxL) hn
  rw [lg_entry_eq]
  exact body p e s m _ below meth c _ _ ⟨B.exec, B.bytes, hml, findClass_of_methodNamed B.named, hts⟩ hC hP (fun v _ _ hz hp hdg => W.zret B.exec B.bytes B.returns hz (fun t ht _ => ⟨v, rfl, hp, ht⟩) (fun q h => by cases h) hdg B.notSynchronized) hl
end TXO
theorem inv_ext {γ : gE} {A : Nat → Prop} {κ1 κ2 : Nat → Nat} {H : Heap} (hI : INV γ A κ1 H) (e0 : κ1 0 = κ2 0) (e1 : κ1 1 = κ2 1) (e2 : κ1 2 = κ2 2) (e3 : κ1 3 = κ2 3) (e4 : κ1 4 = κ2 4) (e5 : κ1 5 = κ2 5) (e6 : κ1 6 = κ2 6) (e7 : κ1 7 = κ2 7) (e8 : κ1 8 = κ2 8) (e9 : κ1 9 = κ2 9) (e10 : κ1 10 = κ2 10) (e11 : κ1 11 = κ2 11) (e12 : κ1 12 = κ2 12) (e13 : κ1 13 = κ2 13) (e14 : κ1 14 = κ2 14) (e15 : κ1 15 = κ2 15) : INV γ A κ2 H := by
  obtain ⟨ρ, hρ, hc⟩ := hI
  refine ⟨ρ, hρ, fun i h1 h2 => ?_⟩
  have h := hc i h1 h2
  have he : FF γ κ1 i = FF γ κ2 i := by
    rcases (show i = 1 ∨ i = 2 ∨ i = 3 ∨ i = 4 ∨ i = 5 ∨ i = 6 ∨ i = 7 ∨ i = 8 ∨ i = 9 ∨ i = 10 by omega) with h | h | h | h | h | h | h | h | h | h <;> subst h <;> simp only [FF, e0, e1, e2, e3, e4, e5, e6, e7, e8, e9, e10, e11, e12, e13, e14, e15]
  rw [he] at h
  exact h
theorem k2_Names_close (l : Launch) (γ : gE) (A : Nat → Prop) (κ : Nat → Nat) (s1 : Nat) (hs : κ 3 = s1 + 1) (hs1 : 1 ≤ s1) : MU l yNames_close bNames_close 3 none 0 0 0 0 [.ref (γ.2.2.2 2)] γ A (INV γ A κ) (mQv (fun H => ∃ j9, j9 ≤ κ 2 ∧ INV γ A (ku (ku κ 3 s1) 2 j9) H) A) :=
  met_x (fun Z => c_Names_close l γ Z (γ.2.2.2 2) (κ 2) (κ 3) (κ 12) s1 hs hs1) (fun a U h => by
    obtain ⟨ha, hC, hA, hI⟩ := h
    obtain ⟨Z, hc, hZn, hZA, hback⟩ := inv_lift hI hA 3 (by decide) (by decide)
    refine ⟨Z, ⟨ha, hC, hZn, hc⟩, fun o t h => ?_, hZA⟩
    obtain ⟨⟨u, e1, e2, j9, e3, e4⟩, hz, hk⟩ := h
    exact ⟨⟨u, e1, e2, j9, e3, hback (ku (ku κ 3 s1) 2 j9) _ (fun j h1 h2 h3 => by rcases (show j = 1 ∨ j = 2 ∨ j = 3 ∨ j = 4 ∨ j = 5 ∨ j = 6 ∨ j = 7 ∨ j = 8 ∨ j = 9 ∨ j = 10 by omega) with h | h | h | h | h | h | h | h | h | h <;> subst h <;> first | rfl | exact absurd rfl h1) e4 hz hk⟩, hz, fun q h3 h4 => hk q h3 (fun h5 => h4 (hZA q h5))⟩)
theorem qw_cff65ee3fd : (Cond.fieldLink R_Names 46 R_Names "FIRST_SORTS" "[I") ∈ bs_W0 := bs_in (in_tables_1_1 (List.mem_of_getElem? (i := 69) rfl)) rfl
theorem hr_blind {av : List Value} {γ : gE} {A : Nat → Prop} {κ : Nat → Nat} {s0 : State} : FrameBlind (va_Pc av (fun U => CX γ U ∧ FB s0 U U.heap ∧ INV γ A κ U.heap)) := fun _ _ _ _ h => ⟨h.1, h.2.1.same rfl, h.2.2.1.same rfl, h.2.2.2⟩
set_option maxHeartbeats 4000000 in
set_option maxRecDepth 100000 in
theorem k_haveRoom (l : Launch) (γ : gE) (A : Nat → Prop) (κ : Nat → Nat) (s0 : State) (hw0 : SW s0) (hA0 : ∀ q, A q → s0.heap.size ≤ q) (N : Nat) (hN : N ≤ 5000) : Met l yNames_haveRoom (Cond.code yNames_haveRoom bNames_haveRoom 2 (some .boolean) :: bs_W0) (bs_rm 0 0 0 0) (va_Pc [.ref (γ.2.2.2 2), .int (nI N)] (fun U => CX γ U ∧ FB s0 U U.heap ∧ INV γ A κ U.heap)) (vp_Si (fun v => v = 0 ∨ κ 2 + N ≤ 3012)) 0 0 (fun _ => False) := by
  refine ps_openZ (by decide) (Nat.le_of_ble_eq_true rfl) ?_
  intro p e s m args below meth c ls Q S hC hP hE hl
  obtain ⟨hF, hI⟩ := hP
  obtain ⟨hx, hb, hml, hown, hW⟩ := id S
  have hl : lv_has ls 2 [(0, .ref (γ.2.2.2 2)), (1, .int (nI N))] := hl
  obtain ⟨hlen, hsz⟩ := inv_len hI
  obtain ⟨t, f, hZ, hT, -⟩ := hw0.2.2.2.2.1
  refine lv_aload_n hx hb dNames_haveRoom_0 rfl (lv_at hl 0 rfl) ?_
  refine of_get S hC (of_2_7 hI) in_Names rfl (by decide) qw_171adcdf9f dNames_haveRoom_1 ?_
  refine va_gets hx hb (fb_Z hF hA0 hZ) va_S.rf hown (hW _ qw_cff65ee3fd) (fun _ h => h) dNames_haveRoom_4 ?_
  refine va_tlen hx hb (fb_T hF hA0 hT) va_S.rf (v := nI 12) rfl dNames_haveRoom_7 ?_
  refine lv_isub hx hb dNames_haveRoom_8 ?_
  refine lv_iload_n hx hb dNames_haveRoom_9 rfl (lv_at hl 1 rfl) ?_
  refine lv_iadd hx hb dNames_haveRoom_10 ?_
  refine lv_sipush (v := 3000) hx hb dNames_haveRoom_11 (by decide) ?_
  refine lv_icmp_gt (tgt := 21) hx hb dNames_haveRoom_14 (by decide) (fun c1 => ?_) (fun c1 => ?_)
  · refine lv_iconst (v := 0) hx hb dNames_haveRoom_21 (by decide) ?_
    exact hE _ _ _ rfl (Or.inl rfl) dNames_haveRoom_22
  · refine lv_iconst (v := 1) hx hb dNames_haveRoom_17 (by decide) ?_
    refine lv_goto (tgt := 22) hx hb dNames_haveRoom_18 (by decide) ?_
    exact hE _ _ _ rfl (Or.inr (hr_ok (by omega) hN c1)) dNames_haveRoom_22
