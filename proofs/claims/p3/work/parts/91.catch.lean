-- CATCHES: the table's rows, cold or warm; a call that returns or throws
/-- the rows of a table, of an exception of the class th: the first that takes it is the one with the handler h -/
def tc_T (s0 : State) (pl : Platform) (d : ClassId) (pc : Nat) (th : ClassId) : List ExceptionTableEntry → Nat → Prop
  | [], _ => False
  | x :: t, h => covers x pc = true ∧ x.catchType ≠ 0 ∧ ∃ k, s0.vm.ClassLinks pl d x.catchType k ∧ ((s0.vm.assignable th k = true ∧ h = x.handlerPc) ∨ (s0.vm.assignable th k = false ∧ tc_T s0 pl d pc th t h))
/-- the same by words -/
def tc_H (own E : String) (s : State) (args : Array Value) (pc : Nat) : List (Nat × Nat × Nat × Nat) → Nat → Prop
  | [], _ => False
  | x :: t, h => (x.1 ≤ pc ∧ pc < x.2.1) ∧ x.2.2.2 ≠ 0 ∧ ∃ nm : String, (Cond.classLink own x.2.2.2 nm).before args s = true ∧ ((va_Nw (.castable E nm) s ∧ h = x.2.2.1) ∨ (va_Nc E nm s ∧ tc_H own E s args pc t h))
theorem tc_of {own E : String} {s : State} {args : Array Value} {pc h : Nat} {d th : ClassId} {pl : Platform} (hpl : pl.magicAccessors = ({} : Platform).magicAccessors) (hown : s.vm.findClass own = some d) (hE : s.vm.findClass E = some th) :
    ∀ (L : List ExceptionTableEntry) (hh : List (Nat × Nat × Nat × Nat)), L.map (fun h => (h.startPc, h.endPc, h.handlerPc, h.catchType)) = hh → tc_H own E s args pc hh h → tc_T s pl d pc th L h := by
  intro L
  induction L with
  | nil => intro hh e hq; subst e; exact hq
  | cons x t ih =>
    intro hh e hq
    subst e
    obtain ⟨⟨h1, h2⟩, h0, nm, hl, hr⟩ := hq
    obtain ⟨k, hk, hkl⟩ := Cond.classLink_spec hown hl pl hpl
    refine ⟨by simp only [covers, Bool.and_eq_true, decide_eq_true_eq]; exact ⟨h1, h2⟩, h0, k, hkl, ?_⟩
    rcases hr with ⟨hc, e⟩ | ⟨⟨a8, b8, q1, q2, q3⟩, ht⟩
    · obtain ⟨c3, c4, q1, q2, q3⟩ := Cond.castable_spec hc
      cases Option.some.inj (q1.symm.trans hE)
      cases Option.some.inj (q2.symm.trans hk)
      exact Or.inl ⟨q3, e⟩
    · cases Option.some.inj (q1.symm.trans hE)
      cases Option.some.inj (q2.symm.trans hk)
      exact Or.inr ⟨q3, ih _ rfl ht⟩
section TCA
variable {e : Env} {f : JFrame} {a : Addr} {cell : Cell}
theorem tc_row {S : State} {x : ExceptionTableEntry} {t : List ExceptionTableEntry} {k : ClassId} {Q : Handler → Pre} {E : CtlPost} {d : Bool} {acts : List Action} (hx : covers x f.pc = true) (h0 : x.catchType ≠ 0)
    (hl : S.vm.ClassLinks e.platform f.method.cls x.catchType k) (hcell : S.heap[a]? = some cell) (hobj : ∀ z, cell.vm ≠ .statics z) (hk : ∃ z, S.vm.classes[cell.cls]? = some z) (hc : ∃ z, S.vm.classes[k]? = some z) :
    wp (findHandler.go f a (x :: t)) Q E e d acts S ↔ if S.vm.assignable cell.cls k = true then Q (.found x.handlerPc) d acts (S.setVm (S.vm.noted f.method.cls x.catchType (.cls k))) else wp (findHandler.go f a t) Q E e d acts (S.setVm (S.vm.noted f.method.cls x.catchType (.cls k))) := by
  have hal : S.vm.Alike (S.vm.noted f.method.cls x.catchType (.cls k)) := (Vm.Alike.refl S.vm).noted _ _ _
  obtain ⟨z1, hz1⟩ := hk
  obtain ⟨z2, hz2⟩ := hc
  obtain ⟨y1, hy1, -⟩ := hal.2.2 _ _ hz1
  obtain ⟨y2, hy2, -⟩ := hal.2.2 _ _ hz2
  obtain ⟨ha, ht⟩ := (resolveClass_links e.toSetting hl).op (op := VmOp.resolveClass f.method.cls x.catchType) rfl
  simp only [covers] at hx
  cases hfit : S.vm.assignable cell.cls k
  · have hf9 : (S.vm.noted f.method.cls x.catchType (.cls k)).assignable cell.cls k = false := by rw [hal.assignable]; exact hfit
    simp [findHandler.go, hx, h0, ha, ht, hcell, hobj, hy1, hy2, hf9, VmOp.dirties, VmOp.acts]
  · have hf9 : (S.vm.noted f.method.cls x.catchType (.cls k)).assignable cell.cls k = true := by rw [hal.assignable]; exact hfit
    simp [findHandler.go, hx, h0, ha, ht, hcell, hobj, hy1, hy2, hf9, VmOp.dirties, VmOp.acts]
theorem tc_go {s0 : State} {h : Nat} (hobj : ∀ z, cell.vm ≠ .statics z) (hk0 : ∃ z, s0.vm.classes[cell.cls]? = some z) : ∀ (L : List ExceptionTableEntry) (S : State), s0.WarmedH S.vm → S.heap[a]? = some cell → tc_T s0 e.platform f.method.cls f.pc cell.cls L h →
    ∃ vm', s0.WarmedH vm' ∧ ∀ (Q : Handler → Pre) (E : CtlPost) (d : Bool) (acts : List Action), wp (findHandler.go f a L) Q E e d acts S ↔ Q (.found h) d acts (S.setVm vm') := by
  obtain ⟨z0, hz0⟩ := hk0
  intro L
  induction L with
  | nil => intro S _ _ hq; exact hq.elim
  | cons x t ih =>
    intro S hW hcell hq
    obtain ⟨hx, h0, k, hl, hr⟩ := hq
    obtain ⟨dk, _, _, kt, hd, _, _, _, _, hkt, _, hopen⟩ := hl.here
    have hWn := hW.noted hd hopen (State.rightAt_cls hl)
    obtain ⟨y1, hy1, -⟩ := hW.alike.2.2 _ _ hz0
    obtain ⟨y2, hy2, -⟩ := hW.alike.2.2 _ _ hkt
    rcases hr with ⟨hfit, rfl⟩ | ⟨hno, ht⟩
    · refine ⟨_, hWn, fun Q E d acts => ?_⟩
      rw [tc_row hx h0 (hW.classLinks hl) hcell hobj ⟨y1, hy1⟩ ⟨y2, hy2⟩, if_pos (by rw [hW.alike.assignable]; exact hfit)]
    · obtain ⟨vm', hW', hq⟩ := ih (S.setVm (S.vm.noted f.method.cls x.catchType (.cls k))) hWn hcell ht
      refine ⟨vm', hW', fun Q E d acts => ?_⟩
      rw [tc_row hx h0 (hW.classLinks hl) hcell hobj ⟨y1, hy1⟩ ⟨y2, hy2⟩, if_neg (by rw [hW.alike.assignable, hno]; decide)]
      exact hq Q E d acts
end TCA
theorem tc_step {tb : Tables} {e : Env} {T target : State} {g : JFrame} {c : Code} {below : List Frame} {a : Addr} {pc : Nat} {vm' : Vm} (h : At T g.method c below)
    (hfind : ∀ (Q : Handler → Pre) (E : CtlPost) (d : Bool) (acts : List Action), wp (findHandler g a) Q E e d acts ((T.setTop g).pushFrame (.throwing a)) ↔ Q (.found pc) d acts (((T.setTop g).pushFrame (.throwing a)).setVm vm'))
    (hrest : Steps tb e below ((T.setVm vm').setTop { g with pc := pc, stack := [.ref a] }) target) : Steps tb e below ((T.setTop g).pushFrame (.throwing a)) target := by
  obtain ⟨hgo, hw⟩ := h.throwing a
  have hstep : ∀ r, (stepThrowing e ((T.setTop g).pushFrame (.throwing a)) a (.java g :: r)).Is ((((T.setTop g).pushFrame (.throwing a)).setVm vm').setFrames (.java { g with pc := pc, stack := [.ref a] } :: r)) [] := by
    intro r
    simp only [stepThrowing, searchFrame, vmDo]
    generalize hr : Sem.go _ e false [] _ = res
    obtain ⟨as, rfl, ha⟩ := Sem.eq_ok_of hr (a := Handler.found pc) (s' := ((T.setTop g).pushFrame (.throwing a)).setVm vm') (acts' := []) (by simp [hfind _ _ _ _])
    exact ⟨rfl, ha⟩
  refine Steps.head hgo hw ?_
  rw [stepThread_throwing (frames_entered h.top _), (hstep _).1]
  obtain ⟨g₀, hg⟩ := Option.isSome_iff_exists.mp h.top
  obtain ⟨r, hr⟩ := State.topJava?_eq_some.mp hg
  have hr' : (T.setVm vm').frames = .java g₀ :: r := hr
  rw [State.setTop_of_frames _ hr'] at hrest
  have e1 : ((T.setTop g).pushFrame (.throwing a)).setVm vm' = (T.setVm vm').setFrames (.throwing a :: .java g :: r) := by
    rw [State.pushFrame, State.frames_setTop' g h.top, State.setTop_of_frames _ hr, State.setFrames_setFrames, hr]
    rfl
  rw [e1, State.setFrames_setFrames, hr]
  exact hrest
section TCB
variable {p : Program} {l : Launch} {e : Env} {R : Room} {s : State} {m : MethodId} {args : Array Value} {below : List Frame} {meth : Method} {c : Code} {T U : State} {locs : List Loc} {cells slots : Nat}
variable {y : MethodName} {bytes cc : ByteArray} {maxL nL mc ms n index fr lo len W9 : Nat} {ret : Option FieldType} {own : String} {b : Addr} {As rest st0 av : List Value} {pc : Nat} {ls : Array Slot} {γ : gE} {PS : State → Prop} {A A0 : Nat → Prop} {H H0 : Heap} {Qc : Array Value → State → Outcome → State → Prop} {XC : String → Heap → Prop} {Q : State → Prop}
theorem tc_catch (X : Stand p l e R s m args below meth c T locs cells slots) {g : JFrame} (hg : g.method = m) {E : String} {ce : Cell} {q : Addr} {h : Nat} {hh : List (Nat × Nat × Nat × Nat)} (hown : s.vm.findClass own = some m.cls) (hcell : T.heap[q]? = some ce) (hv : ce.vm = .none) (hcl : s.vm.findClass E = some ce.cls)
    (htab : c.exceptionTable.toList.map (fun h => (h.startPc, h.endPc, h.handlerPc, h.catchType)) = hh) (hH : tc_H own E s args g.pc hh h) :
    ∃ vm', Stand p l e R s m args below meth c (T.setVm vm') locs cells slots ∧ ∀ target, Steps p.tables e below ((T.setVm vm').setTop { g with pc := h, stack := [.ref q] }) target → Steps p.tables e below ((T.setTop g).pushFrame (.throwing q)) target := by
  have hpl : e.platform.magicAccessors = ({} : Platform).magicAccessors := by rw [X.admits.platform]
  have hT := tc_of hpl hown hcl _ _ htab hH
  subst hg
  obtain ⟨k9, h9, -⟩ := Vm.findClass_spec hcl
  have hobj : ∀ z, ce.vm ≠ .statics z := VmData.ne_statics_of (by rw [hv]; rfl)
  have hSv : ((T.setTop g).pushFrame (.throwing q)).vm = T.vm := Stand.throwing_vm T g q
  have hSh : ((T.setTop g).pushFrame (.throwing q)).heap = T.heap := Stand.throwing_heap T g q
  obtain ⟨vm', hW', hq⟩ := tc_go (e := e) (f := g) (a := q) (s0 := s) (h := h) hobj ⟨k9, h9⟩ c.exceptionTable.toList ((T.setTop g).pushFrame (.throwing q)) (by rw [hSv]; exact X.warmed) (by rw [hSh]; exact hcell) hT
  refine ⟨vm', X.noted hW', fun target hr => ?_⟩
  refine tc_step X.here (vm' := vm') (fun Q E d acts => ?_) hr
  rw [W.findHandler_eq (meth := meth) (code := c) (by rw [hSv]; exact X.method') X.code]
  exact hq Q E d acts
/-- the callee's end, seen from the caller's frame -/
theorem tc_come {mk : MethodId} {a : Array Value} {g : JFrame} {ig : Instr} (X : Stand p l e R s m args below meth c U locs cells slots) (hg : g.method = m) (hsize : g.locals.size = c.maxLocals) (hdg : decode c.code g.pc = .ok (ig, len))
    (hw9 : 2 * g.monitorRoom + (g.stack.map fun v => v.category).sum ≤ 8) (hn : U.methodNamed? y = some mk) {Pc : Array Value → State → Prop}
    (hM : MetFree l y (headSpec (Cond.code y bytes maxL ret :: bs_W0) (bs_rm fr mc ms lo)) Pc (fun _ _ _ _ _ => True) (tx_Q Qc XC mc ms A)) (hbl : FrameBlind Pc) (hP : Pc a U)
    (hws : ∀ w ∈ Cond.code y bytes maxL ret :: bs_W0, w.before a U = true) (hini : (Cond.initialized y.cls).before a U = true) (hR : fr + 1 ≤ R.frames ∧ 8 + (maxL + 11) + lo ≤ R.locals) (hf : cells + mc ≤ R.cells ∧ slots + ms ≤ R.slots) :
    (∃ (v : Option Value) (st t T' : State) (L : List Loc), st.heap = U.heap ∧ Stand p l e R s m args below meth c T' (locs ++ L) (cells + mc) (slots + ms) ∧ (∀ z ∈ L, A z.base) ∧ T'.heap = t.heap ∧ Qc a st (.returned v) t ∧
      Steps p.tables e below (doInvoke e (U.setTop g) [] mk a).1 (T'.setTop { g with pc := g.pc + len, stack := v.toList ++ g.stack })) ∨
    ∃ (q : Addr) (E : String) (ce : Cell) (T' : State) (L : List Loc), Stand p l e R s m args below meth c T' (locs ++ L) (cells + mc) (slots + ms) ∧ (∀ z ∈ L, A z.base) ∧ XC E T'.heap ∧ T'.heap[q]? = some ce ∧ ce.vm = .none ∧ s.vm.findClass E = some ce.cls ∧
      Steps p.tables e below (doInvoke e (U.setTop g) [] mk a).1 ((T'.setTop g).pushFrame (.throwing q)) := by
  have h : At U g.method c below := by rw [hg]; exact X.here
  obtain ⟨methY, cY, hmY, hcY, -, hlY, -⟩ := Cond.code_spec hn (hws _ List.mem_cons_self)
  obtain ⟨kY, hkY, -⟩ := className_of_methodNamed hn
  have hiY : kY.init = .initialized := Cond.initialized_spec (findClass_of_methodNamed hn) hkY hini
  have happ : (headSpec (Cond.code y bytes maxL ret :: bs_W0) (bs_rm fr mc ms lo)).appliesLoose y e.platform (U.calling g mk a) = true :=
    Spec.appliesLoose_calling (g := g) h hdg hn hkY hiY (X.room_calling (g := g) (R' := bs_rm fr mc ms lo) hsize hmY hcY hR.1 (by rw [hlY]; show _ + _ + lo ≤ _; omega) hf.1 hf.2) (atoms_intro hws)
  obtain ⟨mid, hmid⟩ := h.above
  have hfr : (U.setTop g).frames = (.java g :: mid) ++ below := by rw [State.frames_setTop' g h.top, hmid]; rfl
  obtain ⟨o, z, hsteps, -, hend, hq⟩ := Steps.callFree hM p X.admits X.cas X.clock (acts := []) hfr happ (hbl _ _ _ _ hP) trivial
  rw [State.frames_setTop' g h.top] at hend
  obtain ⟨g₀, hg0⟩ := Option.isSome_iff_exists.mp h.top
  obtain ⟨r, hr⟩ := State.topJava?_eq_some.mp hg0
  obtain ⟨t9, ht9, -⟩ := State.frames_cons hr
  have hr' : (({ U with heap := z.heap, slotsUsed := z.slotsUsed } : State).setVm z.vm).frames = .java g₀ :: r := hr
  -- what both ends share: the state is the caller's, with the callee's heap, tables and frames
  have both : ∀ L : List Loc, (U.calling g mk a).WarmedH z.vm → (U.calling g mk a).sameButNew ({ z with vm := (U.calling g mk a).vm } : State) L mc ms →
      z = (({ U with heap := z.heap, slotsUsed := z.slotsUsed } : State).setVm z.vm).setFrames z.frames ∧ Stand p l e R s m args below meth c (({ U with heap := z.heap, slotsUsed := z.slotsUsed } : State).setVm z.vm) (locs ++ L) (cells + mc) (slots + ms) := by
    intro L hWz hsz
    obtain ⟨e2, q2, q3, q4, q5, q6⟩ := hsz
    have hWU : U.WarmedH z.vm := hWz
    have e3 : z = ({ (U.calling g mk a).setFrames z.frames with heap := z.heap, slotsUsed := z.slotsUsed } : State).setVm z.vm := by
      have e4 : z = ({ z with vm := (U.calling g mk a).vm } : State).setVm z.vm := rfl
      rw [e2] at e4
      exact e4
    have hsame : U.sameButNew ({ U with heap := z.heap, slotsUsed := z.slotsUsed } : State) L mc ms := by
      refine ⟨?_, q2, q3, q4, q5, q6⟩
      show ({ U with heap := z.heap, slotsUsed := z.slotsUsed } : State) = { U.setFrames U.frames with heap := z.heap, slotsUsed := z.slotsUsed }
      rw [State.setFrames_self ht9]
    refine ⟨?_, ⟨X.admits, X.cas, X.clock, X.frames, X.room, X.hears, X.method, X.code, (X.here.setHeapUsed z.heap z.slotsUsed).setVm hWU.alike, X.tail, State.WarmedH.trans X.warmed hWU, X.limits, X.bytes, X.same.trans (hsame.setVm s.vm)⟩⟩
    refine e3.trans ?_
    rw [State.calling_eq h.top, State.setFrames_setFrames]
    rfl
  rcases hq with ⟨hqc, L, hfe, hL⟩ | ⟨q, E, ce, L, rfl, hx, hce, hcv, hcl, hWz, hsz, hL⟩
  · obtain ⟨⟨v, rfl⟩, hWz, hsz⟩ := id hfe
    obtain ⟨ez, XZ⟩ := both L hWz hsz
    obtain ⟨c₂, i₂, len₂, hc₂, hd₂, hf₂⟩ := hend
    have hcc : c₂ = c := by
      have h1 : z.code? g.method = U.code? g.method := by
        rw [State.code?_eq, State.code?_eq, (show U.WarmedH z.vm from hWz).alike.method?]
      exact Option.some.inj (hc₂.symm.trans (h1.trans h.code))
    subst hcc
    have hlen : len₂ = len := by rw [hdg] at hd₂; cases hd₂; rfl
    subst hlen
    refine Or.inl ⟨v, U.calling g mk a, z, _, L, rfl, XZ, hL, rfl, hqc, ?_⟩
    rw [State.setTop_of_frames _ hr']
    have e5 : z = (({ U with heap := z.heap, slotsUsed := z.slotsUsed } : State).setVm z.vm).setFrames (.java { g with pc := g.pc + len₂, stack := v.toList ++ g.stack } :: r) := by
      refine ez.trans ?_
      rw [hf₂, hr]
      rfl
    rw [← e5]
    exact hsteps
  · obtain ⟨ez, XZ⟩ := both L hWz hsz
    have hf₂ : z.frames = .throwing q :: .java g :: U.frames.tail := hend
    have hcl9 : s.vm.findClass E = some ce.cls := by
      have h1 : U.vm.findClass E = some ce.cls := hcl
      rw [X.warmed.alike.findClass] at h1
      exact h1
    refine Or.inr ⟨q, E, ce, _, L, XZ, hL, hx, hce, hcv, hcl9, ?_⟩
    have e5 : z = ((({ U with heap := z.heap, slotsUsed := z.slotsUsed } : State).setVm z.vm).setTop g).pushFrame (.throwing q) := by
      refine ez.trans ?_
      rw [hf₂, State.pushFrame, State.frames_setTop' g (by rw [Option.isSome_iff_exists]; exact ⟨g₀, hg0⟩), State.setTop_of_frames _ hr', State.setFrames_setFrames]
      rfl
    rw [← e5]
    exact hsteps
end TCB
