-- THROWS: methods that return or throw (XM), the throw of a new exception, the caller that catches it
def tx_Q (Qc : Array Value → State → Outcome → State → Prop) (XC : String → Heap → Prop) (mc ms : Nat) (free : Addr → Prop) : Array Value → State → Outcome → State → Prop := fun a st o t =>
  (Qc a st o t ∧ ∃ L, FrameEnd st o t L mc ms ∧ ∀ q ∈ L, free q.base) ∨
  ∃ (q : Addr) (E : String) (ce : Cell) (L : List Loc), o = .threw q ∧ XC E t.heap ∧ t.heap[q]? = some ce ∧ ce.vm = .none ∧ st.vm.findClass E = some ce.cls ∧ st.WarmedH t.vm ∧ st.sameButNew ({ t with vm := st.vm } : State) L mc ms ∧ ∀ z ∈ L, free z.base
def tx_MQ (below : List Frame) (Qc : Array Value → State → Outcome → State → Prop) (XC : String → Heap → Prop) (a : Array Value) (s : State) (mc ms : Nat) (free : Addr → Prop) : State → Prop := fun t =>
  ∃ o, t.status = .running ∧ Ended t below o ∧ tx_Q Qc XC mc ms free a s o t
abbrev XM (l : Launch) (y : MethodName) (bytes : ByteArray) (maxL : Nat) (ret : Option FieldType) (fr lo mc ms : Nat) (av : List Value) (γ : gE) (A : Nat → Prop) (PS : State → Prop) (Qc : Array Value → State → Outcome → State → Prop) (XC : String → Heap → Prop) : Prop :=
  MetFree l y (headSpec (Cond.code y bytes maxL ret :: bs_W0) (bs_rm fr mc ms lo)) (va_Pc av (fun U => CX γ U ∧ (∀ q, U.heap.size ≤ q → A q) ∧ PS U)) (fun _ _ _ _ _ => True) (tx_Q Qc XC mc ms A)
/-- as seen from a start s0: warmer, and the old heap as it was -/
def FB (s0 U : State) (H : Heap) : Prop := s0.WarmedH U.vm ∧ s0.heap.size ≤ H.size ∧ ∀ a : Nat, a < s0.heap.size → H[a]? = s0.heap[a]?
theorem FB.warm {s0 s U : State} {H : Heap} (h : FB s0 s H) (hW : s.WarmedH U.vm) : FB s0 U H := ⟨State.WarmedH.trans h.1 hW, h.2⟩
theorem FB.same {s0 u U : State} {H : Heap} (h : FB s0 u H) (hv : u.vm = U.vm) : FB s0 U H := ⟨by rw [← hv]; exact h.1, h.2⟩
theorem FB.step {s0 U : State} {A : Nat → Prop} {H H1 : Heap} (h : FB s0 U H) (hA : ∀ q, A q → s0.heap.size ≤ q) (hz : H.size ≤ H1.size) (hk : ∀ q : Nat, q < H.size → ¬ A q → H1[q]? = H[q]?) : FB s0 U H1 :=
  ⟨h.1, Nat.le_trans h.2.1 hz, fun a ha => (hk a (Nat.lt_of_lt_of_le ha h.2.1) (fun h9 => absurd (hA a h9) (Nat.not_le_of_lt ha))).trans (h.2.2 a ha)⟩
theorem fb_lays {s0 U : State} {C n d : String} {args : Array Value} (hF : FB s0 U U.heap) (h : va_Nw (.laysStatic C n d) s0) : (Cond.laysStatic C n d).before args U = true := by
  obtain ⟨c, k, i, f, a, cell, h1, h2, h3, h4, h5, h6, h7, h8, h9⟩ := Cond.laysStatic_spec h
  obtain ⟨k', hi', he⟩ := State.fieldFound?_setVm hF.1.alike h2
  show (Cond.laysStatic C n d).holds args U none U [] = true
  exact Cond.laysStatic_of (by rw [hF.1.alike.findClass]; exact h1) hi' h3 (by rw [he]; exact h4) (by rw [hF.2.2 a (Array.getElem?_eq_some_iff.mp h5).1]; exact h5) h6 h7 h8 (by rw [he]; exact h9)
theorem fb_Z {s0 U : State} {C n d : String} {v : Value} {A : Nat → Prop} (hF : FB s0 U U.heap) (hA : ∀ q, A q → s0.heap.size ≤ q) (h : va_Z C n d v (fun q => s0.heap.size ≤ q) s0 s0.heap) : va_Z C n d v A U U.heap :=
  va_Z.narrow (va_Z.moved hF.1.alike (va_Z.kept h (fun a ha _ => hF.2.2 a ha))) hA
theorem fb_T {s0 U : State} {ty : FieldType} {t N : Nat} {f : Nat → Value} {A : Nat → Prop} (hF : FB s0 U U.heap) (hA : ∀ q, A q → s0.heap.size ≤ q) (h : va_T ty t N f (fun q => s0.heap.size ≤ q) s0 s0.heap) : va_T ty t N f A U U.heap :=
  va_T.narrow (va_T.moved hF.1.alike (va_T.kept h (fun a ha _ => hF.2.2 a ha))) hA
theorem fb_isRef {s0 U : State} {C n d : String} {args : Array Value} (hF : FB s0 U U.heap) (h : va_Zq C n d (fun q => s0.heap.size ≤ q) s0 s0.heap) : (Cond.isRef (.static C n d)).before args U = true := by
  have key : ∀ v : Value, v.isRef = true → va_Z C n d v (fun q => s0.heap.size ≤ q) s0 s0.heap → (Cond.isRef (.static C n d)).before args U = true := by
    intro v hv hz
    obtain ⟨cf, kf, fi, f, a, cell, h1, h2, h3, h4, h5, h6, h7, -⟩ := fb_Z hF (fun _ h => h) hz
    have he : (Term.static C n d).eval args U none [] U = some v := by
      simp [Term.eval, State.fieldNamed?, h1, h2, h4, h5, h6, h7]
    simp only [Cond.before, Cond.holds, Cond.value, he]
    cases v <;> simp_all [Value.isRef]
  rcases h with h | ⟨t, h⟩
  · exact key _ rfl h
  · exact key _ rfl h
theorem fw_c {P : Cond → Prop} {w : Cond} {L : List Cond} (h : P w) (t : ∀ w ∈ L, P w) : ∀ w' ∈ w :: L, P w' := fun w' h' => (List.mem_cons.mp h').elim (fun e => by rw [e]; exact h) (t w')
theorem fw_n {P : Cond → Prop} : ∀ w ∈ ([] : List Cond), P w := fun _ h => nomatch h
section TXA
variable {p : Program} {l : Launch} {e : Env} {R : Room} {s : State} {m : MethodId} {args : Array Value} {below : List Frame} {meth : Method} {c : Code} {H : Heap} {locs : List Loc} {cells slots : Nat} {Q : State → Prop}
variable {y : MethodName} {bytes cc : ByteArray} {maxL nL mc ms n index fr lo : Nat} {ret : Option FieldType} {own : String} {b : Addr} {As rest st0 av : List Value} {pc : Nat} {ls : Array Slot} {γ : gE} {PS : State → Prop} {A A0 : Nat → Prop} {H0 : Heap} {Qc : Array Value → State → Outcome → State → Prop} {XC : String → Heap → Prop} {T : State}
theorem tx_blind (hPS : ∀ u U : State, u.vm = U.vm → u.heap = U.heap → PS u → PS U) : FrameBlind (va_Pc av (fun U => CX γ U ∧ (∀ q, U.heap.size ≤ q → A q) ∧ PS U)) := fun _ U _ _ h => ⟨h.1, h.2.1.same rfl, h.2.2.1, hPS U _ rfl rfl h.2.2.2⟩
/-- opening -/
theorem tx_open (hy : plainName y.cls = true) (hn : (lg_sl av).length ≤ maxL)
    (body : ∀ (p : Program) (e : Env) (s : State) (m : MethodId) (below : List Frame) (meth : Method) (c : Code) (ls : Array Slot), bs_F p s m av.toArray c bytes maxL y.cls → meth.sig.returnType = ret → meth.locks = false → c.exceptionTable.toList = [] → CX γ s → (∀ q, s.heap.size ≤ q → A q) → PS s → lv_has ls maxL (lv_args 0 av) →
      W p l e (bs_rm fr mc ms lo) s m av.toArray below meth c s.heap [] 0 0 (tx_MQ below Qc XC av.toArray s mc ms A) (F0 m 0 ls [])) : XM l y bytes maxL ret fr lo mc ms av γ A PS Qc XC := by
  refine MetFree.of_bodyS (code := bytes) (maxLocals := maxL) (ret := ret) hy (fun a U k h hk => ?_) (fun p e s m a below meth c s₁ B hml hv _ => ?_)
  · obtain ⟨meth, c, h1, h2, h3, h4, h5, h6, -⟩ := Cond.code_spec hk (atoms_spec (ws := Cond.code y bytes maxL ret :: bs_W0) h _ List.mem_cons_self)
    exact ⟨meth, c, h1, h2, h3, h4, h5, h6⟩
  · obtain ⟨rfl, hC, hA, hP⟩ := hv
    have hall := atoms_spec (ws := Cond.code y bytes maxL ret :: bs_W0) B.pre
    obtain ⟨meth9, c9, h1, h2, -, -, -, -, h7, -⟩ := Cond.code_spec B.named (hall _ List.mem_cons_self)
    have X := Stand.of_body B
    have hX : c.exceptionTable.toList = [] := by
      cases Option.some.inj (B.method.symm.trans h1)
      cases Option.some.inj (X.code.symm.trans h2)
      have h0 : c.exceptionTable.size = 0 := by simpa [Array.isEmpty] using h7
      exact List.eq_nil_of_length_eq_zero (by simpa using h0)
    have hl := lv_entry av (n := maxL) hn
    have hh0 : s₁.heap = s.heap := by rw [B.state]; rfl
    have hb := body p e s m below meth c _ ⟨B.exec, B.bytes, hml, findClass_of_methodNamed B.named, bs_hts hall⟩ B.returns B.notSynchronized hX hC hA hP hl
    rw [← lg_entry_eq] at hb
    obtain ⟨t, a1, o, b1, b2, b3⟩ := hb s₁ hh0 X
    exact ⟨t, o, a1, b1, b2, b3⟩
/-- an end that returns -/
theorem tx_ret {g : JFrame} (k : W p l e R s m args below meth c H locs cells slots (MQ below Qc args s mc ms A) g) : W p l e R s m args below meth c H locs cells slots (tx_MQ below Qc XC args s mc ms A) g := by
  intro T hT X
  obtain ⟨t, h1, o, h2, h3, h4⟩ := k T hT X
  exact ⟨t, h1, o, h2, h3, Or.inl h4⟩
/-- the walk's point as a start of its own -/
theorem tx_here (X : Stand p l e R s m args below meth c T locs cells slots) {k j : Nat} (hc : cells + k ≤ R.cells) (hs : slots + j ≤ R.slots) :
    Stand p l e (bs_rm R.frames k j R.locals) ((T.setVm s.vm).setFrames (.invoking m args :: below)) m args below meth c T [] 0 0 := by
  have htop : (T.setVm s.vm).topJava?.isSome := X.here.top
  have hfr : ((T.setVm s.vm).setFrames (.invoking m args :: below)).frames = .invoking m args :: below := State.frames_setFrames _ (State.cur_lt_of_top htop)
  have hweight : ((T.setVm s.vm).setFrames (.invoking m args :: below)).localsInUse = s.localsInUse :=
    (State.localsInUse_invoking hfr X.method X.code).trans (State.localsInUse_invoking X.frames X.method X.code).symm
  have hlim : e.platform.stackLimits ((T.setVm s.vm).setFrames (.invoking m args :: below)).me = e.platform.stackLimits s.me := by
    rw [State.stackLimits_setFrames]
    exact X.limits
  have hby : ((T.setVm s.vm).setFrames (.invoking m args :: below)).me.stackBytes = s.me.stackBytes := by
    rw [State.stackBytes_setFrames]
    exact X.bytes
  have hroom : ((T.setVm s.vm).setFrames (.invoking m args :: below)).hasRoom e.platform (bs_rm R.frames k j R.locals) = true := by
    have h := X.room
    have q1 := X.heapSize
    have q2 := X.used
    simp only [State.hasRoom, Bool.and_eq_true, decide_eq_true_eq] at h ⊢
    obtain ⟨⟨⟨⟨a1, a2, a3, a4, a5, a6⟩, a7⟩, a8⟩, -⟩ := h
    rw [X.frames] at a2 a3
    rw [hweight, hlim, hby, hfr]
    have h7 : T.heap.size + k ≤ e.platform.maxCells := by omega
    have h8 : T.slotsUsed + j ≤ e.platform.maxSlots := by omega
    exact ⟨⟨⟨⟨a1, a2, a3, a4, a5, a6⟩, h7⟩, h8⟩, X.book⟩
  have hnone : ((T.heap.toList.drop T.heap.size).map (·.slots.size)).sum = 0 := by
    rw [List.drop_eq_nil_of_le (Nat.le_of_eq (by simp))]
    rfl
  obtain ⟨g₀, hg0⟩ := Option.isSome_iff_exists.mp htop
  obtain ⟨r, hr⟩ := State.topJava?_eq_some.mp hg0
  obtain ⟨t, ht, -⟩ := State.frames_cons hr
  have hself : T.setVm s.vm = { ((T.setVm s.vm).setFrames (.invoking m args :: below)).setFrames (T.setVm s.vm).frames with heap := T.heap, slotsUsed := T.slotsUsed } := by
    rw [State.setFrames_setFrames, State.setFrames_self ht]
    rfl
  exact ⟨X.admits, X.cas, X.clock, hfr, hroom, X.hears, X.method, X.code, X.here, X.tail, X.warmed, X.limits.trans hlim.symm, X.bytes.trans hby.symm,
    hself, Nat.le_refl _, Nat.le_refl _, by show T.slotsUsed = T.slotsUsed + ((T.heap.toList.drop T.heap.size).map (·.slots.size)).sum; rw [hnone]; rfl, by show ((T.heap.toList.drop T.heap.size).map (·.slots.size)).sum ≤ 0; rw [hnone]; exact Nat.le_refl _, fun a c9 h9 => ⟨c9, h9, rfl, rfl, fun _ _ => rfl⟩⟩
end TXA
section TXT
variable {p : Program} {l : Launch} {e : Env} {R : Room} {s s0 : State} {m : MethodId} {args : Array Value} {below : List Frame} {meth : Method} {c : Code} {H : Heap} {locs : List Loc} {cells slots : Nat}
variable {cc : ByteArray} {mc ms nL pc : Nat} {own : String} {rest : List Value} {ls : Array Slot} {A : Nat → Prop} {Qc : Array Value → State → Outcome → State → Prop} {XC : String → Heap → Prop}
/-- 'throw new E("..")' -/
theorem tx_throw {cls text : String} {names : List String} {ik is ic sa : Nat} (S : bs_F p s m args c cc nL own) (hl : l.stackTraces = false) (hX : c.exceptionTable.toList = []) (hlocks : meth.locks = false)
    (hcls : Bundle.fit cls = true) (hnames : ∀ n ∈ names, Bundle.fit n = true) (hk : Cond.classLink own ik cls ∈ bs_W0) (hini : Cond.initialized cls ∈ bs_W0)
    (hF : FB s0 s H) (hstr : vk_R own is text sa s0) (hat : ∀ U : State, FB s0 U U.heap → U.vm = s.vm → ∀ w ∈ Bundle.ownAtoms own ic cls names, w.before args U = true)
    (hsize : ls.size = nL) (d0 : decode cc pc = .ok (.new ik, 3)) (d3 : decode cc (pc + 3) = .ok (.dup, 1)) (d4 : decode cc (pc + 4) = .ok (.ldc is, 2)) (d6 : decode cc (pc + 6) = .ok (.invokespecial ic, 3)) (d9 : decode cc (pc + 9) = .ok (.athrow, 1))
    (hRf : names.length + 3 < R.frames) (hRl : (rest.map fun v => v.category).sum + (13 * (names.length + 1) + 43) ≤ R.locals) (hRc : cells + 1 ≤ R.cells) (hRs : slots + 6 ≤ R.slots)
    (hx : ∀ H1 : Heap, GR s.heap H1 (cells + 1) (slots + 6) → H.size ≤ H1.size → (∀ q : Nat, q < H.size → H1[q]? = H[q]?) → XC cls H1)
    (hf : ∀ z ∈ locs, A z.base) (hc : cells + 1 ≤ mc) (hs : slots + 6 ≤ ms) :
    W p l e R s m args below meth c H locs cells slots (tx_MQ below Qc XC args s mc ms A) (F0 m pc ls rest) := by
  intro T hT X
  obtain ⟨hx0, hb, hml, hown, hW⟩ := S
  subst hb
  have htr : e.platform.stackTraces = false := (show e.platform.stackTraces = l.stackTraces by rw [X.admits.platform]).trans hl
  have Y := tx_here X (k := 1) (j := 6) hRc hRs
  obtain ⟨u, hu⟩ : ∃ z, z = (T.setVm s.vm).setFrames (.invoking m args :: below) := ⟨_, rfl⟩
  rw [← hu] at Y
  have hv : u.vm = s.vm := by rw [hu]; rfl
  have hh : u.heap = H := by rw [hu]; exact hT
  have hWu : s.WarmedH u.vm := by rw [hv]; exact State.WarmedH.refl s
  have hFu : FB s0 u u.heap := by rw [hh]; exact hF.same hv.symm
  have hw : ∀ w ∈ bs_W0, w.before args u = true := fun w h => word_at hWu (good_of_word (List.mem_filter.mp h).2) (hW w h)
  have hatu := hat u hFu hv
  have hownu : u.vm.findClass own = some m.cls := by rw [hv]; exact hown
  obtain ⟨vm₁, cX, kX, hfX, hkX, -, -, X₁, st1⟩ := Y.newCold hx0 (own := own) (C := cls) (index := ik) (n := 6) hownu (hw _ hk) (hatu _ (by simp [Bundle.ownAtoms])) (hw _ hini) (g := F0 m pc ls rest) rfl d0 (Nat.le_refl _) (Nat.le_refl _)
  generalize hT1 : (T.setVm vm₁).pushCell { cls := cX, slots := kX.instanceTypes.map defaultValue, vm := .none } = T1 at X₁ st1
  have hcell : T1.heap[T.heap.size]? = some (freshCell cX kX) := by rw [← hT1]; exact State.heap_pushCell_size _ _
  have hstru : vk_R own is text sa u := vk_R.warm hFu.1 hstr
  have hcat : (Value.ref T.heap.size).category = 1 := rfl
  obtain ⟨U, hsteps, hrun, hend, hWU, hsame, ce, hce, hO⟩ := X₁.ctorThrowS hx0 htr (own := own) (cls := cls) (names := names) (ic := ic) hownu hcls hnames hatu (fun _ h => nomatch h) hfX hkX hcell (by rw [hh, hT]; exact Nat.le_refl _) (msg := .ref sa) rfl
    (g := F0 m (pc + 6) ls (.ref sa :: .ref T.heap.size :: .ref T.heap.size :: rest)) rfl (hsize.trans hml.symm) rfl rfl (rest := rest) rfl d6 d9 (by rw [hX]; exact fun _ h => nomatch h) hRf (by simp only [List.map_cons, List.sum_cons, hcat]; show 2 * 0 + _ + _ ≤ R.locals; omega) hlocks
  have hz : H.size ≤ U.heap.size := by
    have h9 := hsame.2.1
    rw [hh] at h9
    exact h9
  have ho : ∀ q : Nat, q < H.size → U.heap[q]? = H[q]? := by
    intro q hq
    obtain ⟨c9, hc9⟩ : ∃ z, u.heap[q]? = some z := ⟨_, Array.getElem?_eq_getElem (by rw [hh]; exact hq)⟩
    have h9 := State.sameButNew.old_cell hsame hc9
    rw [hh] at hc9
    exact h9.trans hc9.symm
  have hcl : s.vm.findClass cls = some ce.cls := by rw [← hv]; exact hO.cls
  have hall : s.sameButNew ({ U with vm := s.vm } : State) locs (cells + 1) (slots + 6) := by
    have h2 : (T.setVm s.vm).sameButNew ({ U with vm := s.vm } : State) [] (0 + 1) (0 + 6) := by
      rw [hu] at hsame
      obtain ⟨e1, e2⟩ := hsame
      rw [State.setFrames_setFrames] at e1
      exact ⟨e1, e2⟩
    have h3 := X.same.trans h2
    rw [List.append_nil] at h3
    exact h3
  have hG : GR s.heap U.heap (cells + 1) (slots + 6) := by
    obtain ⟨-, a2, a3, -, a5, a6⟩ := hall
    exact ⟨a2, a3, a5, fun a c h => by obtain ⟨c', b1, -, b3, -⟩ := a6 a c h; exact ⟨c', b1, b3⟩⟩
  refine ⟨U, ?_, .threw T.heap.size, hrun, hend, Or.inr ⟨T.heap.size, cls, ce, locs, rfl, hx U.heap hG hz ho, hce, hO.vm, hcl, State.WarmedH.trans hWu hWU, hall.mono hc hs, hf⟩⟩
  refine st1 _ ?_
  show Steps p.tables e below (T1.setTop (F0 m (pc + 3) ls (.ref T.heap.size :: rest))) _
  jvm_step X₁.here [X₁.here.top, hx0, d3, Value.category]
  exact X₁.ldcString hx0 (own := own) (text := text) (index := is) (a := sa) hownu hstru.1 hstru.2 (g := F0 m (pc + 4) ls (.ref T.heap.size :: .ref T.heap.size :: rest)) rfl d4 _ hsteps
theorem W.up {g : JFrame} {Q : State → Prop} {k n : Nat} (h1 : cells ≤ k) (h2 : slots ≤ n) (kk : W p l e R s m args below meth c H locs k n Q g) : W p l e R s m args below meth c H locs cells slots Q g :=
  W.know (fun a b _ => W.tight (Nat.le_trans a (Nat.add_le_add_left h1 _)) (Nat.le_trans b h2) kk)
/-- the end of a method that might have thrown -/
theorem tx_endI {PO : Int32 → Heap → Prop} {v : Int32} (S : bs_F p s m args c cc nL own) (hr : meth.sig.returnType = some .int) (hlk : meth.locks = false) (hS : va_S A s.heap H locs) (hc : cells ≤ mc) (hs : slots ≤ ms) (hp : GR s.heap H cells slots → PO v H) (hdg : decode cc pc = .ok (.ireturn, 1)) :
    W p l e R s m args below meth c H locs cells slots (tx_MQ below (mQi PO A) XC args s mc ms A) (F0 m pc ls [.int v]) := by
  refine W.know (fun a b d => ?_)
  have hpo := hp ⟨hS.1, a, b, d⟩
  refine W.up hc hs ?_
  refine tx_ret ?_
  exact W.iret S.1 S.2.1 hr (fun t ht _ => ⟨⟨v, v, rfl, rfl, by show PO v t.heap; rw [ht]; exact hpo⟩, hS.F ht⟩) hS.2.2 hdg hlk
end TXT
