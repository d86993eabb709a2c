theorem qw_7c2f99d6ce : (Cond.methodLink R_jArrays 304 Lib.Math.min.name) ∈ bs_W0 := bs_in (in_tables_1_1 (List.mem_of_getElem? (i := 93) rfl)) rfl
theorem qw_917c68b328 : (Cond.methodLink R_jArrays 150 ⟨"java/lang/System", "arraycopy", "(Ljava/lang/Object;ILjava/lang/Object;II)V"⟩) ∈ bs_W0 := bs_in (in_tables_1_1 (List.mem_of_getElem? (i := 96) rfl)) rfl
theorem qw_8e969fb20a : (Cond.arrayClass .int) ∈ bs_W0 := bs_in (in_tables_1_1 (List.mem_of_getElem? (i := 59) rfl)) rfl
theorem qw_6933bd775d : (Cond.arrayClass .long) ∈ bs_W0 := bs_in (in_tables_1_1 (List.mem_of_getElem? (i := 175) rfl)) rfl
theorem qw_0d2310d85d : (Cond.methodLink R_TypeBook 251 Lib.Math.max.name) ∈ bs_W0 := bs_in (in_tables_1_1 (List.mem_of_getElem? (i := 80) rfl)) rfl
theorem qw_13b4208a4c : (Cond.methodLink R_TypeBook 256 yjArrays_copyOf) ∈ bs_W0 := bs_in (in_tables_1_1 (List.mem_of_getElem? (i := 83) rfl)) rfl
theorem qn_fe62be3d74 : (Cond.methodLinkNest R_Types 56 yTypeBook_withRoom "TypeBook") ∈ lw_tbl := in_tables_1_1 (List.mem_of_getElem? (i := 138) rfl)
theorem qn_8953b9cb9f : (Cond.methodLinkNest R_Names 64 yTypeBook_withRoom "TypeBook") ∈ lw_tbl := in_tables_1_1 (List.mem_of_getElem? (i := 77) rfl)
theorem qn_1ebf0e5650 : (Cond.methodLinkNest R_Trees 39 yTypeBook_withRoom "TypeBook") ∈ lw_tbl := in_tables_1_2 (List.mem_of_getElem? (i := 190) rfl)
theorem qw_986a639143 : (Cond.fieldLink R_Trees 28 R_Trees "roots" "I") ∈ bs_W0 := bs_in (in_tables_1_1 (List.mem_of_getElem? (i := 44) rfl)) rfl
theorem qw_d78519f1e2 : (Cond.methodLink R_Rows 9 Lib.Math.max.name) ∈ bs_W0 := bs_in (in_tables_1_1 (List.mem_of_getElem? (i := 170) rfl)) rfl
theorem qw_04147e0ed0 : (Cond.methodLink R_Rows 21 yjArrays_copyOfL) ∈ bs_W0 := bs_in (in_tables_1_2 (List.mem_of_getElem? (i := 208) rfl)) rfl
theorem qn_2c49eba5a7 : (Cond.methodLinkNest R_Looks 36 yTypeBook_withRoom "TypeBook") ∈ lw_tbl := in_tables_1_2 (List.mem_of_getElem? (i := 203) rfl)
theorem qw_7de9d707b8 : (Cond.methodLink R_Looks 40 yRows_makeRoom) ∈ bs_W0 := bs_in (in_tables_1_2 (List.mem_of_getElem? (i := 204) rfl)) rfl
theorem qn_f0b29a9b3b : (Cond.methodLinkNest R_Objects 38 yTypeBook_withRoom "TypeBook") ∈ lw_tbl := in_tables_1_5 (List.mem_of_getElem? (i := 88) rfl)
theorem qw_c89579b831 : (Cond.methodLink R_Objects 42 yRows_makeRoom) ∈ bs_W0 := bs_in (in_tables_1_5 (List.mem_of_getElem? (i := 89) rfl)) rfl
theorem qw_7bace46e86 : (Cond.methodLink R_Looker 56 yLooks_makeRoom) ∈ bs_W0 := bs_in (in_tables_1_2 (List.mem_of_getElem? (i := 228) rfl)) rfl
theorem qn_96bc77af43 : (Cond.methodLinkNest R_Looker 60 yTypeBook_withRoom "TypeBook") ∈ lw_tbl := in_tables_1_2 (List.mem_of_getElem? (i := 229) rfl)
theorem qw_14b8232d09 : (Cond.methodLink R_Looker 202 yTypes_put) ∈ bs_W0 := bs_in (in_tables_1_5 (List.mem_of_getElem? (i := 4) rfl)) rfl
-- THROWS: methods that return or throw (XM), the throw of a new exception, the caller that catches it
def tx_Q (Qc : Array Value → State → Outcome → State → Prop) (XC : String → Heap → Prop) (mc ms : Nat) (free : Addr → Prop) : Array Value → State → Outcome → State → Prop := fun a st o t =>
  (Qc a st o t ∧ ∃ L, FrameEnd st o t L mc ms ∧ ∀ q ∈ L, free q.base) ∨
  ∃ (q : Addr) (E : String) (ce : Cell) (L : List Loc), o = .threw q ∧ XC E t.heap ∧ t.heap[q]? = some ce ∧ ce.vm = .none ∧ st.vm.findClass E = some ce.cls ∧ st.WarmedH t.vm ∧ st.sameButNew ({ t with vm := st.vm } : State) L mc ms ∧ ∀ z ∈ L, free z.base
def tx_MQ (below : List Frame) (Qc : Array Value → State → Outcome → State → Prop) (XC : String → Heap → Prop) (a : Array Value) (s : State) (mc ms : Nat) (free : Addr → Prop) : State → Prop := fun t =>
  ∃ o, t.status = .running ∧ Ended t below o ∧ tx_Q Qc XC mc ms free a s o t
abbrev XM (l : Launch) (y : MethodName) (bytes : ByteArray) (maxL : Nat) (ret : Option FieldType) (fr lo mc ms : Nat) (av : List Value) (γ : gE) (A : Nat → Prop) (PS : State → Prop) (Qc : Array Value → State → Outcome → State → Prop) (XC : String → Heap → Prop) : Prop :=
  MetFree l y (headSpec (Cond.code y bytes maxL ret :: bs_W0) (bs_rm fr mc ms lo)) (va_Pc av (fun U => CX γ U ∧ (∀ q, U.heap.size ≤ q → A q) ∧ PS U)) (fun _ _ _ _ _ => True) (tx_Q Qc XC mc ms A)
/-- as seen from a start s0: warmer, and the old heap as it was -/
def FB (s0 U : State) (H : Heap) : Prop := s0.WarmedH U.vm ∧ s0.heap.size ≤ H.size ∧ ∀ a : Nat, a < s0.heap.size → H[a]? = s0.heap[a]?
theorem FB.warm {s0 s U : State} {H : Heap} (h : FB s0 s H) (hW : s.WarmedH U.vm) : FB s0 U H := ⟨State.WarmedH.trans h.1 hW, h.2⟩
theorem FB.same {s0 u U : State} {H : Heap} (h : FB s0 u H) (hv : u.vm = U.vm) : FB s0 U H := ⟨by rw [← hv]; exact h.1, h.2⟩
theorem FB.step {s0 U : State} {A : Nat → Prop} {H H1 : Heap} (h : FB s0 U H) (hA : ∀ q, A q → s0.heap.size ≤ q) (hz : H.size ≤ H1.size) (hk : ∀ q : Nat, q < H.size → ¬ A q → H1[q]? = H[q]?) : FB s0 U H1 :=
  ⟨h.1, Nat.le_trans h.2.1 hz, fun a ha => (hk a (Nat.lt_of_lt_of_le ha h.2.1) (fun h9 => absurd (hA a h9) (Nat.not_le_of_lt ha))).trans (h.2.2 a ha)⟩
theorem fb_lays {s0 U : State} {C n d : String} {args : Array Value} (hF : FB s0 U U.heap) (h : va_Nw (.laysStatic C n d) s0) : (Cond.laysStatic C n d).before args U = true := by
  obtain ⟨c, k, i, f, a, cell, h1, h2, h3, h4, h5, h6, h7, h8, h9⟩ := Cond.laysStatic_spec h
  obtain ⟨k', hi', he⟩ := State.fieldFound?_setVm hF.1.alike h2
  show (Cond.laysStatic C n d).holds args U none U [] = true
  exact Cond.laysStatic_of (by rw [hF.1.alike.findClass]; exact h1) hi' h3 (by rw [he]; exact h4) (by rw [hF.2.2 a (Array.getElem?_eq_some_iff.mp h5).1]; exact h5) h6 h7 h8 (by rw [he]; exact h9)
theorem fb_Z {s0 U : State} {C n d : String} {v : Value} {A : Nat → Prop} (hF : FB s0 U U.heap) (hA : ∀ q, A q → s0.heap.size ≤ q) (h : va_Z C n d v (fun q => s0.heap.size ≤ q) s0 s0.heap) : va_Z C n d v A U U.heap :=
  va_Z.narrow (va_Z.moved hF.1.alike (va_Z.kept h (fun a ha _ => hF.2.2 a ha))) hA
theorem fb_T {s0 U : State} {ty : FieldType} {t N : Nat} {f : Nat → Value} {A : Nat → Prop} (hF : FB s0 U U.heap) (hA : ∀ q, A q → s0.heap.size ≤ q) (h : va_T ty t N f (fun q => s0.heap.size ≤ q) s0 s0.heap) : va_T ty t N f A U U.heap :=
  va_T.narrow (va_T.moved hF.1.alike (va_T.kept h (fun a ha _ => hF.2.2 a ha))) hA
theorem fb_isRef {s0 U : State} {C n d : String} {args : Array Value} (hF : FB s0 U U.heap) (h : va_Zq C n d (fun q => s0.heap.size ≤ q) s0 s0.heap) : (Cond.isRef (.static C n d)).before args U = true := by
  have key : ∀ v : Value, v.isRef = true → va_Z C n d v (fun q => s0.heap.size ≤ q) s0 s0.heap → (Cond.isRef (.static C n d)).before args U = true := by
    intro v hv hz
    obtain ⟨cf, kf, fi, f, a, cell, h1, h2, h3, h4, h5, h6, h7, -⟩ := fb_Z hF (fun _ h => h) hz
    have he : (Term.static C n d).eval args U none [] U = some v := by
      simp [Term.eval, State.fieldNamed?, h1, h2, h4, h5, h6, h7]
    simp only [Cond.before, Cond.holds, Cond.value, he]
    cases v <;> simp_all [Value.isRef]
  rcases h with h | ⟨t, h⟩
  · exact key _ rfl h
  · exact key _ rfl h
theorem fw_c {P : Cond → Prop} {w : Cond} {L : List Cond} (h : P w) (t : ∀ w ∈ L, P w) : ∀ w' ∈ w :: L, P w' := fun w' h' => (List.mem_cons.mp h').elim (fun e => by rw [e]; exact h) (t w')
theorem fw_n {P : Cond → Prop} : ∀ w ∈ ([] : List Cond), P w := fun _ h => nomatch h
section TXA
variable {p : Program} {l : Launch} {e : Env} {R : Room} {s : State} {m : MethodId} {args : Array Value} {below : List Frame} {meth : Method} {c : Code} {H : Heap} {locs : List Loc} {cells slots : Nat} {Q : State → Prop}
variable {y : MethodName} {bytes cc : ByteArray} {maxL nL mc ms n index fr lo : Nat} {ret : Option FieldType} {own : String} {b : Addr} {As rest st0 av : List Value} {pc : Nat} {ls : Array Slot} {γ : gE} {PS : State → Prop} {A A0 : Nat → Prop} {H0 : Heap} {Qc : Array Value → State → Outcome → State → Prop} {XC : String → Heap → Prop} {T : State}
theorem tx_blind (hPS : ∀ u U : State, u.vm = U.vm → u.heap = U.heap → PS u → PS U) : FrameBlind (va_Pc av (fun U => CX γ U ∧ (∀ q, U.heap.size ≤ q → A q) ∧ PS U)) := fun _ U _ _ h => ⟨h.1, h.2.1.same rfl, h.2.2.1, hPS U _ rfl rfl h.2.2.2⟩
/-- opening -/
theorem tx_open (hy : plainName y.cls = true) (hn : (lg_sl av).length ≤ maxL)
    (body : ∀ (p : Program) (e : Env) (s : State) (m : MethodId) (below : List Frame) (meth : Method) (c : Code) (ls : Array Slot), bs_F p s m av.toArray c bytes maxL y.cls → meth.sig.returnType = ret → meth.locks = false → c.exceptionTable.toList = [] → CX γ s → (∀ q, s.heap.size ≤ q → A q) → PS s → lv_has ls maxL (lv_args 0 av) →
      W p l e (bs_rm fr mc ms lo) s m av.toArray below meth c s.heap [] 0 0 (tx_MQ below Qc XC av.toArray s mc ms A) (F0 m 0 ls [])) : XM l y bytes maxL ret fr lo mc ms av γ A PS Qc XC := by
  refine MetFree.of_bodyS (code := bytes) (maxLocals := maxL) (ret := ret) hy (fun a U k h hk => ?_) (fun p e s m a below meth c s₁ B hml hv _ => ?_)
  · obtain ⟨meth, c, h1, h2, h3, h4, h5, h6, -⟩ := Cond.code_spec hk (atoms_spec (ws := Cond.code y bytes maxL ret :: bs_W0) h _ List.mem_cons_self)
    exact ⟨meth, c, h1, h2, h3, h4, h5, h6⟩
  · obtain ⟨rfl, hC, hA, hP⟩ := hv
    have hall := atoms_spec (ws := Cond.code y bytes maxL ret :: bs_W0) B.pre
    obtain ⟨meth9, c9, h1, h2, -, -, -, -, h7, -⟩ := Cond.code_spec B.named (hall _ List.mem_cons_self)
    have X := Stand.of_body B
    have hX : c.exceptionTable.toList = [] := by
      cases Option.some.inj (B.method.symm.trans h1)
      cases Option.some.inj (X.code.symm.trans h2)
      have h0 : c.exceptionTable.size = 0 := by simpa [Array.isEmpty] using h7
      exact List.eq_nil_of_length_eq_zero (by simpa using h0)
    have hl := lv_entry av (n := maxL) hn
    have hh0 : s₁.heap = s.heap := by rw [B.state]; rfl
    have hb := body p e s m below meth c _ ⟨B.exec, B.bytes, hml, findClass_of_methodNamed B.named, bs_hts hall⟩ B.returns B.notSynchronized hX hC hA hP hl
    rw [← lg_entry_eq] at hb
    obtain ⟨t, a1, o, b1, b2, b3⟩ := hb s₁ hh0 X
    exact ⟨t, o, a1, b1, b2, b3⟩
/-- an end that returns -/
theorem tx_ret {g : JFrame} (k : W p l e R s m args below meth c H locs cells slots (MQ below Qc args s mc ms A) g) : W p l e R s m args below meth c H locs cells slots (tx_MQ below Qc XC args s mc ms A) g := by
  intro T hT X
  obtain ⟨t, h1, o, h2, h3, h4⟩ := k T hT X
  exact ⟨t, h1, o, h2, h3, Or.inl h4⟩
/-- the walk's point as a start of its own -/
theorem tx_here (X : Stand p l e R s m args below meth c T locs cells slots) {k j : Nat} (hc : cells + k ≤ R.cells) (hs : slots + j ≤ R.slots) :
    Stand p l e (bs_rm R.frames k j R.locals) ((T.setVm s.vm).setFrames (.invoking m args :: below)) m args below meth c T [] 0 0 := by
  have htop : (T.setVm s.vm).topJava?.isSome := X.here.top
  have hfr : ((T.setVm s.vm).setFrames (.invoking m args :: below)).frames = .invoking m args :: below := State.frames_setFrames _ (State.cur_lt_of_top htop)
  have hweight : ((T.setVm s.vm).setFrames (.invoking m args :: below)).localsInUse = s.localsInUse :=
    (State.localsInUse_invoking hfr X.method X.code).trans (State.localsInUse_invoking X.frames X.method X.code).symm
  have hlim : e.platform.stackLimits ((T.setVm s.vm).setFrames (.invoking m args :: below)).me = e.platform.stackLimits s.me := by
    rw [State.stackLimits_setFrames]
    exact X.limits
  have hby : ((T.setVm s.vm).setFrames (.invoking m args :: below)).me.stackBytes = s.me.stackBytes := by
    rw [State.stackBytes_setFrames]
    exact X.bytes
  have hroom : ((T.setVm s.vm).setFrames (.invoking m args :: below)).hasRoom e.platform (bs_rm R.frames k j R.locals) = true := by
    have h := X.room
    have q1 := X.heapSize
    have q2 := X.used
    simp only [State.hasRoom, Bool.and_eq_true, decide_eq_true_eq] at h ⊢
    obtain ⟨⟨⟨⟨a1, a2, a3, a4, a5, a6⟩, a7⟩, a8⟩, -⟩ := h
    rw [X.frames] at a2 a3
    rw [hweight, hlim, hby, hfr]
    have h7 : T.heap.size + k ≤ e.platform.maxCells := by omega
    have h8 : T.slotsUsed + j ≤ e.platform.maxSlots := by omega
    exact ⟨⟨⟨⟨a1, a2, a3, a4, a5, a6⟩, h7⟩, h8⟩, X.book⟩
  have hnone : ((T.heap.toList.drop T.heap.size).map (·.slots.size)).sum = 0 := by
    rw [List.drop_eq_nil_of_le (Nat.le_of_eq (by simp))]
    rfl
  obtain ⟨g₀, hg0⟩ := Option.isSome_iff_exists.mp htop
  obtain ⟨r, hr⟩ := State.topJava?_eq_some.mp hg0
  obtain ⟨t, ht, -⟩ := State.frames_cons hr
  have hself : T.setVm s.vm = { ((T.setVm s.vm).setFrames (.invoking m args :: below)).setFrames (T.setVm s.vm).frames with heap := T.heap, slotsUsed := T.slotsUsed } := by
    rw [State.setFrames_setFrames, State.setFrames_self ht]
    rfl
  exact ⟨X.admits, X.cas, X.clock, hfr, hroom, X.hears, X.method, X.code, X.here, X.tail, X.warmed, X.limits.trans hlim.symm, X.bytes.trans hby.symm,
    hself, Nat.le_refl _, Nat.le_refl _, by show T.slotsUsed = T.slotsUsed + ((T.heap.toList.drop T.heap.size).map (·.slots.size)).sum; rw [hnone]; rfl, by show ((T.heap.toList.drop T.heap.size).map (·.slots.size)).sum ≤ 0; rw [hnone]; exact Nat.le_refl _, fun a c9 h9 => ⟨c9, h9, rfl, rfl, fun _ _ => rfl⟩⟩
end TXA
section TXT
variable {p : Program} {l : Launch} {e : Env} {R : Room} {s s0 : State} {m : MethodId} {args : Array Value} {below : List Frame} {meth : Method} {c : Code} {H : Heap} {locs : List Loc} {cells slots : Nat}
variable {cc : ByteArray} {mc ms nL pc : Nat} {own : String} {rest : List Value} {ls : Array Slot} {A : Nat → Prop} {Qc : Array Value → State → Outcome → State → Prop} {XC : String → Heap → Prop}
/-- 'throw new E("..")' -/
theorem tx_throw {cls text : String} {names : List String} {ik is ic sa : Nat} (S : bs_F p s m args c cc nL own) (hl : l.stackTraces = false) (hX : c.exceptionTable.toList = []) (hlocks : meth.locks = false)
    (hcls : Bundle.fit cls = true) (hnames : ∀ n ∈ names, Bundle.fit n = true) (hk : Cond.classLink own ik cls ∈ bs_W0) (hini : Cond.initialized cls ∈ bs_W0)
    (hF : FB s0 s H) (hstr : vk_R own is text sa s0) (hat : ∀ U : State, FB s0 U U.heap → U.vm = s.vm → ∀ w ∈ Bundle.ownAtoms own ic cls names, w.before args U = true)
    (hsize : ls.size = nL) (d0 : decode cc pc = .ok (.new ik, 3)) (d3 : decode cc (pc + 3) = .ok (.dup, 1)) (d4 : decode cc (pc + 4) = .ok (.ldc is, 2)) (d6 : decode cc (pc + 6) = .ok (.invokespecial ic, 3)) (d9 : decode cc (pc + 9) = .ok (.athrow, 1))
    (hRf : names.length + 3 < R.frames) (hRl : (rest.map fun v => v.category).sum + (13 * (names.length + 1) + 43) ≤ R.locals) (hRc : cells + 1 ≤ R.cells) (hRs : slots + 6 ≤ R.slots)
    (hx : ∀ H1 : Heap, GR s.heap H1 (cells + 1) (slots + 6) → H.size ≤ H1.size → (∀ q : Nat, q < H.size → H1[q]? = H[q]?) → XC cls H1)
    (hf : ∀ z ∈ locs, A z.base) (hc : cells + 1 ≤ mc) (hs : slots + 6 ≤ ms) :
    W p l e R s m args below meth c H locs cells slots (tx_MQ below Qc XC args s mc ms A) (F0 m pc ls rest) := by
  intro T hT X
  obtain ⟨hx0, hb, hml, hown, hW⟩ := S
  subst hb
  have htr : e.platform.stackTraces = false := (show e.platform.stackTraces = l.stackTraces by rw [X.admits.platform]).trans hl
  have Y := tx_here X (k := 1) (j := 6) hRc hRs
  obtain ⟨u, hu⟩ : ∃ z, z = (T.setVm s.vm).setFrames (.invoking m args :: below) := ⟨_, rfl⟩
  rw [← hu] at Y
  have hv : u.vm = s.vm := by rw [hu]; rfl
  have hh : u.heap = H := by rw [hu]; exact hT
  have hWu : s.WarmedH u.vm := by rw [hv]; exact State.WarmedH.refl s
  have hFu : FB s0 u u.heap := by rw [hh]; exact hF.same hv.symm
  have hw : ∀ w ∈ bs_W0, w.before args u = true := fun w h => word_at hWu (good_of_word (List.mem_filter.mp h).2) (hW w h)
  have hatu := hat u hFu hv
  have hownu : u.vm.findClass own = some m.cls := by rw [hv]; exact hown
  obtain ⟨vm₁, cX, kX, hfX, hkX, -, -, X₁, st1⟩ := Y.newCold hx0 (own := own) (C := cls) (index := ik) (n := 6) hownu (hw _ hk) (hatu _ (by simp [Bundle.ownAtoms])) (hw _ hini) (g := F0 m pc ls rest) rfl d0 (Nat.le_refl _) (Nat.le_refl _)
  generalize hT1 : (T.setVm vm₁).pushCell { cls := cX, slots := kX.instanceTypes.map defaultValue, vm := .none } = T1 at X₁ st1
  have hcell : T1.heap[T.heap.size]? = some (freshCell cX kX) := by rw [← hT1]; exact State.heap_pushCell_size _ _
  have hstru : vk_R own is text sa u := vk_R.warm hFu.1 hstr
  have hcat : (Value.ref T.heap.size).category = 1 := rfl
  obtain ⟨U, hsteps, hrun, hend, hWU, hsame, ce, hce, hO⟩ := X₁.ctorThrowS hx0 htr (own := own) (cls := cls) (names := names) (ic := ic) hownu hcls hnames hatu (fun _ h => nomatch h) hfX hkX hcell (by rw [hh, hT]; exact Nat.le_refl _) (msg := .ref sa) rfl
    (g := F0 m (pc + 6) ls (.ref sa :: .ref T.heap.size :: .ref T.heap.size :: rest)) rfl (hsize.trans hml.symm) rfl rfl (rest := rest) rfl d6 d9 (by rw [hX]; exact fun _ h => nomatch h) hRf (by simp only [List.map_cons, List.sum_cons, hcat]; show 2 * 0 + _ + _ ≤ R.locals; omega) hlocks
  have hz : H.size ≤ U.heap.size := by
    have h9 := hsame.2.1
    rw [hh] at h9
    exact h9
  have ho : ∀ q : Nat, q < H.size → U.heap[q]? = H[q]? := by
    intro q hq
    obtain ⟨c9, hc9⟩ : ∃ z, u.heap[q]? = some z := ⟨_, Array.getElem?_eq_getElem (by rw [hh]; exact hq)⟩
    have h9 := State.sameButNew.old_cell hsame hc9
    rw [hh] at hc9
    exact h9.trans hc9.symm
  have hcl : s.vm.findClass cls = some ce.cls := by rw [← hv]; exact hO.cls
  have hall : s.sameButNew ({ U with vm := s.vm } : State) locs (cells + 1) (slots + 6) := by
    have h2 : (T.setVm s.vm).sameButNew ({ U with vm := s.vm } : State) [] (0 + 1) (0 + 6) := by
      rw [hu] at hsame
      obtain ⟨e1, e2⟩ := hsame
      rw [State.setFrames_setFrames] at e1
      exact ⟨e1, e2⟩
    have h3 := X.same.trans h2
    rw [List.append_nil] at h3
    exact h3
  have hG : GR s.heap U.heap (cells + 1) (slots + 6) := by
    obtain ⟨-, a2, a3, -, a5, a6⟩ := hall
    exact ⟨a2, a3, a5, fun a c h => by obtain ⟨c', b1, -, b3, -⟩ := a6 a c h; exact ⟨c', b1, b3⟩⟩
  refine ⟨U, ?_, .threw T.heap.size, hrun, hend, Or.inr ⟨T.heap.size, cls, ce, locs, rfl, hx U.heap hG hz ho, hce, hO.vm, hcl, State.WarmedH.trans hWu hWU, hall.mono hc hs, hf⟩⟩
  refine st1 _ ?_
  show Steps p.tables e below (T1.setTop (F0 m (pc + 3) ls (.ref T.heap.size :: rest))) _
  jvm_step X₁.here [X₁.here.top, hx0, d3, Value.category]
  exact X₁.ldcString hx0 (own := own) (text := text) (index := is) (a := sa) hownu hstru.1 hstru.2 (g := F0 m (pc + 4) ls (.ref T.heap.size :: .ref T.heap.size :: rest)) rfl d4 _ hsteps
theorem W.up {g : JFrame} {Q : State → Prop} {k n : Nat} (h1 : cells ≤ k) (h2 : slots ≤ n) (kk : W p l e R s m args below meth c H locs k n Q g) : W p l e R s m args below meth c H locs cells slots Q g :=
  W.know (fun a b _ => W.tight (Nat.le_trans a (Nat.add_le_add_left h1 _)) (Nat.le_trans b h2) kk)
/-- the end of a method that might have thrown -/
theorem tx_endI {PO : Int32 → Heap → Prop} {v : Int32} (S : bs_F p s m args c cc nL own) (hr : meth.sig.returnType = some .int) (hlk : meth.locks = false) (hS : va_S A s.heap H locs) (hc : cells ≤ mc) (hs : slots ≤ ms) (hp : GR s.heap H cells slots → PO v H) (hdg : decode cc pc = .ok (.ireturn, 1)) :
    W p l e R s m args below meth c H locs cells slots (tx_MQ below (mQi PO A) XC args s mc ms A) (F0 m pc ls [.int v]) := by
  refine W.know (fun a b d => ?_)
  have hpo := hp ⟨hS.1, a, b, d⟩
  refine W.up hc hs ?_
  refine tx_ret ?_
  exact W.iret S.1 S.2.1 hr (fun t ht _ => ⟨⟨v, v, rfl, rfl, by show PO v t.heap; rw [ht]; exact hpo⟩, hS.F ht⟩) hS.2.2 hdg hlk
end TXT
-- CATCHES: the table's rows, cold or warm; a call that returns or throws
/-- the rows of a table, of an exception of the class th: the first that takes it is the one with the handler h -/
def tc_T (s0 : State) (pl : Platform) (d : ClassId) (pc : Nat) (th : ClassId) : List ExceptionTableEntry → Nat → Prop
  | [], _ => False
  | x :: t, h => covers x pc = true ∧ x.catchType ≠ 0 ∧ ∃ k, s0.vm.ClassLinks pl d x.catchType k ∧ ((s0.vm.assignable th k = true ∧ h = x.handlerPc) ∨ (s0.vm.assignable th k = false ∧ tc_T s0 pl d pc th t h))
/-- the same by words -/
def tc_H (own E : String) (s : State) (args : Array Value) (pc : Nat) : List (Nat × Nat × Nat × Nat) → Nat → Prop
  | [], _ => False
  | x :: t, h => (x.1 ≤ pc ∧ pc < x.2.1) ∧ x.2.2.2 ≠ 0 ∧ ∃ nm : String, (Cond.classLink own x.2.2.2 nm).before args s = true ∧ ((va_Nw (.castable E nm) s ∧ h = x.2.2.1) ∨ (va_Nc E nm s ∧ tc_H own E s args pc t h))
theorem tc_of {own E : String} {s : State} {args : Array Value} {pc h : Nat} {d th : ClassId} {pl : Platform} (hpl : pl.magicAccessors = ({} : Platform).magicAccessors) (hown : s.vm.findClass own = some d) (hE : s.vm.findClass E = some th) :
    ∀ (L : List ExceptionTableEntry) (hh : List (Nat × Nat × Nat × Nat)), L.map (fun h => (h.startPc, h.endPc, h.handlerPc, h.catchType)) = hh → tc_H own E s args pc hh h → tc_T s pl d pc th L h := by
  intro L
  induction L with
  | nil => intro hh e hq; subst e; exact hq
  | cons x t ih =>
    intro hh e hq
    subst e
    obtain ⟨⟨h1, h2⟩, h0, nm, hl, hr⟩ := hq
    obtain ⟨k, hk, hkl⟩ := Cond.classLink_spec hown hl pl hpl
    refine ⟨by simp only [covers, Bool.and_eq_true, decide_eq_true_eq]; exact ⟨h1, h2⟩, h0, k, hkl, ?_⟩
    rcases hr with ⟨hc, e⟩ | ⟨⟨a8, b8, q1, q2, q3⟩, ht⟩
    · obtain ⟨c3, c4, q1, q2, q3⟩ := Cond.castable_spec hc
      cases Option.some.inj (q1.symm.trans hE)
      cases Option.some.inj (q2.symm.trans hk)
      exact Or.inl ⟨q3, e⟩
    · cases Option.some.inj (q1.symm.trans hE)
      cases Option.some.inj (q2.symm.trans hk)
      exact Or.inr ⟨q3, ih _ rfl ht⟩
section TCA
variable {e : Env} {f : JFrame} {a : Addr} {cell : Cell}
theorem tc_row {S : State} {x : ExceptionTableEntry} {t : List ExceptionTableEntry} {k : ClassId} {Q : Handler → Pre} {E : CtlPost} {d : Bool} {acts : List Action} (hx : covers x f.pc = true) (h0 : x.catchType ≠ 0)
    (hl : S.vm.ClassLinks e.platform f.method.cls x.catchType k) (hcell : S.heap[a]? = some cell) (hobj : ∀ z, cell.vm ≠ .statics z) (hk : ∃ z, S.vm.classes[cell.cls]? = some z) (hc : ∃ z, S.vm.classes[k]? = some z) :
    wp (findHandler.go f a (x :: t)) Q E e d acts S ↔ if S.vm.assignable cell.cls k = true then Q (.found x.handlerPc) d acts (S.setVm (S.vm.noted f.method.cls x.catchType (.cls k))) else wp (findHandler.go f a t) Q E e d acts (S.setVm (S.vm.noted f.method.cls x.catchType (.cls k))) := by
  have hal : S.vm.Alike (S.vm.noted f.method.cls x.catchType (.cls k)) := (Vm.Alike.refl S.vm).noted _ _ _
  obtain ⟨z1, hz1⟩ := hk
  obtain ⟨z2, hz2⟩ := hc
  obtain ⟨y1, hy1, -⟩ := hal.2.2 _ _ hz1
  obtain ⟨y2, hy2, -⟩ := hal.2.2 _ _ hz2
  obtain ⟨ha, ht⟩ := (resolveClass_links e.toSetting hl).op (op := VmOp.resolveClass f.method.cls x.catchType) rfl
  simp only [covers] at hx
  cases hfit : S.vm.assignable cell.cls k
  · have hf9 : (S.vm.noted f.method.cls x.catchType (.cls k)).assignable cell.cls k = false := by rw [hal.assignable]; exact hfit
    simp [findHandler.go, hx, h0, ha, ht, hcell, hobj, hy1, hy2, hf9, VmOp.dirties, VmOp.acts]
  · have hf9 : (S.vm.noted f.method.cls x.catchType (.cls k)).assignable cell.cls k = true := by rw [hal.assignable]; exact hfit
    simp [findHandler.go, hx, h0, ha, ht, hcell, hobj, hy1, hy2, hf9, VmOp.dirties, VmOp.acts]
theorem tc_go {s0 : State} {h : Nat} (hobj : ∀ z, cell.vm ≠ .statics z) (hk0 : ∃ z, s0.vm.classes[cell.cls]? = some z) : ∀ (L : List ExceptionTableEntry) (S : State), s0.WarmedH S.vm → S.heap[a]? = some cell → tc_T s0 e.platform f.method.cls f.pc cell.cls L h →
    ∃ vm', s0.WarmedH vm' ∧ ∀ (Q : Handler → Pre) (E : CtlPost) (d : Bool) (acts : List Action), wp (findHandler.go f a L) Q E e d acts S ↔ Q (.found h) d acts (S.setVm vm') := by
  obtain ⟨z0, hz0⟩ := hk0
  intro L
  induction L with
  | nil => intro S _ _ hq; exact hq.elim
  | cons x t ih =>
    intro S hW hcell hq
    obtain ⟨hx, h0, k, hl, hr⟩ := hq
    obtain ⟨dk, _, _, kt, hd, _, _, _, _, hkt, _, hopen⟩ := hl.here
    have hWn := hW.noted hd hopen (State.rightAt_cls hl)
    obtain ⟨y1, hy1, -⟩ := hW.alike.2.2 _ _ hz0
    obtain ⟨y2, hy2, -⟩ := hW.alike.2.2 _ _ hkt
    rcases hr with ⟨hfit, rfl⟩ | ⟨hno, ht⟩
    · refine ⟨_, hWn, fun Q E d acts => ?_⟩
      rw [tc_row hx h0 (hW.classLinks hl) hcell hobj ⟨y1, hy1⟩ ⟨y2, hy2⟩, if_pos (by rw [hW.alike.assignable]; exact hfit)]
    · obtain ⟨vm', hW', hq⟩ := ih (S.setVm (S.vm.noted f.method.cls x.catchType (.cls k))) hWn hcell ht
      refine ⟨vm', hW', fun Q E d acts => ?_⟩
      rw [tc_row hx h0 (hW.classLinks hl) hcell hobj ⟨y1, hy1⟩ ⟨y2, hy2⟩, if_neg (by rw [hW.alike.assignable, hno]; decide)]
      exact hq Q E d acts
end TCA
theorem tc_step {tb : Tables} {e : Env} {T target : State} {g : JFrame} {c : Code} {below : List Frame} {a : Addr} {pc : Nat} {vm' : Vm} (h : At T g.method c below)
    (hfind : ∀ (Q : Handler → Pre) (E : CtlPost) (d : Bool) (acts : List Action), wp (findHandler g a) Q E e d acts ((T.setTop g).pushFrame (.throwing a)) ↔ Q (.found pc) d acts (((T.setTop g).pushFrame (.throwing a)).setVm vm'))
    (hrest : Steps tb e below ((T.setVm vm').setTop { g with pc := pc, stack := [.ref a] }) target) : Steps tb e below ((T.setTop g).pushFrame (.throwing a)) target := by
  obtain ⟨hgo, hw⟩ := h.throwing a
  have hstep : ∀ r, (stepThrowing e ((T.setTop g).pushFrame (.throwing a)) a (.java g :: r)).Is ((((T.setTop g).pushFrame (.throwing a)).setVm vm').setFrames (.java { g with pc := pc, stack := [.ref a] } :: r)) [] := by
    intro r
    simp only [stepThrowing, searchFrame, vmDo]
    generalize hr : Sem.go _ e false [] _ = res
    obtain ⟨as, rfl, ha⟩ := Sem.eq_ok_of hr (a := Handler.found pc) (s' := ((T.setTop g).pushFrame (.throwing a)).setVm vm') (acts' := []) (by simp [hfind _ _ _ _])
    exact ⟨rfl, ha⟩
  refine Steps.head hgo hw ?_
  rw [stepThread_throwing (frames_entered h.top _), (hstep _).1]
  obtain ⟨g₀, hg⟩ := Option.isSome_iff_exists.mp h.top
  obtain ⟨r, hr⟩ := State.topJava?_eq_some.mp hg
  have hr' : (T.setVm vm').frames = .java g₀ :: r := hr
  rw [State.setTop_of_frames _ hr'] at hrest
  have e1 : ((T.setTop g).pushFrame (.throwing a)).setVm vm' = (T.setVm vm').setFrames (.throwing a :: .java g :: r) := by
    rw [State.pushFrame, State.frames_setTop' g h.top, State.setTop_of_frames _ hr, State.setFrames_setFrames, hr]
    rfl
  rw [e1, State.setFrames_setFrames, hr]
  exact hrest
section TCB
variable {p : Program} {l : Launch} {e : Env} {R : Room} {s : State} {m : MethodId} {args : Array Value} {below : List Frame} {meth : Method} {c : Code} {T U : State} {locs : List Loc} {cells slots : Nat}
variable {y : MethodName} {bytes cc : ByteArray} {maxL nL mc ms n index fr lo len W9 : Nat} {ret : Option FieldType} {own : String} {b : Addr} {As rest st0 av : List Value} {pc : Nat} {ls : Array Slot} {γ : gE} {PS : State → Prop} {A A0 : Nat → Prop} {H H0 : Heap} {Qc : Array Value → State → Outcome → State → Prop} {XC : String → Heap → Prop} {Q : State → Prop}
theorem tc_catch (X : Stand p l e R s m args below meth c T locs cells slots) {g : JFrame} (hg : g.method = m) {E : String} {ce : Cell} {q : Addr} {h : Nat} {hh : List (Nat × Nat × Nat × Nat)} (hown : s.vm.findClass own = some m.cls) (hcell : T.heap[q]? = some ce) (hv : ce.vm = .none) (hcl : s.vm.findClass E = some ce.cls)
    (htab : c.exceptionTable.toList.map (fun h => (h.startPc, h.endPc, h.handlerPc, h.catchType)) = hh) (hH : tc_H own E s args g.pc hh h) :
    ∃ vm', Stand p l e R s m args below meth c (T.setVm vm') locs cells slots ∧ ∀ target, Steps p.tables e below ((T.setVm vm').setTop { g with pc := h, stack := [.ref q] }) target → Steps p.tables e below ((T.setTop g).pushFrame (.throwing q)) target := by
  have hpl : e.platform.magicAccessors = ({} : Platform).magicAccessors := by rw [X.admits.platform]
  have hT := tc_of hpl hown hcl _ _ htab hH
  subst hg
  obtain ⟨k9, h9, -⟩ := Vm.findClass_spec hcl
  have hobj : ∀ z, ce.vm ≠ .statics z := VmData.ne_statics_of (by rw [hv]; rfl)
  have hSv : ((T.setTop g).pushFrame (.throwing q)).vm = T.vm := Stand.throwing_vm T g q
  have hSh : ((T.setTop g).pushFrame (.throwing q)).heap = T.heap := Stand.throwing_heap T g q
  obtain ⟨vm', hW', hq⟩ := tc_go (e := e) (f := g) (a := q) (s0 := s) (h := h) hobj ⟨k9, h9⟩ c.exceptionTable.toList ((T.setTop g).pushFrame (.throwing q)) (by rw [hSv]; exact X.warmed) (by rw [hSh]; exact hcell) hT
  refine ⟨vm', X.noted hW', fun target hr => ?_⟩
  refine tc_step X.here (vm' := vm') (fun Q E d acts => ?_) hr
  rw [W.findHandler_eq (meth := meth) (code := c) (by rw [hSv]; exact X.method') X.code]
  exact hq Q E d acts
/-- the callee's end, seen from the caller's frame -/
theorem tc_come {mk : MethodId} {a : Array Value} {g : JFrame} {ig : Instr} (X : Stand p l e R s m args below meth c U locs cells slots) (hg : g.method = m) (hsize : g.locals.size = c.maxLocals) (hdg : decode c.code g.pc = .ok (ig, len))
    (hw9 : 2 * g.monitorRoom + (g.stack.map fun v => v.category).sum ≤ 8) (hn : U.methodNamed? y = some mk) {Pc : Array Value → State → Prop}
    (hM : MetFree l y (headSpec (Cond.code y bytes maxL ret :: bs_W0) (bs_rm fr mc ms lo)) Pc (fun _ _ _ _ _ => True) (tx_Q Qc XC mc ms A)) (hbl : FrameBlind Pc) (hP : Pc a U)
    (hws : ∀ w ∈ Cond.code y bytes maxL ret :: bs_W0, w.before a U = true) (hini : (Cond.initialized y.cls).before a U = true) (hR : fr + 1 ≤ R.frames ∧ 8 + (maxL + 11) + lo ≤ R.locals) (hf : cells + mc ≤ R.cells ∧ slots + ms ≤ R.slots) :
    (∃ (v : Option Value) (st t T' : State) (L : List Loc), st.heap = U.heap ∧ Stand p l e R s m args below meth c T' (locs ++ L) (cells + mc) (slots + ms) ∧ (∀ z ∈ L, A z.base) ∧ T'.heap = t.heap ∧ Qc a st (.returned v) t ∧
      Steps p.tables e below (doInvoke e (U.setTop g) [] mk a).1 (T'.setTop { g with pc := g.pc + len, stack := v.toList ++ g.stack })) ∨
    ∃ (q : Addr) (E : String) (ce : Cell) (T' : State) (L : List Loc), Stand p l e R s m args below meth c T' (locs ++ L) (cells + mc) (slots + ms) ∧ (∀ z ∈ L, A z.base) ∧ XC E T'.heap ∧ T'.heap[q]? = some ce ∧ ce.vm = .none ∧ s.vm.findClass E = some ce.cls ∧
      Steps p.tables e below (doInvoke e (U.setTop g) [] mk a).1 ((T'.setTop g).pushFrame (.throwing q)) := by
  have h : At U g.method c below := by rw [hg]; exact X.here
  obtain ⟨methY, cY, hmY, hcY, -, hlY, -⟩ := Cond.code_spec hn (hws _ List.mem_cons_self)
  obtain ⟨kY, hkY, -⟩ := className_of_methodNamed hn
  have hiY : kY.init = .initialized := Cond.initialized_spec (findClass_of_methodNamed hn) hkY hini
  have happ : (headSpec (Cond.code y bytes maxL ret :: bs_W0) (bs_rm fr mc ms lo)).appliesLoose y e.platform (U.calling g mk a) = true :=
    Spec.appliesLoose_calling (g := g) h hdg hn hkY hiY (X.room_calling (g := g) (R' := bs_rm fr mc ms lo) hsize hmY hcY hR.1 (by rw [hlY]; show _ + _ + lo ≤ _; omega) hf.1 hf.2) (atoms_intro hws)
  obtain ⟨mid, hmid⟩ := h.above
  have hfr : (U.setTop g).frames = (.java g :: mid) ++ below := by rw [State.frames_setTop' g h.top, hmid]; rfl
  obtain ⟨o, z, hsteps, -, hend, hq⟩ := Steps.callFree hM p X.admits X.cas X.clock (acts := []) hfr happ (hbl _ _ _ _ hP) trivial
  rw [State.frames_setTop' g h.top] at hend
  obtain ⟨g₀, hg0⟩ := Option.isSome_iff_exists.mp h.top
  obtain ⟨r, hr⟩ := State.topJava?_eq_some.mp hg0
  obtain ⟨t9, ht9, -⟩ := State.frames_cons hr
  have hr' : (({ U with heap := z.heap, slotsUsed := z.slotsUsed } : State).setVm z.vm).frames = .java g₀ :: r := hr
  -- what both ends share: the state is the caller's, with the callee's heap, tables and frames
  have both : ∀ L : List Loc, (U.calling g mk a).WarmedH z.vm → (U.calling g mk a).sameButNew ({ z with vm := (U.calling g mk a).vm } : State) L mc ms →
      z = (({ U with heap := z.heap, slotsUsed := z.slotsUsed } : State).setVm z.vm).setFrames z.frames ∧ Stand p l e R s m args below meth c (({ U with heap := z.heap, slotsUsed := z.slotsUsed } : State).setVm z.vm) (locs ++ L) (cells + mc) (slots + ms) := by
    intro L hWz hsz
    obtain ⟨e2, q2, q3, q4, q5, q6⟩ := hsz
    have hWU : U.WarmedH z.vm := hWz
    have e3 : z = ({ (U.calling g mk a).setFrames z.frames with heap := z.heap, slotsUsed := z.slotsUsed } : State).setVm z.vm := by
      have e4 : z = ({ z with vm := (U.calling g mk a).vm } : State).setVm z.vm := rfl
      rw [e2] at e4
      exact e4
    have hsame : U.sameButNew ({ U with heap := z.heap, slotsUsed := z.slotsUsed } : State) L mc ms := by
      refine ⟨?_, q2, q3, q4, q5, q6⟩
      show ({ U with heap := z.heap, slotsUsed := z.slotsUsed } : State) = { U.setFrames U.frames with heap := z.heap, slotsUsed := z.slotsUsed }
      rw [State.setFrames_self ht9]
    refine ⟨?_, ⟨X.admits, X.cas, X.clock, X.frames, X.room, X.hears, X.method, X.code, (X.here.setHeapUsed z.heap z.slotsUsed).setVm hWU.alike, X.tail, State.WarmedH.trans X.warmed hWU, X.limits, X.bytes, X.same.trans (hsame.setVm s.vm)⟩⟩
    refine e3.trans ?_
    rw [State.calling_eq h.top, State.setFrames_setFrames]
    rfl
  rcases hq with ⟨hqc, L, hfe, hL⟩ | ⟨q, E, ce, L, rfl, hx, hce, hcv, hcl, hWz, hsz, hL⟩
  · obtain ⟨⟨v, rfl⟩, hWz, hsz⟩ := id hfe
    obtain ⟨ez, XZ⟩ := both L hWz hsz
    obtain ⟨c₂, i₂, len₂, hc₂, hd₂, hf₂⟩ := hend
    have hcc : c₂ = c := by
      have h1 : z.code? g.method = U.code? g.method := by
        rw [State.code?_eq, State.code?_eq, (show U.WarmedH z.vm from hWz).alike.method?]
      exact Option.some.inj (hc₂.symm.trans (h1.trans h.code))
    subst hcc
    have hlen : len₂ = len := by rw [hdg] at hd₂; cases hd₂; rfl
    subst hlen
    refine Or.inl ⟨v, U.calling g mk a, z, _, L, rfl, XZ, hL, rfl, hqc, ?_⟩
    rw [State.setTop_of_frames _ hr']
    have e5 : z = (({ U with heap := z.heap, slotsUsed := z.slotsUsed } : State).setVm z.vm).setFrames (.java { g with pc := g.pc + len₂, stack := v.toList ++ g.stack } :: r) := by
      refine ez.trans ?_
      rw [hf₂, hr]
      rfl
    rw [← e5]
    exact hsteps
  · obtain ⟨ez, XZ⟩ := both L hWz hsz
    have hf₂ : z.frames = .throwing q :: .java g :: U.frames.tail := hend
    have hcl9 : s.vm.findClass E = some ce.cls := by
      have h1 : U.vm.findClass E = some ce.cls := hcl
      rw [X.warmed.alike.findClass] at h1
      exact h1
    refine Or.inr ⟨q, E, ce, _, L, XZ, hL, hx, hce, hcv, hcl9, ?_⟩
    have e5 : z = ((({ U with heap := z.heap, slotsUsed := z.slotsUsed } : State).setVm z.vm).setTop g).pushFrame (.throwing q) := by
      refine ez.trans ?_
      rw [hf₂, State.pushFrame, State.frames_setTop' g (by rw [Option.isSome_iff_exists]; exact ⟨g₀, hg0⟩), State.setTop_of_frames _ hr', State.setFrames_setFrames]
      rfl
    rw [← e5]
    exact hsteps
end TCB
-- CALLS of methods that return or throw; calls of methods with a table
section TXC
variable {p : Program} {l : Launch} {e : Env} {R : Room} {s : State} {m : MethodId} {args : Array Value} {below : List Frame} {meth : Method} {c : Code} {locs : List Loc} {cells slots : Nat}
variable {y : MethodName} {bytes cc : ByteArray} {maxL nL mc ms n index fr lo : Nat} {ret : Option FieldType} {own : String} {b : Addr} {As rest st0 av : List Value} {pc : Nat} {ls : Array Slot} {γ : gE} {PS : State → Prop} {A A0 : Nat → Prop} {H H0 : Heap} {XC : String → Heap → Prop} {Q : State → Prop} {hh : List (Nat × Nat × Nat × Nat)}
theorem tx_call {PO : Int32 → Heap → Prop} (S : bs_F p s m args c cc nL own) (hC : CX γ s) (htab : c.exceptionTable.toList.map (fun h => (h.startPc, h.endPc, h.handlerPc, h.catchType)) = hh) (hA : ∀ q, H.size ≤ q → A q) (hAA : ∀ q, A q → A0 q) (hS : va_S A0 H0 H locs)
    (hM : XM l y bytes maxL ret fr lo mc ms (.ref b :: As) γ A PS (mQi PO A) XC) (hbl : ∀ u U : State, u.vm = U.vm → u.heap = U.heap → PS u → PS U) (me : bs_Mi y bytes maxL ret n) (lk : Cond.methodLink own index y ∈ bs_W0) (hR : fr + 1 ≤ R.frames ∧ 8 + (maxL + 11) + lo ≤ R.locals)
    (hrv : ∃ cellB : Cell, H[b]? = some cellB ∧ cellB.vm.isStatics = false ∧ s.vm.findClass y.cls = some cellB.cls) (hPS : ∀ U : State, U.heap = H → s.WarmedH U.vm → PS U) (hn : As.length = n) (hsz : ls.size = nL) (hst : st0 = As.reverse ++ .ref b :: rest) (hrm : (rest.map fun v => v.category).sum ≤ 8) (hdg : decode cc pc = .ok (.invokevirtual index, 3)) (hf : cells + mc ≤ R.cells ∧ slots + ms ≤ R.slots)
    (hXC : ∀ (E : String) (H1 : Heap), XC E H1 → H.size ≤ H1.size ∧ ∀ q : Nat, q < H.size → ¬ A q → H1[q]? = H[q]?)
    (kk : ∀ (r : Int32) (H1 : Heap) (locs1 : List Loc), PO r H1 → va_S A0 H0 H1 locs1 → H.size ≤ H1.size → (∀ q : Nat, q < H.size → ¬ A q → H1[q]? = H[q]?) → W p l e R s m args below meth c H1 locs1 (cells + mc) (slots + ms) Q (F0 m (pc + 3) ls (.int r :: rest)))
    (kx : ∀ (E : String) (q : Addr) (H1 : Heap) (locs1 : List Loc), XC E H1 → va_S A0 H0 H1 locs1 → ∃ h, tc_H own E s args pc hh h ∧ W p l e R s m args below meth c H1 locs1 (cells + mc) (slots + ms) Q (F0 m h ls [.ref q])) : W p l e R s m args below meth c H locs cells slots Q (F0 m pc ls st0) := by
  intro T hT X
  obtain ⟨hx, hb, hml, hown, hW⟩ := S
  subst hb
  obtain ⟨m1, m2, m3, m4, hMH, hVH, hds⟩ := me
  obtain ⟨cellB, hcB, hoB, hclB⟩ := hrv
  have hy : y.cls ≠ "java/lang/invoke/MethodHandle" ∧ y.cls ≠ "java/lang/invoke/VarHandle" := ⟨hMH, hVH⟩
  obtain ⟨mk, methM, hnamed, hmethM, hstM, habM⟩ := Cond.instanceMethod_spec (hW _ m1)
  obtain ⟨methN, cM, hmethN, -, -, -, -, -, -, hsigM⟩ := Cond.code_spec hnamed (hW _ m4)
  cases hmethM.symm.trans hmethN
  obtain ⟨c2, r2, m9, q1, q2, q3, q4, kP, hkP, hkPi⟩ := Cond.selects_spec (hW _ m2)
  cases hclB.symm.trans q1
  cases (State.methodFound?_of_named hnamed hy).symm.trans q2
  cases hnamed.symm.trans q3
  have hsel : selectMethod e.platform s.vm cellB.cls mk = .method mk := by rw [Launch.admits_selectMethod X.admits]; exact q4
  have hlen : As.length = methM.sig.parameters.length := by
    rw [hsigM] at hds
    exact hn.trans (Option.some.inj hds).symm
  obtain ⟨vm₁, X₁, hstep⟩ := X.invokevirtual hx hown (hW _ lk) hnamed hmethM hstM hkP hkPi hy (a := b) (cell := cellB) (by rw [hT]; exact hcB) (fun z h => by rw [h] at hoB; cases hoB) hsel hmethM habM hkP hkPi (g := F0 m pc ls st0) rfl (argsL := As) (rest := rest) hlen hst hdg
  have hcome := tc_come (g := F0 m pc ls rest) (a := (Value.ref b :: As).toArray) (mk := mk) X₁ rfl (hsz.trans hml.symm) hdg (by simpa using hrm) (X₁.named hnamed) hM (tx_blind hbl) ⟨rfl, hC.warm X₁.warmed, fun q hq => hA q (by rw [← hT]; exact hq), hPS _ hT X₁.warmed⟩
    (fun w hw => by
      rcases List.mem_cons.mp hw with rfl | hw
      · exact word_at X₁.warmed (good_of_word (List.mem_filter.mp m4).2) (hW _ m4)
      · exact word_at X₁.warmed (good_of_word (List.mem_filter.mp hw).2) (hW _ hw))
    (word_at X₁.warmed (good_of_word (List.mem_filter.mp m3).2) (hW _ m3)) hR hf
  rcases hcome with ⟨v, st, t, T', L, e1, X', hL, e2, ⟨⟨r, u, hv, hr, hB⟩, hz, hk⟩, hsteps⟩ | ⟨q, E, ce, T', L, X', hL, hxc, hce, hcv, hcl, hsteps⟩
  · cases hv
    subst hr
    have hz1 : H.size ≤ T'.heap.size := by rw [e2]; rw [e1] at hz; rw [← hT]; exact hz
    have hk1 : ∀ q : Nat, q < H.size → ¬ A q → T'.heap[q]? = H[q]? := by
      intro q h1 h2
      rw [e2, ← hT]
      rw [e1] at hk
      exact hk q (by rw [← hT] at h1; exact h1) h2
    have hS1 : va_S A0 H0 T'.heap (locs ++ L) := ⟨Nat.le_trans hS.1 hz1, fun q h1 h2 => (hk1 q (Nat.lt_of_lt_of_le h1 hS.1) (fun h9 => h2 (hAA q h9))).trans (hS.2.1 q h1 h2), fun z hz => (List.mem_append.mp hz).elim (hS.2.2 z) (fun h => hAA _ (hL z h))⟩
    obtain ⟨t2, a1, b1⟩ := kk u T'.heap (locs ++ L) (by rw [e2]; exact hB) hS1 hz1 hk1 T' rfl X'
    exact ⟨t2, hstep _ fun acts => by rw [doInvoke_state]; exact hsteps.trans a1, b1⟩
  · obtain ⟨hz1, hk1⟩ := hXC E _ hxc
    have hS1 : va_S A0 H0 T'.heap (locs ++ L) := ⟨Nat.le_trans hS.1 hz1, fun q h1 h2 => (hk1 q (Nat.lt_of_lt_of_le h1 hS.1) (fun h9 => h2 (hAA q h9))).trans (hS.2.1 q h1 h2), fun z hz => (List.mem_append.mp hz).elim (hS.2.2 z) (fun h => hAA _ (hL z h))⟩
    obtain ⟨h, hH, hgo⟩ := kx E q T'.heap (locs ++ L) hxc hS1
    obtain ⟨vm', XV, stV⟩ := tc_catch X' (g := F0 m pc ls rest) rfl hown hce hcv hcl htab hH
    obtain ⟨t2, a1, b1⟩ := hgo (T'.setVm vm') rfl XV
    exact ⟨t2, hstep _ fun acts => by rw [doInvoke_state]; exact hsteps.trans (stV _ a1), b1⟩
end TXC
-- what a throw's words are; the potential of lengths
def sw_k : Cond → Bool
  | .castable .. => true
  | .declares .. => true
  | .laysStatic .. => true
  | _ => false
def SW (s0 : State) : Prop := (∀ w ∈ lw_tbl, sw_k w = true → va_Nw w s0) ∧ va_Zq Bundle.tN "UNASSIGNED_STACK" Bundle.steD (fun q => s0.heap.size ≤ q) s0 s0.heap ∧ va_Zq Bundle.tN "SUPPRESSED_SENTINEL" Bundle.listD (fun q => s0.heap.size ≤ q) s0 s0.heap ∧
  (∀ (own : String) (k : Nat) (tx : String), Cond.stringRef own k tx ∈ lw_tbl → ∃ a, vk_R own k tx a s0) ∧
  (∃ (t : Nat) (f : Nat → Value), va_Z "TypeBook$Names" "FIRST_SORTS" "[I" (.ref t) (fun q => s0.heap.size ≤ q) s0 s0.heap ∧ va_T .int t 12 f (fun q => s0.heap.size ≤ q) s0 s0.heap ∧ ∀ j, ∃ x : Int32, f j = .int x) ∧
  (∃ (t : Nat) (f : Nat → Value), va_Z "TypeBook$Names" "FIRST_NUMBERS" "[I" (.ref t) (fun q => s0.heap.size ≤ q) s0 s0.heap ∧ va_T .int t 12 f (fun q => s0.heap.size ≤ q) s0 s0.heap ∧ ∀ j, ∃ x : Int32, f j = .int x)
theorem sw_cast {s0 U : State} {C D : String} {args : Array Value} (h0 : SW s0) (hF : s0.WarmedH U.vm) (hm : Cond.castable C D ∈ lw_tbl) : (Cond.castable C D).before args U = true := va_Nw.use rfl (va_Nw.warmC hF (h0.1 _ hm rfl))
theorem sw_decl {s0 U : State} {x : MethodName} {args : Array Value} (h0 : SW s0) (hF : s0.WarmedH U.vm) (hm : Cond.declares x ∈ lw_tbl) : (Cond.declares x).before args U = true :=
  va_tabs (A := #[]) (u := s0.setVm U.vm) (U := U) rfl rfl (by rw [Cond.declares_setVm hF.alike]; exact h0.1 _ hm rfl)
theorem ta_IAE {s s0 : State} {args : Array Value} (hW : ∀ w ∈ bs_W0, w.before args s = true) (h0 : SW s0) : ∀ U : State, FB s0 U U.heap → U.vm = s.vm → ∀ w ∈ Bundle.ownAtoms R_TypeBook 64 "java/lang/IllegalArgumentException" ["java/lang/RuntimeException", "java/lang/Exception"], w.before args U = true := by
  intro U hF hv
  have hWu : s.WarmedH U.vm := by rw [hv]; exact State.WarmedH.refl s
  have hg : ∀ w ∈ bs_W0, w.before args U = true := fun w h => word_at hWu (good_of_word (List.mem_filter.mp h).2) (hW w h)
  exact fw_c (hg _ (bs_in (in_tables_1_1 (List.mem_of_getElem? (i := 15) rfl)) rfl)) (fw_c (hg _ (bs_in (in_tables_1_2 (List.mem_of_getElem? (i := 117) rfl)) rfl)) (fw_c (hg _ (bs_in (in_tables_1_2 (List.mem_of_getElem? (i := 126) rfl)) rfl)) (fw_c (hg _ (bs_in (in_tables_1_2 (List.mem_of_getElem? (i := 130) rfl)) rfl)) (fw_c (hg _ (bs_in (in_tables_1_2 (List.mem_of_getElem? (i := 133) rfl)) rfl)) (fw_c (hg _ (bs_in (in_tables_1_2 (List.mem_of_getElem? (i := 135) rfl)) rfl)) (fw_c (hg _ (bs_in (in_tables_1_2 (List.mem_of_getElem? (i := 118) rfl)) rfl)) (fw_c (hg _ (bs_in (in_tables_1_2 (List.mem_of_getElem? (i := 119) rfl)) rfl)) (fw_c (hg _ (bs_in (in_tables_1_1 (List.mem_of_getElem? (i := 30) rfl)) rfl)) (fw_c (hg _ (bs_in (in_tables_1_1 (List.mem_of_getElem? (i := 31) rfl)) rfl)) (fw_c (hg _ (bs_in (in_tables_1_2 (List.mem_of_getElem? (i := 120) rfl)) rfl)) (fw_c (hg _ (bs_in (in_tables_1_2 (List.mem_of_getElem? (i := 125) rfl)) rfl)) (fw_c (hg _ (bs_in (in_tables_1_2 (List.mem_of_getElem? (i := 131) rfl)) rfl)) (fw_c (hg _ (bs_in (in_tables_1_2 (List.mem_of_getElem? (i := 151) rfl)) rfl)) (fw_c (hg _ (bs_in (in_tables_1_2 (List.mem_of_getElem? (i := 107) rfl)) rfl)) (fw_c (hg _ (bs_in (in_tables_1_2 (List.mem_of_getElem? (i := 152) rfl)) rfl)) (fw_c (hg _ (bs_in (in_tables_1_2 (List.mem_of_getElem? (i := 109) rfl)) rfl)) (fw_c (hg _ (bs_in (in_tables_1_2 (List.mem_of_getElem? (i := 153) rfl)) rfl)) (fw_c (hg _ (bs_in (in_tables_1_2 (List.mem_of_getElem? (i := 111) rfl)) rfl)) (fw_c (hg _ (bs_in (in_tables_1_2 (List.mem_of_getElem? (i := 121) rfl)) rfl)) (fw_c (fb_lays hF (h0.1 _ (in_tables_1_2 (List.mem_of_getElem? (i := 122) rfl)) rfl)) (fw_c (hg _ (bs_in (in_tables_1_2 (List.mem_of_getElem? (i := 123) rfl)) rfl)) (fw_c (fb_lays hF (h0.1 _ (in_tables_1_2 (List.mem_of_getElem? (i := 124) rfl)) rfl)) (fw_c (hg _ (bs_in (in_tables_1_2 (List.mem_of_getElem? (i := 113) rfl)) rfl)) (fw_c (hg _ (bs_in (in_tables_1_2 (List.mem_of_getElem? (i := 147) rfl)) rfl)) (fw_c (hg _ (bs_in (in_tables_1_2 (List.mem_of_getElem? (i := 148) rfl)) rfl)) (fw_c (hg _ (bs_in (in_tables_1_2 (List.mem_of_getElem? (i := 150) rfl)) rfl)) (fw_c (hg _ (bs_in (in_tables_1_2 (List.mem_of_getElem? (i := 113) rfl)) rfl)) (fw_c (hg _ (bs_in (in_tables_1_2 (List.mem_of_getElem? (i := 138) rfl)) rfl)) (fw_c (hg _ (bs_in (in_tables_1_2 (List.mem_of_getElem? (i := 139) rfl)) rfl)) (fw_c (hg _ (bs_in (in_tables_1_2 (List.mem_of_getElem? (i := 140) rfl)) rfl)) (fw_c (hg _ (bs_in (in_tables_1_2 (List.mem_of_getElem? (i := 141) rfl)) rfl)) (fw_c (sw_decl h0 hF.1 (in_tables_1_2 (List.mem_of_getElem? (i := 99) rfl))) (fw_c (hg _ (bs_in (in_tables_1_2 (List.mem_of_getElem? (i := 141) rfl)) rfl)) (fw_c (hg _ (bs_in (in_tables_1_2 (List.mem_of_getElem? (i := 142) rfl)) rfl)) (fw_c (hg _ (bs_in (in_tables_1_2 (List.mem_of_getElem? (i := 143) rfl)) rfl)) (fw_c (hg _ (bs_in (in_tables_1_2 (List.mem_of_getElem? (i := 144) rfl)) rfl)) (fw_c (sw_decl h0 hF.1 (in_tables_1_2 (List.mem_of_getElem? (i := 101) rfl))) (fw_c (hg _ (bs_in (in_tables_1_2 (List.mem_of_getElem? (i := 144) rfl)) rfl)) (fw_c (hg _ (bs_in (in_tables_1_2 (List.mem_of_getElem? (i := 145) rfl)) rfl)) (fw_c (hg _ (bs_in (in_tables_1_2 (List.mem_of_getElem? (i := 146) rfl)) rfl)) (fw_c (hg _ (bs_in (in_tables_1_2 (List.mem_of_getElem? (i := 147) rfl)) rfl)) (fw_c (sw_decl h0 hF.1 (in_tables_1_2 (List.mem_of_getElem? (i := 103) rfl))) (fw_c (hg _ (bs_in (in_tables_1_2 (List.mem_of_getElem? (i := 137) rfl)) rfl)) (fw_c (hg _ (bs_in (in_tables_1_2 (List.mem_of_getElem? (i := 96) rfl)) rfl)) (fw_c (sw_cast h0 hF.1 (in_tables_1_2 (List.mem_of_getElem? (i := 97) rfl))) (fw_c (hg _ (bs_in (in_tables_1_2 (List.mem_of_getElem? (i := 104) rfl)) rfl)) (fw_c (hg _ (bs_in (in_tables_1_2 (List.mem_of_getElem? (i := 105) rfl)) rfl)) (fw_c (hg _ (bs_in (in_tables_1_2 (List.mem_of_getElem? (i := 106) rfl)) rfl)) (fw_c (hg _ (bs_in (in_tables_1_2 (List.mem_of_getElem? (i := 108) rfl)) rfl)) (fw_c (hg _ (bs_in (in_tables_1_2 (List.mem_of_getElem? (i := 110) rfl)) rfl)) (fw_c (hg _ (bs_in (in_tables_1_2 (List.mem_of_getElem? (i := 112) rfl)) rfl)) (fw_c (fb_isRef hF h0.2.1) (fw_c (fb_isRef hF h0.2.2.1) (fw_c (hg _ (bs_in (in_tables_1_2 (List.mem_of_getElem? (i := 116) rfl)) rfl)) (fw_c (hg _ (bs_in (in_tables_1_2 (List.mem_of_getElem? (i := 115) rfl)) rfl)) (fw_c (hg _ (bs_in (in_tables_1_2 (List.mem_of_getElem? (i := 114) rfl)) rfl)) (fw_n)))))))))))))))))))))))))))))))))))))))))))))))))))))))))
theorem ta_ISE {s s0 : State} {args : Array Value} (hW : ∀ w ∈ bs_W0, w.before args s = true) (h0 : SW s0) : ∀ U : State, FB s0 U U.heap → U.vm = s.vm → ∀ w ∈ Bundle.ownAtoms R_TypeBook 83 "java/lang/IllegalStateException" ["java/lang/RuntimeException", "java/lang/Exception"], w.before args U = true := by
  intro U hF hv
  have hWu : s.WarmedH U.vm := by rw [hv]; exact State.WarmedH.refl s
  have hg : ∀ w ∈ bs_W0, w.before args U = true := fun w h => word_at hWu (good_of_word (List.mem_filter.mp h).2) (hW w h)
  exact fw_c (hg _ (bs_in (in_tables_1_1 (List.mem_of_getElem? (i := 15) rfl)) rfl)) (fw_c (hg _ (bs_in (in_tables_1_2 (List.mem_of_getElem? (i := 117) rfl)) rfl)) (fw_c (hg _ (bs_in (in_tables_1_2 (List.mem_of_getElem? (i := 126) rfl)) rfl)) (fw_c (hg _ (bs_in (in_tables_1_2 (List.mem_of_getElem? (i := 130) rfl)) rfl)) (fw_c (hg _ (bs_in (in_tables_1_2 (List.mem_of_getElem? (i := 133) rfl)) rfl)) (fw_c (hg _ (bs_in (in_tables_1_2 (List.mem_of_getElem? (i := 135) rfl)) rfl)) (fw_c (hg _ (bs_in (in_tables_1_2 (List.mem_of_getElem? (i := 118) rfl)) rfl)) (fw_c (hg _ (bs_in (in_tables_1_2 (List.mem_of_getElem? (i := 119) rfl)) rfl)) (fw_c (hg _ (bs_in (in_tables_1_1 (List.mem_of_getElem? (i := 30) rfl)) rfl)) (fw_c (hg _ (bs_in (in_tables_1_1 (List.mem_of_getElem? (i := 31) rfl)) rfl)) (fw_c (hg _ (bs_in (in_tables_1_2 (List.mem_of_getElem? (i := 120) rfl)) rfl)) (fw_c (hg _ (bs_in (in_tables_1_2 (List.mem_of_getElem? (i := 125) rfl)) rfl)) (fw_c (hg _ (bs_in (in_tables_1_2 (List.mem_of_getElem? (i := 131) rfl)) rfl)) (fw_c (hg _ (bs_in (in_tables_1_2 (List.mem_of_getElem? (i := 151) rfl)) rfl)) (fw_c (hg _ (bs_in (in_tables_1_2 (List.mem_of_getElem? (i := 107) rfl)) rfl)) (fw_c (hg _ (bs_in (in_tables_1_2 (List.mem_of_getElem? (i := 152) rfl)) rfl)) (fw_c (hg _ (bs_in (in_tables_1_2 (List.mem_of_getElem? (i := 109) rfl)) rfl)) (fw_c (hg _ (bs_in (in_tables_1_2 (List.mem_of_getElem? (i := 153) rfl)) rfl)) (fw_c (hg _ (bs_in (in_tables_1_2 (List.mem_of_getElem? (i := 111) rfl)) rfl)) (fw_c (hg _ (bs_in (in_tables_1_2 (List.mem_of_getElem? (i := 121) rfl)) rfl)) (fw_c (fb_lays hF (h0.1 _ (in_tables_1_2 (List.mem_of_getElem? (i := 122) rfl)) rfl)) (fw_c (hg _ (bs_in (in_tables_1_2 (List.mem_of_getElem? (i := 123) rfl)) rfl)) (fw_c (fb_lays hF (h0.1 _ (in_tables_1_2 (List.mem_of_getElem? (i := 124) rfl)) rfl)) (fw_c (hg _ (bs_in (in_tables_1_2 (List.mem_of_getElem? (i := 113) rfl)) rfl)) (fw_c (hg _ (bs_in (in_tables_1_2 (List.mem_of_getElem? (i := 147) rfl)) rfl)) (fw_c (hg _ (bs_in (in_tables_1_2 (List.mem_of_getElem? (i := 148) rfl)) rfl)) (fw_c (hg _ (bs_in (in_tables_1_2 (List.mem_of_getElem? (i := 150) rfl)) rfl)) (fw_c (hg _ (bs_in (in_tables_1_2 (List.mem_of_getElem? (i := 113) rfl)) rfl)) (fw_c (hg _ (bs_in (in_tables_1_2 (List.mem_of_getElem? (i := 181) rfl)) rfl)) (fw_c (hg _ (bs_in (in_tables_1_2 (List.mem_of_getElem? (i := 182) rfl)) rfl)) (fw_c (hg _ (bs_in (in_tables_1_2 (List.mem_of_getElem? (i := 183) rfl)) rfl)) (fw_c (hg _ (bs_in (in_tables_1_2 (List.mem_of_getElem? (i := 141) rfl)) rfl)) (fw_c (sw_decl h0 hF.1 (in_tables_1_2 (List.mem_of_getElem? (i := 99) rfl))) (fw_c (hg _ (bs_in (in_tables_1_2 (List.mem_of_getElem? (i := 141) rfl)) rfl)) (fw_c (hg _ (bs_in (in_tables_1_2 (List.mem_of_getElem? (i := 142) rfl)) rfl)) (fw_c (hg _ (bs_in (in_tables_1_2 (List.mem_of_getElem? (i := 143) rfl)) rfl)) (fw_c (hg _ (bs_in (in_tables_1_2 (List.mem_of_getElem? (i := 144) rfl)) rfl)) (fw_c (sw_decl h0 hF.1 (in_tables_1_2 (List.mem_of_getElem? (i := 101) rfl))) (fw_c (hg _ (bs_in (in_tables_1_2 (List.mem_of_getElem? (i := 144) rfl)) rfl)) (fw_c (hg _ (bs_in (in_tables_1_2 (List.mem_of_getElem? (i := 145) rfl)) rfl)) (fw_c (hg _ (bs_in (in_tables_1_2 (List.mem_of_getElem? (i := 146) rfl)) rfl)) (fw_c (hg _ (bs_in (in_tables_1_2 (List.mem_of_getElem? (i := 147) rfl)) rfl)) (fw_c (sw_decl h0 hF.1 (in_tables_1_2 (List.mem_of_getElem? (i := 103) rfl))) (fw_c (hg _ (bs_in (in_tables_1_2 (List.mem_of_getElem? (i := 180) rfl)) rfl)) (fw_c (hg _ (bs_in (in_tables_1_2 (List.mem_of_getElem? (i := 171) rfl)) rfl)) (fw_c (sw_cast h0 hF.1 (in_tables_1_2 (List.mem_of_getElem? (i := 172) rfl))) (fw_c (hg _ (bs_in (in_tables_1_2 (List.mem_of_getElem? (i := 173) rfl)) rfl)) (fw_c (hg _ (bs_in (in_tables_1_2 (List.mem_of_getElem? (i := 128) rfl)) rfl)) (fw_c (hg _ (bs_in (in_tables_1_2 (List.mem_of_getElem? (i := 174) rfl)) rfl)) (fw_c (hg _ (bs_in (in_tables_1_2 (List.mem_of_getElem? (i := 175) rfl)) rfl)) (fw_c (hg _ (bs_in (in_tables_1_2 (List.mem_of_getElem? (i := 176) rfl)) rfl)) (fw_c (hg _ (bs_in (in_tables_1_2 (List.mem_of_getElem? (i := 177) rfl)) rfl)) (fw_c (fb_isRef hF h0.2.1) (fw_c (fb_isRef hF h0.2.2.1) (fw_c (hg _ (bs_in (in_tables_1_2 (List.mem_of_getElem? (i := 116) rfl)) rfl)) (fw_c (hg _ (bs_in (in_tables_1_2 (List.mem_of_getElem? (i := 115) rfl)) rfl)) (fw_c (hg _ (bs_in (in_tables_1_2 (List.mem_of_getElem? (i := 178) rfl)) rfl)) (fw_n)))))))))))))))))))))))))))))))))))))))))))))))))))))))))
theorem ta_IOB {s s0 : State} {args : Array Value} (hW : ∀ w ∈ bs_W0, w.before args s = true) (h0 : SW s0) : ∀ U : State, FB s0 U U.heap → U.vm = s.vm → ∀ w ∈ Bundle.ownAtoms R_TypeBook 119 "java/lang/IndexOutOfBoundsException" ["java/lang/RuntimeException", "java/lang/Exception"], w.before args U = true := by
  intro U hF hv
  have hWu : s.WarmedH U.vm := by rw [hv]; exact State.WarmedH.refl s
  have hg : ∀ w ∈ bs_W0, w.before args U = true := fun w h => word_at hWu (good_of_word (List.mem_filter.mp h).2) (hW w h)
  exact fw_c (hg _ (bs_in (in_tables_1_1 (List.mem_of_getElem? (i := 15) rfl)) rfl)) (fw_c (hg _ (bs_in (in_tables_1_2 (List.mem_of_getElem? (i := 117) rfl)) rfl)) (fw_c (hg _ (bs_in (in_tables_1_2 (List.mem_of_getElem? (i := 126) rfl)) rfl)) (fw_c (hg _ (bs_in (in_tables_1_2 (List.mem_of_getElem? (i := 130) rfl)) rfl)) (fw_c (hg _ (bs_in (in_tables_1_2 (List.mem_of_getElem? (i := 133) rfl)) rfl)) (fw_c (hg _ (bs_in (in_tables_1_2 (List.mem_of_getElem? (i := 135) rfl)) rfl)) (fw_c (hg _ (bs_in (in_tables_1_2 (List.mem_of_getElem? (i := 118) rfl)) rfl)) (fw_c (hg _ (bs_in (in_tables_1_2 (List.mem_of_getElem? (i := 119) rfl)) rfl)) (fw_c (hg _ (bs_in (in_tables_1_1 (List.mem_of_getElem? (i := 30) rfl)) rfl)) (fw_c (hg _ (bs_in (in_tables_1_1 (List.mem_of_getElem? (i := 31) rfl)) rfl)) (fw_c (hg _ (bs_in (in_tables_1_2 (List.mem_of_getElem? (i := 120) rfl)) rfl)) (fw_c (hg _ (bs_in (in_tables_1_2 (List.mem_of_getElem? (i := 125) rfl)) rfl)) (fw_c (hg _ (bs_in (in_tables_1_2 (List.mem_of_getElem? (i := 131) rfl)) rfl)) (fw_c (hg _ (bs_in (in_tables_1_2 (List.mem_of_getElem? (i := 151) rfl)) rfl)) (fw_c (hg _ (bs_in (in_tables_1_2 (List.mem_of_getElem? (i := 107) rfl)) rfl)) (fw_c (hg _ (bs_in (in_tables_1_2 (List.mem_of_getElem? (i := 152) rfl)) rfl)) (fw_c (hg _ (bs_in (in_tables_1_2 (List.mem_of_getElem? (i := 109) rfl)) rfl)) (fw_c (hg _ (bs_in (in_tables_1_2 (List.mem_of_getElem? (i := 153) rfl)) rfl)) (fw_c (hg _ (bs_in (in_tables_1_2 (List.mem_of_getElem? (i := 111) rfl)) rfl)) (fw_c (hg _ (bs_in (in_tables_1_2 (List.mem_of_getElem? (i := 121) rfl)) rfl)) (fw_c (fb_lays hF (h0.1 _ (in_tables_1_2 (List.mem_of_getElem? (i := 122) rfl)) rfl)) (fw_c (hg _ (bs_in (in_tables_1_2 (List.mem_of_getElem? (i := 123) rfl)) rfl)) (fw_c (fb_lays hF (h0.1 _ (in_tables_1_2 (List.mem_of_getElem? (i := 124) rfl)) rfl)) (fw_c (hg _ (bs_in (in_tables_1_2 (List.mem_of_getElem? (i := 113) rfl)) rfl)) (fw_c (hg _ (bs_in (in_tables_1_2 (List.mem_of_getElem? (i := 147) rfl)) rfl)) (fw_c (hg _ (bs_in (in_tables_1_2 (List.mem_of_getElem? (i := 148) rfl)) rfl)) (fw_c (hg _ (bs_in (in_tables_1_2 (List.mem_of_getElem? (i := 150) rfl)) rfl)) (fw_c (hg _ (bs_in (in_tables_1_2 (List.mem_of_getElem? (i := 113) rfl)) rfl)) (fw_c (hg _ (bs_in (in_tables_1_3 (List.mem_of_getElem? (i := 34) rfl)) rfl)) (fw_c (hg _ (bs_in (in_tables_1_3 (List.mem_of_getElem? (i := 35) rfl)) rfl)) (fw_c (hg _ (bs_in (in_tables_1_3 (List.mem_of_getElem? (i := 36) rfl)) rfl)) (fw_c (hg _ (bs_in (in_tables_1_2 (List.mem_of_getElem? (i := 141) rfl)) rfl)) (fw_c (sw_decl h0 hF.1 (in_tables_1_2 (List.mem_of_getElem? (i := 99) rfl))) (fw_c (hg _ (bs_in (in_tables_1_2 (List.mem_of_getElem? (i := 141) rfl)) rfl)) (fw_c (hg _ (bs_in (in_tables_1_2 (List.mem_of_getElem? (i := 142) rfl)) rfl)) (fw_c (hg _ (bs_in (in_tables_1_2 (List.mem_of_getElem? (i := 143) rfl)) rfl)) (fw_c (hg _ (bs_in (in_tables_1_2 (List.mem_of_getElem? (i := 144) rfl)) rfl)) (fw_c (sw_decl h0 hF.1 (in_tables_1_2 (List.mem_of_getElem? (i := 101) rfl))) (fw_c (hg _ (bs_in (in_tables_1_2 (List.mem_of_getElem? (i := 144) rfl)) rfl)) (fw_c (hg _ (bs_in (in_tables_1_2 (List.mem_of_getElem? (i := 145) rfl)) rfl)) (fw_c (hg _ (bs_in (in_tables_1_2 (List.mem_of_getElem? (i := 146) rfl)) rfl)) (fw_c (hg _ (bs_in (in_tables_1_2 (List.mem_of_getElem? (i := 147) rfl)) rfl)) (fw_c (sw_decl h0 hF.1 (in_tables_1_2 (List.mem_of_getElem? (i := 103) rfl))) (fw_c (hg _ (bs_in (in_tables_1_3 (List.mem_of_getElem? (i := 33) rfl)) rfl)) (fw_c (hg _ (bs_in (in_tables_1_3 (List.mem_of_getElem? (i := 24) rfl)) rfl)) (fw_c (sw_cast h0 hF.1 (in_tables_1_3 (List.mem_of_getElem? (i := 25) rfl))) (fw_c (hg _ (bs_in (in_tables_1_3 (List.mem_of_getElem? (i := 26) rfl)) rfl)) (fw_c (hg _ (bs_in (in_tables_1_2 (List.mem_of_getElem? (i := 129) rfl)) rfl)) (fw_c (hg _ (bs_in (in_tables_1_3 (List.mem_of_getElem? (i := 27) rfl)) rfl)) (fw_c (hg _ (bs_in (in_tables_1_3 (List.mem_of_getElem? (i := 28) rfl)) rfl)) (fw_c (hg _ (bs_in (in_tables_1_3 (List.mem_of_getElem? (i := 29) rfl)) rfl)) (fw_c (hg _ (bs_in (in_tables_1_3 (List.mem_of_getElem? (i := 30) rfl)) rfl)) (fw_c (fb_isRef hF h0.2.1) (fw_c (fb_isRef hF h0.2.2.1) (fw_c (hg _ (bs_in (in_tables_1_2 (List.mem_of_getElem? (i := 116) rfl)) rfl)) (fw_c (hg _ (bs_in (in_tables_1_2 (List.mem_of_getElem? (i := 115) rfl)) rfl)) (fw_c (hg _ (bs_in (in_tables_1_3 (List.mem_of_getElem? (i := 31) rfl)) rfl)) (fw_n)))))))))))))))))))))))))))))))))))))))))))))))))))))))))
def Ph (κ : Nat → Nat) : Nat := 5 * (κ 6) + 5 * (κ 7) + 4 * (κ 8) + 4 * (κ 9) + 4 * (κ 10) + 4 * (κ 11) + 5 * (κ 12) + 4 * (κ 13) + 3 * (κ 14) + 1 * (κ 15)
/-- what a public call leaves: the book, its sizes, and how much has come -/
def PB (γ : gE) (A : Nat → Prop) (κ : Nat → Nat) (H0 : Heap) (rel : (Nat → Nat) → Prop) (H : Heap) : Prop := ∃ κ' : Nat → Nat, INV γ A κ' H ∧ rel κ' ∧ Ph κ ≤ Ph κ' ∧ GR H0 H (Ph κ' - Ph κ + 1) (2 * (Ph κ' - Ph κ) + 6)
def fr_A (A : Nat → Prop) (H0 H : Heap) : Prop := H0.size ≤ H.size ∧ ∀ q : Nat, q < H0.size → ¬ A q → H[q]? = H0[q]?
theorem fr_more {A : Nat → Prop} {H0 H H1 : Heap} {locs : List Loc} (hS : va_S A H0 H locs) (hz : H.size ≤ H1.size) (hk : ∀ q : Nat, q < H.size → H1[q]? = H[q]?) : fr_A A H0 H1 := ⟨Nat.le_trans hS.1 hz, fun q h1 h2 => (hk q (Nat.lt_of_lt_of_le h1 hS.1)).trans (hS.2.1 q h1 h2)⟩
theorem inv_len {γ : gE} {A : Nat → Prop} {κ : Nat → Nat} {H : Heap} (hI : INV γ A κ H) : (κ 6 ≤ 8192 ∧ κ 7 ≤ 8192 ∧ κ 8 ≤ 8192 ∧ κ 9 ≤ 8192 ∧ κ 10 ≤ 8192 ∧ κ 11 ≤ 8192 ∧ κ 12 ≤ 8192 ∧ κ 13 ≤ 8192 ∧ κ 14 ≤ 8192 ∧ κ 15 ≤ 8192) ∧ κ 0 ≤ κ 11 ∧ κ 1 ≤ κ 0 ∧ κ 2 ≤ κ 12 ∧ κ 4 ≤ κ 13 ∧ κ 5 ≤ κ 14 ∧ 1 ≤ κ 3 ∧ κ 3 ≤ 32 := by
  obtain ⟨_, _, ⟨_, _, _, _, _, a1, _⟩, _, _⟩ := inv_c hI 1 (by decide) (by decide)
  obtain ⟨_, _, ⟨_, _, _, _, _, _, _, _, _, b1, b2, _, b4, _⟩, _, _⟩ := inv_c hI 2 (by decide) (by decide)
  obtain ⟨_, _, ⟨_, _, _, _, _, _, _, _, _, _, _, _, _, _, _, c1, c2, _, c4, c5, _⟩, _, _⟩ := inv_c hI 3 (by decide) (by decide)
  obtain ⟨_, _, ⟨_, _, _, _, _, _, _, _, _, d1, d2, _⟩, _, _⟩ := inv_c hI 4 (by decide) (by decide)
  obtain ⟨_, _, ⟨_, _, _, _, _, _, _, e1, e2, _⟩, _, _⟩ := inv_c hI 5 (by decide) (by decide)
  obtain ⟨_, _, ⟨_, _, _, f1, _⟩, _, _⟩ := inv_c hI 6 (by decide) (by decide)
  obtain ⟨_, _, ⟨_, _, _, _, _, _, _, _, _, _, _, g1, _⟩, _, _⟩ := inv_c hI 7 (by decide) (by decide)
  obtain ⟨_, _, ⟨_, _, _, i1, _⟩, _, _⟩ := inv_c hI 8 (by decide) (by decide)
  obtain ⟨_, _, ⟨_, _, _, _, _, _, _, _, _, _, _, j1, _⟩, _, _⟩ := inv_c hI 9 (by decide) (by decide)
  obtain ⟨_, _, ⟨_, _, _, k1, _⟩, _, _⟩ := inv_c hI 10 (by decide) (by decide)
  exact ⟨⟨g1, j1, f1, i1, k1, b2, c2, d2, e2, a1⟩, b1, b4, c1, d1, e1, c4, c5⟩
theorem wcm {n N : Nat} (hn : n ≤ 8192) (hN : N ≤ 4096) : wc n N ≤ 1 ∧ wm n N ≤ 16384 ∧ n ≤ wl n N ∧ wc n N ≤ wl n N - n ∧ wm n N ≤ 2 * (wl n N - n) ∧ wl n N ≤ 8192 ∧ N ≤ wl n N := by
  unfold wc wm wl
  by_cases h : N ≤ n
  · simp only [if_pos h]
    omega
  · simp only [if_neg h]
    omega
theorem le_ok {x v : Int32} {N : Nat} (h0 : ¬ x < 0) (ev : v = nI N) (h1 : x ≤ v) (hN : N < 2 ^ 31) : ∃ k, k ≤ N ∧ x = nI k := by
  subst ev
  obtain ⟨j, hj, rfl⟩ := nI_of h0
  exact ⟨j, (nI_leI hj hN).mp h1, rfl⟩
theorem lt_ok {v c : Int32} {N M : Nat} (ev : v = nI N) (ec : c = nI M) (h : v < c) (hN : N < 2 ^ 31) (hM : M < 2 ^ 31) : N < M := by
  subst ev; subst ec
  exact (nI_ltI hN hM).mp h
theorem gt_ok {v c : Int32} {N M : Nat} (ev : v = nI N) (ec : c = nI M) (h : c < v) (hN : N < 2 ^ 31) (hM : M < 2 ^ 31) : M < N := by
  subst ev; subst ec
  exact (nI_ltI hM hN).mp h
section TXO
variable {l : Launch} {y : MethodName} {bytes : ByteArray} {maxL mc ms fr lo : Nat} {av : List Value} {γ : gE} {A : Nat → Prop} {PS : State → Prop} {XC : String → Heap → Prop}
theorem tx_openI {PO : Int32 → Heap → Prop} (hy : plainName y.cls = true) (hn : (lg_sl av).length ≤ maxL)
    (body : ∀ (p : Program) (e : Env) (s : State) (m : MethodId) (args : Array Value) (below : List Frame) (meth : Method) (c : Code) (ls : Array Slot) (Q : State → Prop), bs_F p s m args c bytes maxL y.cls → meth.sig.returnType = some .int → meth.locks = false → c.exceptionTable.toList = [] → CX γ s → (∀ q, s.heap.size ≤ q → A q) → PS s → Q = tx_MQ below (mQi PO A) XC args s mc ms A → lv_has ls maxL (lv_args 0 av) →
      W p l e (bs_rm fr mc ms lo) s m args below meth c s.heap [] 0 0 Q (F0 m 0 ls [])) : XM l y bytes maxL (some .int) fr lo mc ms av γ A PS (mQi PO A) XC :=
  tx_open hy hn (fun p e s m below meth c ls S hr hlk hX hC hA hP hl => body p e s m _ below meth c ls _ S hr hlk hX hC hA hP rfl hl)
theorem ps_openZ {post : Int32 → Prop} (hy : plainName y.cls = true) (hn : (lg_sl av).length ≤ maxL)
    (body : ∀ (p : Program) (e : Env) (s : State) (m : MethodId) (args : Array Value) (below : List Frame) (meth : Method) (c : Code) (ls : Array Slot) (Q : State → Prop), bs_F p s m args c bytes maxL y.cls → CX γ s → PS s → (∀ (v : Int32) (pc : Nat) (ls : Array Slot), narrow .boolean (.int v) = .int v → post v → decode bytes pc = .ok (.ireturn, 1) → W p l e (bs_rm fr 0 0 lo) s m args below meth c s.heap [] 0 0 Q (F0 m pc ls [.int v])) → lv_has ls maxL (lv_args 0 av) → W p l e (bs_rm fr 0 0 lo) s m args below meth c s.heap [] 0 0 Q (F0 m 0 ls [])) :
    Met l y (Cond.code y bytes maxL (some .boolean) :: bs_W0) (bs_rm fr 0 0 lo) (va_Pc av (fun U => CX γ U ∧ PS U)) (vp_Si post) 0 0 (fun _ => False) := by
  refine Met.ofW (cc := bytes) (maxL := maxL) (ret := some .boolean) hy rfl ?_
  intro p e s m args below meth c s₁ B hml hv
  obtain ⟨rfl, hC, hP⟩ := hv
  have hts := bs_hts (atoms_spec (ws := Cond.code y bytes maxL (some .boolean) :: bs_W0) B.pre)
  have hl := lv_entry av (n := maxL) hn
  rw [lg_entry_eq]
  exact body p e s m _ below meth c _ _ ⟨B.exec, B.bytes, hml, findClass_of_methodNamed B.named, hts⟩ hC hP (fun v _ _ hz hp hdg => W.zret B.exec B.bytes B.returns hz (fun t ht _ => ⟨v, rfl, hp, ht⟩) (fun q h => by cases h) hdg B.notSynchronized) hl
end TXO
theorem qw_cff65ee3fd : (Cond.fieldLink R_Names 46 R_Names "FIRST_SORTS" "[I") ∈ bs_W0 := bs_in (in_tables_1_1 (List.mem_of_getElem? (i := 69) rfl)) rfl
theorem hr_blind {av : List Value} {γ : gE} {A : Nat → Prop} {κ : Nat → Nat} {s0 : State} : FrameBlind (va_Pc av (fun U => CX γ U ∧ FB s0 U U.heap ∧ INV γ A κ U.heap)) := fun _ _ _ _ h => ⟨h.1, h.2.1.same rfl, h.2.2.1.same rfl, h.2.2.2⟩
theorem qn_cf408b0714 : (Cond.fieldLinkNest R_TypeBook 57 R_Trees "roots" "I" "TypeBook") ∈ lw_tbl := in_tables_1_1 (List.mem_of_getElem? (i := 45) rfl)
theorem qw_697d580e16 : (Cond.methodLink R_TypeBook 67 yTrees_bearsName) ∈ bs_W0 := bs_in (in_tables_1_2 (List.mem_of_getElem? (i := 163) rfl)) rfl
theorem qw_87c028f095 : (Cond.methodLink R_TypeBook 71 yTypeBook_isName) ∈ bs_W0 := bs_in (in_tables_1_2 (List.mem_of_getElem? (i := 166) rfl)) rfl
theorem qw_b17894d46b : (Cond.classLink R_TypeBook 60 "java/lang/IllegalArgumentException") ∈ bs_W0 := bs_in (in_tables_1_2 (List.mem_of_getElem? (i := 95) rfl)) rfl
theorem qw_ed8d893ebf : (Cond.initialized "java/lang/IllegalArgumentException") ∈ bs_W0 := bs_in (in_tables_1_1 (List.mem_of_getElem? (i := 18) rfl)) rfl
theorem qn_307125c060 : (Cond.fieldLinkNest R_TypeBook 76 R_Trees "size" "I" "TypeBook") ∈ lw_tbl := in_tables_1_1 (List.mem_of_getElem? (i := 43) rfl)
theorem qw_d8f39e7603 : (Cond.methodLink R_TypeBook 84 yTrees_grow) ∈ bs_W0 := bs_in (in_tables_1_2 (List.mem_of_getElem? (i := 186) rfl)) rfl
theorem qw_ce6a8385d0 : (Cond.fieldLink R_TypeBook 40 R_TypeBook "known" "LTypeBook$Looks;") ∈ bs_W0 := bs_in (in_tables_1_2 (List.mem_of_getElem? (i := 56) rfl)) rfl
theorem qw_23eabf8a60 : (Cond.methodLink R_TypeBook 88 yLooks_makeRoom) ∈ bs_W0 := bs_in (in_tables_1_2 (List.mem_of_getElem? (i := 199) rfl)) rfl
theorem qw_58d2a16fbc : (Cond.methodLink R_TypeBook 92 yLooks_forget) ∈ bs_W0 := bs_in (in_tables_1_2 (List.mem_of_getElem? (i := 216) rfl)) rfl
theorem qw_130a6323a2 : (Cond.fieldLink R_TypeBook 49 R_TypeBook "looker" "LTypeBook$Looker;") ∈ bs_W0 := bs_in (in_tables_1_2 (List.mem_of_getElem? (i := 57) rfl)) rfl
theorem qw_524cf24ff5 : (Cond.methodLink R_TypeBook 95 yLooker_makeRoom) ∈ bs_W0 := bs_in (in_tables_1_2 (List.mem_of_getElem? (i := 224) rfl)) rfl
theorem qw_8038d8d33c : (Cond.classLink R_TypeBook 79 "java/lang/IllegalStateException") ∈ bs_W0 := bs_in (in_tables_1_2 (List.mem_of_getElem? (i := 170) rfl)) rfl
theorem qw_f529d83890 : (Cond.initialized "java/lang/IllegalStateException") ∈ bs_W0 := bs_in (in_tables_1_1 (List.mem_of_getElem? (i := 19) rfl)) rfl
theorem qn_75616f261a : (Cond.fieldLinkNest R_TypeBook 99 R_Names "scopes" "I" "TypeBook") ∈ lw_tbl := in_tables_1_1 (List.mem_of_getElem? (i := 108) rfl)
theorem qw_0f394564bc : (Cond.methodLink R_TypeBook 104 yNames_open) ∈ bs_W0 := bs_in (in_tables_1_2 (List.mem_of_getElem? (i := 238) rfl)) rfl
theorem qw_90a02633e0 : (Cond.methodLink R_TypeBook 112 yTrees_has) ∈ bs_W0 := bs_in (in_tables_1_3 (List.mem_of_getElem? (i := 22) rfl)) rfl
theorem qw_393f431be6 : (Cond.fieldLink R_TypeBook 26 R_TypeBook "types" "LTypeBook$Types;") ∈ bs_W0 := bs_in (in_tables_1_2 (List.mem_of_getElem? (i := 54) rfl)) rfl
theorem qw_438f5fc1da : (Cond.methodLink R_TypeBook 174 yTypes_has) ∈ bs_W0 := bs_in (in_tables_1_5 (List.mem_of_getElem? (i := 51) rfl)) rfl
theorem qw_d8c2c64b31 : (Cond.methodLink R_TypeBook 120 yLooker_look) ∈ bs_W0 := bs_in (in_tables_1_3 (List.mem_of_getElem? (i := 39) rfl)) rfl
theorem qw_eb62b8f344 : (Cond.methodLink R_TypeBook 186 yLooker_judge) ∈ bs_W0 := bs_in (in_tables_1_5 (List.mem_of_getElem? (i := 63) rfl)) rfl
theorem qw_e2e3c61940 : (Cond.methodLink R_TypeBook 140 yLooker_tell) ∈ bs_W0 := bs_in (in_tables_1_4 (List.mem_of_getElem? (i := 223) rfl)) rfl
theorem qn_b283086a15 : (Cond.fieldLinkNest R_TypeBook 124 R_Looker "at" "I" "TypeBook") ∈ lw_tbl := in_tables_1_2 (List.mem_of_getElem? (i := 34) rfl)
theorem qw_fa3e8c2955 : (Cond.methodLink R_TypeBook 127 yTypeBook_refused) ∈ bs_W0 := bs_in (in_tables_1_4 (List.mem_of_getElem? (i := 197) rfl)) rfl
theorem qw_ae3ba0ca69 : (Cond.classLink R_TypeBook 115 "java/lang/IndexOutOfBoundsException") ∈ bs_W0 := bs_in (in_tables_1_3 (List.mem_of_getElem? (i := 23) rfl)) rfl
theorem qw_d4b771d349 : (Cond.initialized "java/lang/IndexOutOfBoundsException") ∈ bs_W0 := bs_in (in_tables_1_1 (List.mem_of_getElem? (i := 20) rfl)) rfl
theorem qw_2a1bb1d659 : (Cond.methodLink R_TypeBook 203 yTypes_classOf) ∈ bs_W0 := bs_in (in_tables_1_5 (List.mem_of_getElem? (i := 112) rfl)) rfl
theorem qw_a3d1d3dd8a : (Cond.methodLink R_TypeBook 206 yTypes_leftOf) ∈ bs_W0 := bs_in (in_tables_1_5 (List.mem_of_getElem? (i := 113) rfl)) rfl
theorem qw_d58eb31f37 : (Cond.methodLink R_TypeBook 209 yTypes_rightOf) ∈ bs_W0 := bs_in (in_tables_1_5 (List.mem_of_getElem? (i := 114) rfl)) rfl
theorem qw_49a1679266 : (Cond.methodLink R_TypeBook 212 yTypes_countOf) ∈ bs_W0 := bs_in (in_tables_1_5 (List.mem_of_getElem? (i := 115) rfl)) rfl
theorem qw_454402417c : (Cond.methodLink R_TypeBook 213 yTypes_goesDown) ∈ bs_W0 := bs_in (in_tables_1_5 (List.mem_of_getElem? (i := 116) rfl)) rfl
theorem qw_d27d929e86 : (Cond.methodLink R_TypeBook 218 yLooks_classOf) ∈ bs_W0 := bs_in (in_tables_1_5 (List.mem_of_getElem? (i := 125) rfl)) rfl
theorem qw_98feb12098 : (Cond.methodLink R_TypeBook 219 yLooks_extentOf) ∈ bs_W0 := bs_in (in_tables_1_5 (List.mem_of_getElem? (i := 126) rfl)) rfl
theorem qw_20deece3e0 : (Cond.methodLink R_TypeBook 222 yLooks_isFixed) ∈ bs_W0 := bs_in (in_tables_1_5 (List.mem_of_getElem? (i := 127) rfl)) rfl
theorem qw_1063e05a19 : (Cond.methodLink R_TypeBook 225 yLooks_meaningOf) ∈ bs_W0 := bs_in (in_tables_1_5 (List.mem_of_getElem? (i := 128) rfl)) rfl
theorem qn_8558a3cbf3 : (Cond.fieldLinkNest R_TypeBook 235 R_Looks "rows" "LTypeBook$Rows;" "TypeBook") ∈ lw_tbl := in_tables_1_1 (List.mem_of_getElem? (i := 212) rfl)
theorem qw_9e45f7f101 : (Cond.methodLink R_TypeBook 239 yRows_get) ∈ bs_W0 := bs_in (in_tables_1_5 (List.mem_of_getElem? (i := 139) rfl)) rfl
theorem qw_9f81a39e28 : (Cond.methodLink R_TypeBook 230 yLooks_numberOf) ∈ bs_W0 := bs_in (in_tables_1_5 (List.mem_of_getElem? (i := 137) rfl)) rfl
theorem qw_03b670d8a8 : (Cond.methodLink R_TypeBook 130 yLooker_typeFault) ∈ bs_W0 := bs_in (in_tables_1_4 (List.mem_of_getElem? (i := 201) rfl)) rfl
theorem qn_cc358838e1 : (Cond.fieldLinkNest R_TypeBook 137 R_Types "size" "I" "TypeBook") ∈ lw_tbl := in_tables_1_1 (List.mem_of_getElem? (i := 146) rfl)
theorem qw_b73ec2bf69 : (Cond.methodLink R_TypeBook 147 yLooker_namedType) ∈ bs_W0 := bs_in (in_tables_1_5 (List.mem_of_getElem? (i := 5) rfl)) rfl
theorem qw_2a88b5adf9 : (Cond.methodLink R_TypeBook 144 yLooker_newType) ∈ bs_W0 := bs_in (in_tables_1_5 (List.mem_of_getElem? (i := 0) rfl)) rfl
theorem qw_323c2e74ae : (Cond.methodLink R_TypeBook 109 yNames_close) ∈ bs_W0 := bs_in (in_tables_1_3 (List.mem_of_getElem? (i := 10) rfl)) rfl
theorem qw_bd2f27f55e : (Cond.methodLink R_TypeBook 159 yNames_haveRoom) ∈ bs_W0 := bs_in (in_tables_1_5 (List.mem_of_getElem? (i := 37) rfl)) rfl
theorem qw_b1d56e075d : (Cond.methodLink R_TypeBook 171 yNames_put) ∈ bs_W0 := bs_in (in_tables_1_5 (List.mem_of_getElem? (i := 43) rfl)) rfl
theorem qw_ba22bdaa87 : (Cond.fieldLink R_TypeBook 33 R_TypeBook "objects" "LTypeBook$Objects;") ∈ bs_W0 := bs_in (in_tables_1_2 (List.mem_of_getElem? (i := 55) rfl)) rfl
theorem qn_e6bc9a285a : (Cond.fieldLinkNest R_TypeBook 190 R_Objects "size" "I" "TypeBook") ∈ lw_tbl := in_tables_1_1 (List.mem_of_getElem? (i := 182) rfl)
theorem qw_38c6a61637 : (Cond.methodLink R_TypeBook 193 yObjects_put) ∈ bs_W0 := bs_in (in_tables_1_5 (List.mem_of_getElem? (i := 84) rfl)) rfl
theorem qw_cacfa3400d : (Cond.methodLink R_TypeBook 195 yObjects_keep) ∈ bs_W0 := bs_in (in_tables_1_5 (List.mem_of_getElem? (i := 90) rfl)) rfl
theorem qw_e916332e74 : (Cond.methodLink R_TypeBook 150 yTypeBook_malformedEnumNode) ∈ bs_W0 := bs_in (in_tables_1_5 (List.mem_of_getElem? (i := 17) rfl)) rfl
theorem qw_ccf0bc88fe : (Cond.methodLink R_TypeBook 153 yTypeBook_takenEnumNode) ∈ bs_W0 := bs_in (in_tables_1_5 (List.mem_of_getElem? (i := 23) rfl)) rfl
theorem qw_90d427dfca : (Cond.methodLink R_TypeBook 164 yTypes_put) ∈ bs_W0 := bs_in (in_tables_1_5 (List.mem_of_getElem? (i := 42) rfl)) rfl
-- CONSTRUCTORS: stores into final fields, new cells at known places, calls of <init>
theorem qc_obj : (Cond.code Lib.objectInit ⟨#[0xb1]⟩ 1 none) ∈ bs_W0 := bs_in (in_tables_1_1 (List.mem_of_getElem? (i := 31) rfl)) rfl
def iv (lo hi : Nat) (q : Nat) : Prop := lo ≤ q ∧ q < hi
theorem iv_kept {γ : gE} {F : va_W → Prop} {lo hi : Nat} {H H1 : Heap} (h : cmp γ F (iv lo hi) H) (hk : ∀ q : Nat, lo ≤ q → q < hi → q < H.size → H1[q]? = H[q]?) : cmp γ F (iv lo hi) H1 := cmp_kept h (fun q hq hl => hk q hq.1 hq.2 hl) (fun q hq _ => hq)
theorem iv_of {γ : gE} {F : va_W → Prop} {a hi : Nat} {H : Heap} (h : cmp γ F (fun q => a ≤ q) H) (hz : H.size = hi) : cmp γ F (iv a hi) H := cmp_kept h (fun _ _ _ => rfl) (fun q hq hl => ⟨hq, by rw [← hz]; exact hl⟩)
/-- what is known of a constructor -/
def bs_Mc (y : MethodName) (bytes : ByteArray) (maxL n : Nat) : Prop :=
  Cond.instanceMethod y ∈ bs_W0 ∧ Cond.initialized y.cls ∈ bs_W0 ∧ Cond.code y bytes maxL none ∈ bs_W0 ∧ (y.cls ≠ "java/lang/invoke/MethodHandle" ∧ y.cls ≠ "java/lang/invoke/VarHandle" ∧ (parseMethodDescriptor y.desc).map (fun d => d.parameters.length) = some n) ∧ y.name = "<init>"
abbrev MS (l : Launch) (y : MethodName) (bytes : ByteArray) (maxL : Nat) (ret : Option FieldType) (fr lo mc ms : Nat) (av : List Value) (γ : gE) (A : Nat → Prop) (PS : State → Prop) (Qc : Array Value → State → Outcome → State → Prop) : Prop :=
  Met l y (Cond.code y bytes maxL ret :: bs_W0) (bs_rm fr mc ms lo) (va_Pc av (fun U => CX γ U ∧ (∀ q, U.heap.size ≤ q → A q) ∧ PS U)) Qc mc ms A
section CTS
variable {p : Program} {l : Launch} {e : Env} {R : Room} {s : State} {m : MethodId} {args : Array Value} {below : List Frame} {meth : Method} {c : Code} {H : Heap} {locs : List Loc} {cells slots : Nat} {Q : State → Prop}
variable {cc : ByteArray} {pc : Nat} {ls : Array Slot} {rest : List Value} {D : va_G} {cl : List vw_C} {A Z A0 : Nat → Prop} {a : Nat} {tys : List (ClassId × FieldType)} {ws : va_W} {H0 : Heap} {nL index : Nat} {own : String} {γ : gE} {κ : Nat → Nat}
variable {y : MethodName} {bytes : ByteArray} {maxL mc ms n fr lo : Nat} {b : Addr} {As st0 av : List Value} {PS : State → Prop}
theorem st_putF (hexec : p.tables.exec = Jvm.exec) (hb : c.code = cc) {ref C : String} {T : u_T} {N ci : Nat} {Ts : List Cond} (hts : ∀ w ∈ Ts, w.before args s = true) (hin : ∀ w ∈ u_ws C T N, w ∈ Ts) (ty0 : Nat → FieldType) (hty : ∀ k, k < N → parseFieldDescriptor (T k).2.2.1 = some (ty0 k)) (hnm : ∀ a, a < N → ∀ b, b < N → a ≠ b → (T a).2.1 ≠ (T b).2.1) (hown : s.vm.findClass own = some m.cls) (hK : va_K D cl tys s) (hP : va_P D cl ws H) (hD : va_D Z ws) (hZA : ∀ q, Z q → A q) (hS0 : va_S A H0 H locs) (q0 : Nat) {fs : List Value} (he : ws[q0]? = some (a, .inr (ci, fs))) (hc : cl[ci]? = some (C, T, N)) (k : Nat) (hk : k < N) (hlink : (Cond.fieldLink own index ref (T k).2.1 (T k).2.2.1).before args s = true) (hsame : ∀ x, s.fieldFound? (T k).1 (T k).2.1 (T k).2.2.1 = some x → s.fieldFound? ref (T k).2.1 (T k).2.2.1 = some x) (hfin : (T k).2.2.2 = true) (hini : meth.name = "<init>") (hdecl : (T k).1 = own) {ty : FieldType} {v : Value} (hd : parseFieldDescriptor (T k).2.2.1 = some ty) (hn : narrow ty v = v) (hfit : fits ty v = true) (hl : k < fs.length)
    (hdg : decode cc pc = .ok (.putfield index, 3)) (kk : ∀ (H1 : Heap) (locs1 : List Loc), va_P D cl (ws.set q0 (a, .inr (ci, fs.set k v))) H1 → va_D Z (ws.set q0 (a, .inr (ci, fs.set k v))) → va_S A H0 H1 locs1 → H1.size = H.size → (∀ q, q ≠ a → H1[q]? = H[q]?) → W p l e R s m args below meth c H1 locs1 cells slots Q (F0 m (pc + 3) ls rest)) : W p l e R s m args below meth c H locs cells slots Q (F0 m pc ls (v :: .ref a :: rest)) := by
  have hap := va_apart (own := own) hts hin ty0 hty hnm hK hc
  obtain ⟨r, h1, cell, q1, q2, q3, q4⟩ := hP q0 _ he
  cases (Option.some.inj (h1.symm.trans hc))
  obtain ⟨hS, hfc, kC, hkC, hkind⟩ := hK.1 ci _ hc
  obtain ⟨cf, kf, fi, f, hi, hsl⟩ := hS k hk
  have hlay := hts _ (hin _ (u_in_lay hk))
  unfold u_lay at hlay
  rw [if_pos hfin] at hlay
  have hst := (u_facts hfc hkC (u_lays hts hin hk) hi).1
  have hcf : m.cls = cf := by
    obtain ⟨_, _, c9, _, _, _, -, -, hf9, -, -, -, ho9, -⟩ := Cond.laysFinal_spec hlay
    have e9 : c9 = cf := by have h9 := hi.symm.trans hf9; simp at h9; exact h9.1.symm
    rw [hdecl] at ho9
    rw [← e9]
    exact Option.some.inj (hown.symm.trans ho9)
  have h6 := u_fits hfc hkC hkind (Or.inr hlay) hi hd hn hfit
  refine W.putFinK hexec hb hown hlink (hsame _ hi) hst hcf hini (by rw [q2]; exact h6) q1 q3 (by rw [hsl]; exact k2_hasslot (q4 k hk)) rfl rfl hdg fun H9 e1 e2 e3 => ?_
  rw [hsl] at e1 ⊢
  exact kk H9 _ (hP.set hD he ⟨_, hc, t_OB.to (V := updV (vp_V fs) k v) ⟨_, e1, q2, q3, t_set q4 hap hk v⟩ (fun j _ => vp_updV_set hl v j)⟩ e3) (hD.set he) (hS0.put e2 e3 (hZA _ (hD.2 q0 _ he))) e2 e3
/-- a new array at the heap's end -/
theorem cw_newa (S : bs_F p s m args c cc nL own) (hC : CX γ s) (harr : Cond.arrayClass .int ∈ bs_W0) (hP : va_P γ.1 vwCl ws H) (hD : va_D Z ws) (hS : va_S Z H0 H locs) (hZ : ∀ q, H0.size ≤ q → Z q) {k : Nat} (hk : H.size = k) {x : Int32} (N : Nat) (hx : x = nI N) (hN : N ≤ 1000000) (hc : cells + 1 ≤ R.cells) (hs : slots + N ≤ R.slots) (hdg : decode cc pc = .ok (.newarray .int, 2))
    (kk : ∀ H1 : Heap, va_P γ.1 vwCl (ws ++ [(k, .inl (γ.2.1, N, .inl (fun _ => 0)))]) H1 → va_D Z (ws ++ [(k, .inl (γ.2.1, N, .inl (fun _ => 0)))]) → va_S Z H0 H1 locs → H1.size = k + 1 → (∀ q : Nat, q < k → H1[q]? = H[q]?) → W p l e R s m args below meth c H1 locs (cells + 1) (slots + N) Q (F0 m (pc + 2) ls (.ref k :: rest))) : W p l e R s m args below meth c H locs cells slots Q (F0 m pc ls (.int x :: rest)) := by
  subst hx
  subst hk
  refine va_newaK (atype := .int) (N := N) S.1 S.2.1 (S.2.2.2.2 _ harr) rfl hdg rfl (nI_pos (by omega)) (nI_clamp (by omega)) (by show N * 4 ≤ _; omega) hc hs rfl (fun H1 cA e1 z1 o1 hAr hNm => ?_)
  have hcA : cA = γ.2.1 := Option.some.inj (hNm.symm.trans (va_nm_int (hC.1.2 0 _ rfl).2))
  subst hcA
  have hq : ∀ (k : Nat) (x : Nat × va_E), ws[k]? = some x → H1[x.1]? = H[x.1]? := fun k x hx => o1 x.1 ((hP k x hx).lt)
  exact kk H1 ((hP.kept hq).app (one_P e1)) (hD.push hP rfl (hZ _ hS.1)) ⟨Nat.le_trans hS.1 (by omega), fun x h1 h2 => (o1 x (Nat.lt_of_lt_of_le h1 hS.1)).trans (hS.2.1 x h1 h2), hS.2.2⟩ z1 o1
theorem cw_newl (S : bs_F p s m args c cc nL own) (hC : CX γ s) (harr : Cond.arrayClass .long ∈ bs_W0) (hP : va_P γ.1 vwCl ws H) (hD : va_D Z ws) (hS : va_S Z H0 H locs) (hZ : ∀ q, H0.size ≤ q → Z q) {k : Nat} (hk : H.size = k) {x : Int32} (N : Nat) (hx : x = nI N) (hN : N ≤ 1000000) (hc : cells + 1 ≤ R.cells) (hs : slots + N ≤ R.slots) (hdg : decode cc pc = .ok (.newarray .long, 2))
    (kk : ∀ H1 : Heap, va_P γ.1 vwCl (ws ++ [(k, .inl (γ.2.2.1, N, .inr (.inl (fun _ => 0))))]) H1 → va_D Z (ws ++ [(k, .inl (γ.2.2.1, N, .inr (.inl (fun _ => 0))))]) → va_S Z H0 H1 locs → H1.size = k + 1 → (∀ q : Nat, q < k → H1[q]? = H[q]?) → W p l e R s m args below meth c H1 locs (cells + 1) (slots + N) Q (F0 m (pc + 2) ls (.ref k :: rest))) : W p l e R s m args below meth c H locs cells slots Q (F0 m pc ls (.int x :: rest)) := by
  subst hx
  subst hk
  refine va_newaK (atype := .long) (N := N) S.1 S.2.1 (S.2.2.2.2 _ harr) rfl hdg rfl (nI_pos (by omega)) (nI_clamp (by omega)) (by show N * 8 ≤ _; omega) hc hs rfl (fun H1 cA e1 z1 o1 hAr hNm => ?_)
  have hcA : cA = γ.2.2.1 := Option.some.inj (hNm.symm.trans (va_nm_long (hC.1.2 1 _ rfl).2))
  subst hcA
  have hq : ∀ (k : Nat) (x : Nat × va_E), ws[k]? = some x → H1[x.1]? = H[x.1]? := fun k x hx => o1 x.1 ((hP k x hx).lt)
  exact kk H1 ((hP.kept hq).app (one_P e1)) (hD.push hP rfl (hZ _ hS.1)) ⟨Nat.le_trans hS.1 (by omega), fun x h1 h2 => (o1 x (Nat.lt_of_lt_of_le h1 hS.1)).trans (hS.2.1 x h1 h2), hS.2.2⟩ z1 o1
/-- a new object at the heap's end, beside the world -/
theorem cw_new (S : bs_F p s m args c cc nL own) (hC : CX γ s) {C : String} {T : u_T} {N ci : Nat} (hin : ∀ w ∈ u_ws C T N, w ∈ bs_W0) (ty : Nat → FieldType) (hty : ∀ k, k < N → parseFieldDescriptor (T k).2.2.1 = some (ty k)) (hcl : Cond.classLink own index C ∈ bs_W0) (hinst : Cond.instantiable C N ∈ bs_W0) (hini : Cond.initialized C ∈ bs_W0) (hc : vwCl[ci]? = some (C, T, N)) {fs : List Value} (hfs : ∀ j, j < N → defaultValue (ty j) = vp_V fs j)
    (hP : va_P γ.1 vwCl ws H) (hS : va_S Z H0 H locs) (hZ : ∀ q, H0.size ≤ q → Z q) {k : Nat} (hk : H.size = k) (hce : cells + 1 ≤ R.cells) (hsl : slots + N ≤ R.slots) (hdg : decode cc pc = .ok (.new index, 3))
    (kk : ∀ H1 : Heap, va_P γ.1 vwCl [(k, .inr (ci, fs))] H1 → va_P γ.1 vwCl ws H1 → va_S Z H0 H1 locs → H1.size = k + 1 → (∀ q : Nat, q < k → H1[q]? = H[q]?) → W p l e R s m args below meth c H1 locs (cells + 1) (slots + N) Q (F0 m (pc + 3) ls (.ref k :: rest))) : W p l e R s m args below meth c H locs cells slots Q (F0 m pc ls rest) := by
  subst hk
  obtain ⟨hx, hb, -, hown, hW⟩ := S
  have hKn := hC.1.1 ci _ hc
  refine W.newcK hx hb hown (hW _ hcl) (hW _ hinst) (hW _ hini) rfl hdg hce hsl hKn.2.1 rfl fun H1 kC hkC e1 z1 o1 => ?_
  have hq : ∀ (k : Nat) (x : Nat × va_E), ws[k]? = some x → H1[x.1]? = H[x.1]? := fun k x hx => o1 x.1 ((hP k x hx).lt)
  refine kk H1 ?_ (hP.kept hq) ⟨Nat.le_trans hS.1 (by omega), fun x h1 h2 => (o1 x (Nat.lt_of_lt_of_le h1 hS.1)).trans (hS.2.1 x h1 h2), hS.2.2⟩ z1 o1
  intro k9 x9 hx9
  have hz9 : k9 < 1 := (List.getElem?_eq_some_iff.mp hx9).1
  rw [show k9 = 0 by omega] at hx9
  cases hx9
  exact ⟨_, hc, (u_born ty hW hin hKn hkC e1 hty).to hfs⟩
theorem ms_openV {PO : Heap → Prop} (hy : plainName y.cls = true) (hn : (lg_sl av).length ≤ maxL)
    (body : ∀ (p : Program) (e : Env) (s : State) (m : MethodId) (args : Array Value) (below : List Frame) (meth : Method) (c : Code) (ls : Array Slot) (Q : State → Prop), bs_F p s m args c bytes maxL y.cls → meth.name = y.name → CX γ s → (∀ q, s.heap.size ≤ q → A q) → PS s → (∀ (H : Heap) (locs : List Loc) (cells slots pc : Nat) (ls : Array Slot), va_S A s.heap H locs → cells ≤ mc → slots ≤ ms → (GR s.heap H cells slots → PO H) → decode bytes pc = .ok (.return_, 1) → W p l e (bs_rm fr mc ms lo) s m args below meth c H locs cells slots Q (F0 m pc ls [])) → lv_has ls maxL (lv_args 0 av) → W p l e (bs_rm fr mc ms lo) s m args below meth c s.heap [] 0 0 Q (F0 m 0 ls [])) : MS l y bytes maxL none fr lo mc ms av γ A PS (mQv PO A) := by
  refine Met.ofW (cc := bytes) (maxL := maxL) (ret := none) hy rfl ?_
  intro p e s m args below meth c s₁ B hml hv
  obtain ⟨rfl, hC, hA, hP⟩ := hv
  have hts := bs_hts (atoms_spec (ws := Cond.code y bytes maxL none :: bs_W0) B.pre)
  have hl := lv_entry av (n := maxL) hn
  rw [lg_entry_eq]
  refine body p e s m _ below meth c _ _ ⟨B.exec, B.bytes, hml, findClass_of_methodNamed B.named, hts⟩ (name_of_methodNamed B.named B.method).1 hC hA hP (fun H locs cells slots pc ls hS h1 h2 hp hdg => ?_) hl
  refine W.know (fun k1 k2 k3 => ?_)
  have hpo := hp ⟨hS.1, k1, k2, k3⟩
  refine W.up h1 h2 ?_
  exact W.vret B.exec B.bytes B.returns (fun t ht _ => ⟨⟨(), rfl, trivial, by show PO t.heap; rw [ht]; exact hpo⟩, hS.F ht⟩) hS.2.2 hdg B.notSynchronized
theorem ms_I {PO : Heap → Prop} (S : bs_F p s m args c cc nL own) (hC : CX γ s) (hA : ∀ q, H.size ≤ q → A q) (hAA : ∀ q, A q → A0 q) (hS : va_S A0 H0 H locs) (hM : MS l y bytes maxL none fr lo mc ms (.ref b :: As) γ A PS (mQv PO A)) (hbl : ∀ u U : State, u.vm = U.vm → u.heap = U.heap → PS u → PS U) (me : bs_Mc y bytes maxL n) (lk : Cond.methodLink own index y ∈ bs_W0) (hR : fr + 1 ≤ R.frames ∧ 8 + (maxL + 11) + lo ≤ R.locals) (hPS : ∀ U : State, U.heap = H → s.WarmedH U.vm → PS U) (hn : As.length = n) (hsz : ls.size = nL) (hst : st0 = As.reverse ++ .ref b :: rest) (hrm : (rest.map fun v => v.category).sum ≤ 8) (hdg : decode cc pc = .ok (.invokespecial index, 3)) (hf : cells + mc ≤ R.cells ∧ slots + ms ≤ R.slots)
    (kk : ∀ (H1 : Heap) (locs1 : List Loc), PO H1 → va_S A0 H0 H1 locs1 → H.size ≤ H1.size → (∀ q : Nat, q < H.size → ¬ A q → H1[q]? = H[q]?) → W p l e R s m args below meth c H1 locs1 (cells + mc) (slots + ms) Q (F0 m (pc + 3) ls rest)) : W p l e R s m args below meth c H locs cells slots Q (F0 m pc ls st0) := by
  obtain ⟨m1, m3, m4, m5, m6⟩ := me
  have hW := S.2.2.2.2
  exact va_callv (va_runI (As := As) (rest := rest) S hM ⟨callB_of n hW (bs_all m4) rfl rfl rfl (hW _ m3) (hW _ lk) m5 hR, m6, hW _ m1⟩ ⟨tx_blind hbl, fun U hU hW => ⟨rfl, hC.warm hW, by rw [hU]; exact hA, hPS U hU hW⟩⟩ rfl hn hsz hst (lv_room hrm) hdg hf) hS (fun q _ h => hAA q h) hAA (fun u t H1 locs1 ht _ hw hB hz hk hS1 => kk H1 locs1 (by rw [← ht]; exact hB) hS1 hz hk)
theorem ms_IN {PO : Heap → Prop} {host : String} (S : bs_F p s m args c cc nL own) (hC : CX γ s) (hA : ∀ q, H.size ≤ q → A q) (hAA : ∀ q, A q → A0 q) (hS : va_S A0 H0 H locs) (hM : MS l y bytes maxL none fr lo mc ms (.ref b :: As) γ A PS (mQv PO A)) (hbl : ∀ u U : State, u.vm = U.vm → u.heap = U.heap → PS u → PS U) (me : bs_Mc y bytes maxL n) (lk : va_Nw (.methodLinkNest own index y host) s) (hR : fr + 1 ≤ R.frames ∧ 8 + (maxL + 11) + lo ≤ R.locals) (hPS : ∀ U : State, U.heap = H → s.WarmedH U.vm → PS U) (hn : As.length = n) (hsz : ls.size = nL) (hst : st0 = As.reverse ++ .ref b :: rest) (hrm : (rest.map fun v => v.category).sum ≤ 8) (hdg : decode cc pc = .ok (.invokespecial index, 3)) (hf : cells + mc ≤ R.cells ∧ slots + ms ≤ R.slots)
    (kk : ∀ (H1 : Heap) (locs1 : List Loc), PO H1 → va_S A0 H0 H1 locs1 → H.size ≤ H1.size → (∀ q : Nat, q < H.size → ¬ A q → H1[q]? = H[q]?) → W p l e R s m args below meth c H1 locs1 (cells + mc) (slots + ms) Q (F0 m (pc + 3) ls rest)) : W p l e R s m args below meth c H locs cells slots Q (F0 m pc ls st0) := by
  obtain ⟨m1, m3, m4, m5, m6⟩ := me
  have hW := S.2.2.2.2
  exact va_callv (va_runIN (As := As) (rest := rest) S hM ⟨va_cnB n hW (bs_all m4) rfl rfl rfl lk (hW _ m3) m5 hR, m6, hW _ m1⟩ ⟨tx_blind hbl, fun U hU hW => ⟨rfl, hC.warm hW, by rw [hU]; exact hA, hPS U hU hW⟩⟩ rfl hn hsz hst (lv_room hrm) hdg hf) hS (fun q _ h => hAA q h) hAA (fun u t H1 locs1 ht _ hw hB hz hk hS1 => kk H1 locs1 (by rw [← ht]; exact hB) hS1 hz hk)
end CTS
def ct_P (s0 : State) (a : Nat) (H0 : Heap) (γ : gE) (ws : va_W) (U : State) : Prop := (FB s0 U U.heap ∧ s0.heap.size ≤ a) ∧ U.heap = H0 ∧ H0.size = a + 1 ∧ va_P γ.1 vwCl ws H0
theorem ct_blind {s0 : State} {a : Nat} {H0 : Heap} {γ : gE} {ws : va_W} : ∀ u U : State, u.vm = U.vm → u.heap = U.heap → ct_P s0 a H0 γ ws u → ct_P s0 a H0 γ ws U := fun u U hv hh h => ⟨⟨by rw [← hh]; exact h.1.1.same hv, h.1.2⟩, by rw [← hh]; exact h.2.1, h.2.2⟩
theorem meTypeBook_init : bs_Mc yTypeBook_init bTypeBook_init 1 0 := ⟨bs_in (in_tables_1_1 (List.mem_of_getElem? (i := 27) rfl)) rfl, bs_in (in_tables_1_1 (List.mem_of_getElem? (i := 1) rfl)) rfl, bs_in (in_tables_1_1 (List.mem_of_getElem? (i := 28) rfl)) rfl, ⟨by decide, by decide, by decide +kernel⟩, rfl⟩
theorem meLooker_init : bs_Mc yLooker_init bLooker_init 5 4 := ⟨bs_in (in_tables_1_1 (List.mem_of_getElem? (i := 229) rfl)) rfl, bs_in (in_tables_1_1 (List.mem_of_getElem? (i := 11) rfl)) rfl, bs_in (in_tables_1_1 (List.mem_of_getElem? (i := 230) rfl)) rfl, ⟨by decide, by decide, by decide +kernel⟩, rfl⟩
theorem meLooks_init : bs_Mc yLooks_init bLooks_init 1 0 := ⟨bs_in (in_tables_1_1 (List.mem_of_getElem? (i := 197) rfl)) rfl, bs_in (in_tables_1_1 (List.mem_of_getElem? (i := 10) rfl)) rfl, bs_in (in_tables_1_1 (List.mem_of_getElem? (i := 198) rfl)) rfl, ⟨by decide, by decide, by decide +kernel⟩, rfl⟩
theorem meMeanings_init : bs_Mc yMeanings_init bMeanings_init 6 5 := ⟨bs_in (in_tables_1_2 (List.mem_of_getElem? (i := 7) rfl)) rfl, bs_in (in_tables_1_1 (List.mem_of_getElem? (i := 13) rfl)) rfl, bs_in (in_tables_1_2 (List.mem_of_getElem? (i := 8) rfl)) rfl, ⟨by decide, by decide, by decide +kernel⟩, rfl⟩
theorem meNames_init : bs_Mc yNames_init bNames_init 2 0 := ⟨bs_in (in_tables_1_1 (List.mem_of_getElem? (i := 63) rfl)) rfl, bs_in (in_tables_1_1 (List.mem_of_getElem? (i := 3) rfl)) rfl, bs_in (in_tables_1_1 (List.mem_of_getElem? (i := 64) rfl)) rfl, ⟨by decide, by decide, by decide +kernel⟩, rfl⟩
theorem meObjects_init : bs_Mc yObjects_init bObjects_init 1 0 := ⟨bs_in (in_tables_1_1 (List.mem_of_getElem? (i := 161) rfl)) rfl, bs_in (in_tables_1_1 (List.mem_of_getElem? (i := 8) rfl)) rfl, bs_in (in_tables_1_1 (List.mem_of_getElem? (i := 162) rfl)) rfl, ⟨by decide, by decide, by decide +kernel⟩, rfl⟩
theorem meOperators_init : bs_Mc yOperators_init bOperators_init 2 1 := ⟨bs_in (in_tables_1_1 (List.mem_of_getElem? (i := 237) rfl)) rfl, bs_in (in_tables_1_1 (List.mem_of_getElem? (i := 12) rfl)) rfl, bs_in (in_tables_1_1 (List.mem_of_getElem? (i := 238) rfl)) rfl, ⟨by decide, by decide, by decide +kernel⟩, rfl⟩
theorem meRows_init : bs_Mc yRows_init bRows_init 2 1 := ⟨bs_in (in_tables_1_1 (List.mem_of_getElem? (i := 167) rfl)) rfl, bs_in (in_tables_1_1 (List.mem_of_getElem? (i := 9) rfl)) rfl, bs_in (in_tables_1_1 (List.mem_of_getElem? (i := 168) rfl)) rfl, ⟨by decide, by decide, by decide +kernel⟩, rfl⟩
theorem meTrees_init : bs_Mc yTrees_init bTrees_init 1 0 := ⟨bs_in (in_tables_1_1 (List.mem_of_getElem? (i := 35) rfl)) rfl, bs_in (in_tables_1_1 (List.mem_of_getElem? (i := 2) rfl)) rfl, bs_in (in_tables_1_1 (List.mem_of_getElem? (i := 36) rfl)) rfl, ⟨by decide, by decide, by decide +kernel⟩, rfl⟩
theorem meTypes_init : bs_Mc yTypes_init bTypes_init 1 0 := ⟨bs_in (in_tables_1_1 (List.mem_of_getElem? (i := 131) rfl)) rfl, bs_in (in_tables_1_1 (List.mem_of_getElem? (i := 7) rfl)) rfl, bs_in (in_tables_1_1 (List.mem_of_getElem? (i := 132) rfl)) rfl, ⟨by decide, by decide, by decide +kernel⟩, rfl⟩
theorem qw_3df6fda851 : (Cond.methodLink R_Trees 3 Lib.objectInit) ∈ bs_W0 := bs_in (in_tables_1_1 (List.mem_of_getElem? (i := 37) rfl)) rfl
theorem qw_aaa073e22d : (Cond.instanceMethod Lib.objectInit) ∈ bs_W0 := bs_in (in_tables_1_1 (List.mem_of_getElem? (i := 30) rfl)) rfl
set_option maxHeartbeats 4000000 in
set_option maxRecDepth 100000 in
theorem i_Trees (l : Launch) (γ : gE) (s0 : State) (hw0 : SW s0) (a : Nat) (H0 : Heap)   : MS l yTrees_init bTrees_init 1 none 1 12 4 256 [.ref a] γ (fun q => a ≤ q) (ct_P s0 a H0 γ [(a, .inr (1, [.null, .null, .null, .null, .int 0, .int 0]))]) (mQv (fun H => cmp γ (fTrees γ a 0 0 64) (iv a (a + 5)) H ∧ H.size = a + 5) (fun q => a ≤ q)) := by
  refine ms_openV (by decide) (Nat.le_of_ble_eq_true rfl) ?_
  intro p e s m args below meth c ls Q S hnm hC hA hPS hE hl
  obtain ⟨⟨hF0, hA1⟩, hH0, hz, hP⟩ := hPS
  subst hH0
  have hA0 : ∀ q, a ≤ q → s0.heap.size ≤ q := fun q h => Nat.le_trans hA1 h
  have hA : ∀ q, s.heap.size ≤ q → a ≤ q := hA
  obtain ⟨hx, hb, hml, hown, hW⟩ := id S
  have hS : va_S (fun q => a ≤ q) s.heap s.heap [] := va_S.rf
  have hD : va_D (fun q => a ≤ q) [(a, .inr (1, [.null, .null, .null, .null, .int 0, .int 0]))] := one_D (Nat.le_refl a)
  have hl : lv_has ls 1 [(0, .ref a)] := hl
  refine lv_aload_n hx hb dTrees_init_0 rfl (lv_at hl 0 rfl) ?_
  refine W.objInit hx hb hown (hW _ qw_3df6fda851) (hW _ qw_aaa073e22d) (hW _ qc_obj) rfl (hl.1.trans hml.symm) rfl dTrees_init_1 (Nat.le_of_ble_eq_true rfl) (Nat.le_of_ble_eq_true rfl) ?_
  refine lv_aload_n hx hb dTrees_init_4 rfl (lv_at hl 0 rfl) ?_
  refine lv_bipush (v := 64) hx hb dTrees_init_5 (by decide) ?_
  refine cw_newa S hC qw_8e969fb20a hP hD hS hA hz 64 rfl (by omega) (Nat.le_of_ble_eq_true rfl) (Nat.le_of_ble_eq_true rfl) dTrees_init_7 (fun H hP hD hS hz hk9 => ?_)
  have hz : H.size = a + 2 := hz
  have hP : va_P γ.1 vwCl [(a, .inr (1, [.null, .null, .null, .null, .int 0, .int 0])), (a + 1, .inl (γ.2.1, 64, .inl (fun _ => 0)))] _ := hP
  have hD : va_D _ [(a, .inr (1, [.null, .null, .null, .null, .int 0, .int 0])), (a + 1, .inl (γ.2.1, 64, .inl (fun _ => 0)))] := hD
  refine st_put (D := γ.1) (ci := 1) (v := .ref (a + 1)) (ty := .array .int) (C := R_Trees) (T := T_Trees) (N := 6) (Ts := bs_W0) hx hb hW in_Trees t_Trees t_Trees_ok n_Trees hown hC.1 hP hD (fun q h => h) hS 0 rfl rfl 0 (by decide) (hW _ qw_ffd9ddfb57) (fun _ h9 => h9) rfl (by decide +kernel) rfl rfl (Nat.le_of_ble_eq_true rfl) dTrees_init_9 (fun H locs hP hD hS hz9 ho9 => ?_)
  have hz : H.size = a + 2 := hz9.trans hz
  have hP : va_P γ.1 vwCl [(a, .inr (1, [.ref (a + 1), .null, .null, .null, .int 0, .int 0])), (a + 1, .inl (γ.2.1, 64, .inl (fun _ => 0)))] _ := hP
  have hD : va_D _ [(a, .inr (1, [.ref (a + 1), .null, .null, .null, .int 0, .int 0])), (a + 1, .inl (γ.2.1, 64, .inl (fun _ => 0)))] := hD
  refine lv_aload_n hx hb dTrees_init_12 rfl (lv_at hl 0 rfl) ?_
  refine lv_bipush (v := 64) hx hb dTrees_init_13 (by decide) ?_
  refine cw_newa S hC qw_8e969fb20a hP hD hS hA hz 64 rfl (by omega) (Nat.le_of_ble_eq_true rfl) (Nat.le_of_ble_eq_true rfl) dTrees_init_15 (fun H hP hD hS hz hk9 => ?_)
  have hz : H.size = a + 3 := hz
  have hP : va_P γ.1 vwCl [(a, .inr (1, [.ref (a + 1), .null, .null, .null, .int 0, .int 0])), (a + 1, .inl (γ.2.1, 64, .inl (fun _ => 0))), (a + 2, .inl (γ.2.1, 64, .inl (fun _ => 0)))] _ := hP
  have hD : va_D _ [(a, .inr (1, [.ref (a + 1), .null, .null, .null, .int 0, .int 0])), (a + 1, .inl (γ.2.1, 64, .inl (fun _ => 0))), (a + 2, .inl (γ.2.1, 64, .inl (fun _ => 0)))] := hD
  refine st_put (D := γ.1) (ci := 1) (v := .ref (a + 2)) (ty := .array .int) (C := R_Trees) (T := T_Trees) (N := 6) (Ts := bs_W0) hx hb hW in_Trees t_Trees t_Trees_ok n_Trees hown hC.1 hP hD (fun q h => h) hS 0 rfl rfl 1 (by decide) (hW _ qw_fdd50f5077) (fun _ h9 => h9) rfl (by decide +kernel) rfl rfl (Nat.le_of_ble_eq_true rfl) dTrees_init_17 (fun H locs hP hD hS hz9 ho9 => ?_)
  have hz : H.size = a + 3 := hz9.trans hz
  have hP : va_P γ.1 vwCl [(a, .inr (1, [.ref (a + 1), .ref (a + 2), .null, .null, .int 0, .int 0])), (a + 1, .inl (γ.2.1, 64, .inl (fun _ => 0))), (a + 2, .inl (γ.2.1, 64, .inl (fun _ => 0)))] _ := hP
  have hD : va_D _ [(a, .inr (1, [.ref (a + 1), .ref (a + 2), .null, .null, .int 0, .int 0])), (a + 1, .inl (γ.2.1, 64, .inl (fun _ => 0))), (a + 2, .inl (γ.2.1, 64, .inl (fun _ => 0)))] := hD
  refine lv_aload_n hx hb dTrees_init_20 rfl (lv_at hl 0 rfl) ?_
  refine lv_bipush (v := 64) hx hb dTrees_init_21 (by decide) ?_
  refine cw_newa S hC qw_8e969fb20a hP hD hS hA hz 64 rfl (by omega) (Nat.le_of_ble_eq_true rfl) (Nat.le_of_ble_eq_true rfl) dTrees_init_23 (fun H hP hD hS hz hk9 => ?_)
  have hz : H.size = a + 4 := hz
  have hP : va_P γ.1 vwCl [(a, .inr (1, [.ref (a + 1), .ref (a + 2), .null, .null, .int 0, .int 0])), (a + 1, .inl (γ.2.1, 64, .inl (fun _ => 0))), (a + 2, .inl (γ.2.1, 64, .inl (fun _ => 0))), (a + 3, .inl (γ.2.1, 64, .inl (fun _ => 0)))] _ := hP
  have hD : va_D _ [(a, .inr (1, [.ref (a + 1), .ref (a + 2), .null, .null, .int 0, .int 0])), (a + 1, .inl (γ.2.1, 64, .inl (fun _ => 0))), (a + 2, .inl (γ.2.1, 64, .inl (fun _ => 0))), (a + 3, .inl (γ.2.1, 64, .inl (fun _ => 0)))] := hD
  refine st_put (D := γ.1) (ci := 1) (v := .ref (a + 3)) (ty := .array .int) (C := R_Trees) (T := T_Trees) (N := 6) (Ts := bs_W0) hx hb hW in_Trees t_Trees t_Trees_ok n_Trees hown hC.1 hP hD (fun q h => h) hS 0 rfl rfl 2 (by decide) (hW _ qw_887ccc8355) (fun _ h9 => h9) rfl (by decide +kernel) rfl rfl (Nat.le_of_ble_eq_true rfl) dTrees_init_25 (fun H locs hP hD hS hz9 ho9 => ?_)
  have hz : H.size = a + 4 := hz9.trans hz
  have hP : va_P γ.1 vwCl [(a, .inr (1, [.ref (a + 1), .ref (a + 2), .ref (a + 3), .null, .int 0, .int 0])), (a + 1, .inl (γ.2.1, 64, .inl (fun _ => 0))), (a + 2, .inl (γ.2.1, 64, .inl (fun _ => 0))), (a + 3, .inl (γ.2.1, 64, .inl (fun _ => 0)))] _ := hP
  have hD : va_D _ [(a, .inr (1, [.ref (a + 1), .ref (a + 2), .ref (a + 3), .null, .int 0, .int 0])), (a + 1, .inl (γ.2.1, 64, .inl (fun _ => 0))), (a + 2, .inl (γ.2.1, 64, .inl (fun _ => 0))), (a + 3, .inl (γ.2.1, 64, .inl (fun _ => 0)))] := hD
  refine lv_aload_n hx hb dTrees_init_28 rfl (lv_at hl 0 rfl) ?_
  refine lv_bipush (v := 64) hx hb dTrees_init_29 (by decide) ?_
  refine cw_newa S hC qw_8e969fb20a hP hD hS hA hz 64 rfl (by omega) (Nat.le_of_ble_eq_true rfl) (Nat.le_of_ble_eq_true rfl) dTrees_init_31 (fun H hP hD hS hz hk9 => ?_)
  have hz : H.size = a + 5 := hz
  have hP : va_P γ.1 vwCl [(a, .inr (1, [.ref (a + 1), .ref (a + 2), .ref (a + 3), .null, .int 0, .int 0])), (a + 1, .inl (γ.2.1, 64, .inl (fun _ => 0))), (a + 2, .inl (γ.2.1, 64, .inl (fun _ => 0))), (a + 3, .inl (γ.2.1, 64, .inl (fun _ => 0))), (a + 4, .inl (γ.2.1, 64, .inl (fun _ => 0)))] _ := hP
  have hD : va_D _ [(a, .inr (1, [.ref (a + 1), .ref (a + 2), .ref (a + 3), .null, .int 0, .int 0])), (a + 1, .inl (γ.2.1, 64, .inl (fun _ => 0))), (a + 2, .inl (γ.2.1, 64, .inl (fun _ => 0))), (a + 3, .inl (γ.2.1, 64, .inl (fun _ => 0))), (a + 4, .inl (γ.2.1, 64, .inl (fun _ => 0)))] := hD
  refine st_put (D := γ.1) (ci := 1) (v := .ref (a + 4)) (ty := .array .int) (C := R_Trees) (T := T_Trees) (N := 6) (Ts := bs_W0) hx hb hW in_Trees t_Trees t_Trees_ok n_Trees hown hC.1 hP hD (fun q h => h) hS 0 rfl rfl 3 (by decide) (hW _ qw_3682c3415f) (fun _ h9 => h9) rfl (by decide +kernel) rfl rfl (Nat.le_of_ble_eq_true rfl) dTrees_init_33 (fun H locs hP hD hS hz9 ho9 => ?_)
  have hz : H.size = a + 5 := hz9.trans hz
  have hP : va_P γ.1 vwCl [(a, .inr (1, [.ref (a + 1), .ref (a + 2), .ref (a + 3), .ref (a + 4), .int 0, .int 0])), (a + 1, .inl (γ.2.1, 64, .inl (fun _ => 0))), (a + 2, .inl (γ.2.1, 64, .inl (fun _ => 0))), (a + 3, .inl (γ.2.1, 64, .inl (fun _ => 0))), (a + 4, .inl (γ.2.1, 64, .inl (fun _ => 0)))] _ := hP
  have hD : va_D _ [(a, .inr (1, [.ref (a + 1), .ref (a + 2), .ref (a + 3), .ref (a + 4), .int 0, .int 0])), (a + 1, .inl (γ.2.1, 64, .inl (fun _ => 0))), (a + 2, .inl (γ.2.1, 64, .inl (fun _ => 0))), (a + 3, .inl (γ.2.1, 64, .inl (fun _ => 0))), (a + 4, .inl (γ.2.1, 64, .inl (fun _ => 0)))] := hD
  refine lv_aload_n hx hb dTrees_init_36 rfl (lv_at hl 0 rfl) ?_
  refine lv_iconst (v := 0) hx hb dTrees_init_37 (by decide) ?_
  refine st_put (D := γ.1) (ci := 1) (v := .int 0) (ty := .int) (C := R_Trees) (T := T_Trees) (N := 6) (Ts := bs_W0) hx hb hW in_Trees t_Trees t_Trees_ok n_Trees hown hC.1 hP hD (fun q h => h) hS 0 rfl rfl 4 (by decide) (hW _ qw_adbe8dbe65) (fun _ h9 => h9) rfl (by decide +kernel) rfl rfl (Nat.le_of_ble_eq_true rfl) dTrees_init_38 (fun H locs hP hD hS hz9 ho9 => ?_)
  have hz : H.size = a + 5 := hz9.trans hz
  have hP : va_P γ.1 vwCl [(a, .inr (1, [.ref (a + 1), .ref (a + 2), .ref (a + 3), .ref (a + 4), .int 0, .int 0])), (a + 1, .inl (γ.2.1, 64, .inl (fun _ => 0))), (a + 2, .inl (γ.2.1, 64, .inl (fun _ => 0))), (a + 3, .inl (γ.2.1, 64, .inl (fun _ => 0))), (a + 4, .inl (γ.2.1, 64, .inl (fun _ => 0)))] _ := hP
  have hD : va_D _ [(a, .inr (1, [.ref (a + 1), .ref (a + 2), .ref (a + 3), .ref (a + 4), .int 0, .int 0])), (a + 1, .inl (γ.2.1, 64, .inl (fun _ => 0))), (a + 2, .inl (γ.2.1, 64, .inl (fun _ => 0))), (a + 3, .inl (γ.2.1, 64, .inl (fun _ => 0))), (a + 4, .inl (γ.2.1, 64, .inl (fun _ => 0)))] := hD
  refine lv_aload_n hx hb dTrees_init_41 rfl (lv_at hl 0 rfl) ?_
  refine lv_iconst (v := 0) hx hb dTrees_init_42 (by decide) ?_
  refine st_put (D := γ.1) (ci := 1) (v := .int 0) (ty := .int) (C := R_Trees) (T := T_Trees) (N := 6) (Ts := bs_W0) hx hb hW in_Trees t_Trees t_Trees_ok n_Trees hown hC.1 hP hD (fun q h => h) hS 0 rfl rfl 5 (by decide) (hW _ qw_986a639143) (fun _ h9 => h9) rfl (by decide +kernel) rfl rfl (Nat.le_of_ble_eq_true rfl) dTrees_init_43 (fun H locs hP hD hS hz9 ho9 => ?_)
  have hz : H.size = a + 5 := hz9.trans hz
  have hP : va_P γ.1 vwCl [(a, .inr (1, [.ref (a + 1), .ref (a + 2), .ref (a + 3), .ref (a + 4), .int 0, .int 0])), (a + 1, .inl (γ.2.1, 64, .inl (fun _ => 0))), (a + 2, .inl (γ.2.1, 64, .inl (fun _ => 0))), (a + 3, .inl (γ.2.1, 64, .inl (fun _ => 0))), (a + 4, .inl (γ.2.1, 64, .inl (fun _ => 0)))] _ := hP
  have hD : va_D _ [(a, .inr (1, [.ref (a + 1), .ref (a + 2), .ref (a + 3), .ref (a + 4), .int 0, .int 0])), (a + 1, .inl (γ.2.1, 64, .inl (fun _ => 0))), (a + 2, .inl (γ.2.1, 64, .inl (fun _ => 0))), (a + 3, .inl (γ.2.1, 64, .inl (fun _ => 0))), (a + 4, .inl (γ.2.1, 64, .inl (fun _ => 0)))] := hD
  refine hE _ _ _ _ _ _ hS (Nat.le_of_ble_eq_true rfl) (Nat.le_of_ble_eq_true rfl) (fun hG => ?_) dTrees_init_46
  exact ⟨iv_of ⟨_, ⟨(a + 1), (a + 2), (a + 3), (a + 4), (fun _ => 0), (fun _ => 0), (fun _ => 0), (fun _ => 0), rfl, (Nat.le_of_ble_eq_true rfl), (Nat.le_of_ble_eq_true rfl), (Nat.le_of_ble_eq_true rfl), (Nat.le_of_ble_eq_true rfl), fun k hk => absurd hk (Nat.not_lt_zero k), fun k hk => absurd hk (Nat.not_lt_zero k)⟩, hP, hD⟩ hz, hz⟩
theorem qw_d6d88c6903 : (Cond.methodLink R_Rows 3 Lib.objectInit) ∈ bs_W0 := bs_in (in_tables_1_1 (List.mem_of_getElem? (i := 169) rfl)) rfl
set_option maxHeartbeats 4000000 in
set_option maxRecDepth 100000 in
theorem i_Rows (l : Launch) (γ : gE) (s0 : State) (hw0 : SW s0) (a : Nat) (H0 : Heap) (N : Nat) (hN : 16 ≤ N ∧ N ≤ 8192) : MS l yRows_init bRows_init 2 none 1 14 1 (4 * N) [.ref a, .int (nI N)] γ (fun q => a ≤ q) (ct_P s0 a H0 γ [(a, .inr (5, [.null]))]) (mQv (fun H => cmp γ (fRows γ a N) (iv a (a + 2)) H ∧ H.size = a + 2) (fun q => a ≤ q)) := by
  refine ms_openV (by decide) (Nat.le_of_ble_eq_true rfl) ?_
  intro p e s m args below meth c ls Q S hnm hC hA hPS hE hl
  obtain ⟨⟨hF0, hA1⟩, hH0, hz, hP⟩ := hPS
  subst hH0
  have hA0 : ∀ q, a ≤ q → s0.heap.size ≤ q := fun q h => Nat.le_trans hA1 h
  have hA : ∀ q, s.heap.size ≤ q → a ≤ q := hA
  obtain ⟨hx, hb, hml, hown, hW⟩ := id S
  have hS : va_S (fun q => a ≤ q) s.heap s.heap [] := va_S.rf
  have hD : va_D (fun q => a ≤ q) [(a, .inr (5, [.null]))] := one_D (Nat.le_refl a)
  have hl : lv_has ls 2 [(0, .ref a), (1, .int (nI N))] := hl
  refine lv_aload_n hx hb dRows_init_0 rfl (lv_at hl 0 rfl) ?_
  refine W.objInit hx hb hown (hW _ qw_d6d88c6903) (hW _ qw_aaa073e22d) (hW _ qc_obj) rfl (hl.1.trans hml.symm) rfl dRows_init_1 (Nat.le_of_ble_eq_true rfl) (Nat.le_of_ble_eq_true rfl) ?_
  refine lv_aload_n hx hb dRows_init_4 rfl (lv_at hl 0 rfl) ?_
  refine lv_iload_n hx hb dRows_init_5 rfl (lv_at hl 1 rfl) ?_
  refine lv_iconst (v := 1) hx hb dRows_init_6 (by decide) ?_
  refine va_mmax (rest := [.ref a]) hx hb (hml.trans hl.1.symm) hown (hW _ qw_d78519f1e2) (hW _ qw_7cc87a9f9b) (hW _ qw_0001fcaade) (hW _ qw_6b973c1ba4) (Nat.le_of_ble_eq_true rfl) (Nat.le_of_ble_eq_true rfl) (Nat.zero_le _) (Nat.zero_le _) dRows_init_7 ?_
  refine lv_topi (fun v3 ev3 => ?_)
  refine lv_iconst (v := 4) hx hb dRows_init_10 (by decide) ?_
  refine lv_imul hx hb dRows_init_11 ?_
  refine lv_topi (fun v4 ev4 => ?_)
  refine cw_newl S hC qw_6933bd775d hP hD hS hA hz (4 * N) (by rw [ev4, ev3]; exact rows_len hN.1 hN.2) (by omega) (Nat.le_of_ble_eq_true rfl) (by show 0 + (4 * N) ≤ 4 * N; omega) dRows_init_12 (fun H hP hD hS hz hk9 => ?_)
  have hz : H.size = a + 2 := hz
  have hP : va_P γ.1 vwCl [(a, .inr (5, [.null])), (a + 1, .inl (γ.2.2.1, (4 * N), .inr (.inl (fun _ => 0))))] _ := hP
  have hD : va_D _ [(a, .inr (5, [.null])), (a + 1, .inl (γ.2.2.1, (4 * N), .inr (.inl (fun _ => 0))))] := hD
  refine st_put (D := γ.1) (ci := 5) (v := .ref (a + 1)) (ty := .array .long) (C := R_Rows) (T := T_Rows) (N := 1) (Ts := bs_W0) hx hb hW in_Rows t_Rows t_Rows_ok n_Rows hown hC.1 hP hD (fun q h => h) hS 0 rfl rfl 0 (by decide) (hW _ qw_05e9c8a29d) (fun _ h9 => h9) rfl (by decide +kernel) rfl rfl (Nat.le_of_ble_eq_true rfl) dRows_init_14 (fun H locs hP hD hS hz9 ho9 => ?_)
  have hz : H.size = a + 2 := hz9.trans hz
  have hP : va_P γ.1 vwCl [(a, .inr (5, [.ref (a + 1)])), (a + 1, .inl (γ.2.2.1, (4 * N), .inr (.inl (fun _ => 0))))] _ := hP
  have hD : va_D _ [(a, .inr (5, [.ref (a + 1)])), (a + 1, .inl (γ.2.2.1, (4 * N), .inr (.inl (fun _ => 0))))] := hD
  refine hE _ _ _ _ _ _ hS (by show 0 + 1 ≤ 1; omega) (by show 0 + (4 * N) ≤ 4 * N; omega) (fun hG => ?_) dRows_init_17
  exact ⟨iv_of ⟨_, ⟨a + 1, fun _ => 0, rfl, by omega, by omega⟩, hP, hD⟩ hz, hz⟩
theorem qw_68fe5073a1 : (Cond.methodLink R_Objects 3 Lib.objectInit) ∈ bs_W0 := bs_in (in_tables_1_1 (List.mem_of_getElem? (i := 163) rfl)) rfl
theorem qw_7ba584ae21 : (Cond.classLink R_Objects 21 R_Rows) ∈ bs_W0 := bs_in (in_tables_1_1 (List.mem_of_getElem? (i := 164) rfl)) rfl
theorem qw_65d8f04d58 : (Cond.instantiable R_Rows 1) ∈ bs_W0 := bs_in (in_tables_1_1 (List.mem_of_getElem? (i := 165) rfl)) rfl
theorem qw_c14c91c04c : (Cond.initialized R_Rows) ∈ bs_W0 := bs_in (in_tables_1_1 (List.mem_of_getElem? (i := 9) rfl)) rfl
theorem qw_bfe3cbf49d : (Cond.methodLink R_Objects 23 yRows_init) ∈ bs_W0 := bs_in (in_tables_1_1 (List.mem_of_getElem? (i := 166) rfl)) rfl
set_option maxHeartbeats 4000000 in
set_option maxRecDepth 100000 in
theorem i_Objects (l : Launch) (γ : gE) (s0 : State) (hw0 : SW s0) (a : Nat) (H0 : Heap)   : MS l yObjects_init bObjects_init 1 none 2 35 5 113 [.ref a] γ (fun q => a ≤ q) (ct_P s0 a H0 γ [(a, .inr (4, [.null, .null, .null, .null, .int 0]))]) (mQv (fun H => (cmp γ (fObjects γ a (a + 4) 0 16) (iv a (a + 4)) H ∧ cmp γ (fRows γ (a + 4) 16) (iv (a + 4) (a + 6)) H) ∧ H.size = a + 6) (fun q => a ≤ q)) := by
  refine ms_openV (by decide) (Nat.le_of_ble_eq_true rfl) ?_
  intro p e s m args below meth c ls Q S hnm hC hA hPS hE hl
  obtain ⟨⟨hF0, hA1⟩, hH0, hz, hP⟩ := hPS
  subst hH0
  have hA0 : ∀ q, a ≤ q → s0.heap.size ≤ q := fun q h => Nat.le_trans hA1 h
  have hA : ∀ q, s.heap.size ≤ q → a ≤ q := hA
  obtain ⟨hx, hb, hml, hown, hW⟩ := id S
  have hS : va_S (fun q => a ≤ q) s.heap s.heap [] := va_S.rf
  have hD : va_D (fun q => a ≤ q) [(a, .inr (4, [.null, .null, .null, .null, .int 0]))] := one_D (Nat.le_refl a)
  have hl : lv_has ls 1 [(0, .ref a)] := hl
  refine lv_aload_n hx hb dObjects_init_0 rfl (lv_at hl 0 rfl) ?_
  refine W.objInit hx hb hown (hW _ qw_68fe5073a1) (hW _ qw_aaa073e22d) (hW _ qc_obj) rfl (hl.1.trans hml.symm) rfl dObjects_init_1 (Nat.le_of_ble_eq_true rfl) (Nat.le_of_ble_eq_true rfl) ?_
  refine lv_aload_n hx hb dObjects_init_4 rfl (lv_at hl 0 rfl) ?_
  refine lv_bipush (v := 16) hx hb dObjects_init_5 (by decide) ?_
  refine cw_newa S hC qw_8e969fb20a hP hD hS hA hz 16 rfl (by omega) (Nat.le_of_ble_eq_true rfl) (Nat.le_of_ble_eq_true rfl) dObjects_init_7 (fun H hP hD hS hz hk9 => ?_)
  have hz : H.size = a + 2 := hz
  have hP : va_P γ.1 vwCl [(a, .inr (4, [.null, .null, .null, .null, .int 0])), (a + 1, .inl (γ.2.1, 16, .inl (fun _ => 0)))] _ := hP
  have hD : va_D _ [(a, .inr (4, [.null, .null, .null, .null, .int 0])), (a + 1, .inl (γ.2.1, 16, .inl (fun _ => 0)))] := hD
  refine st_put (D := γ.1) (ci := 4) (v := .ref (a + 1)) (ty := .array .int) (C := R_Objects) (T := T_Objects) (N := 5) (Ts := bs_W0) hx hb hW in_Objects t_Objects t_Objects_ok n_Objects hown hC.1 hP hD (fun q h => h) hS 0 rfl rfl 0 (by decide) (hW _ qw_bb1fa418e1) (fun _ h9 => h9) rfl (by decide +kernel) rfl rfl (Nat.le_of_ble_eq_true rfl) dObjects_init_9 (fun H locs hP hD hS hz9 ho9 => ?_)
  have hz : H.size = a + 2 := hz9.trans hz
  have hP : va_P γ.1 vwCl [(a, .inr (4, [.ref (a + 1), .null, .null, .null, .int 0])), (a + 1, .inl (γ.2.1, 16, .inl (fun _ => 0)))] _ := hP
  have hD : va_D _ [(a, .inr (4, [.ref (a + 1), .null, .null, .null, .int 0])), (a + 1, .inl (γ.2.1, 16, .inl (fun _ => 0)))] := hD
  refine lv_aload_n hx hb dObjects_init_12 rfl (lv_at hl 0 rfl) ?_
  refine lv_bipush (v := 16) hx hb dObjects_init_13 (by decide) ?_
  refine cw_newa S hC qw_8e969fb20a hP hD hS hA hz 16 rfl (by omega) (Nat.le_of_ble_eq_true rfl) (Nat.le_of_ble_eq_true rfl) dObjects_init_15 (fun H hP hD hS hz hk9 => ?_)
  have hz : H.size = a + 3 := hz
  have hP : va_P γ.1 vwCl [(a, .inr (4, [.ref (a + 1), .null, .null, .null, .int 0])), (a + 1, .inl (γ.2.1, 16, .inl (fun _ => 0))), (a + 2, .inl (γ.2.1, 16, .inl (fun _ => 0)))] _ := hP
  have hD : va_D _ [(a, .inr (4, [.ref (a + 1), .null, .null, .null, .int 0])), (a + 1, .inl (γ.2.1, 16, .inl (fun _ => 0))), (a + 2, .inl (γ.2.1, 16, .inl (fun _ => 0)))] := hD
  refine st_put (D := γ.1) (ci := 4) (v := .ref (a + 2)) (ty := .array .int) (C := R_Objects) (T := T_Objects) (N := 5) (Ts := bs_W0) hx hb hW in_Objects t_Objects t_Objects_ok n_Objects hown hC.1 hP hD (fun q h => h) hS 0 rfl rfl 1 (by decide) (hW _ qw_541217fbcc) (fun _ h9 => h9) rfl (by decide +kernel) rfl rfl (Nat.le_of_ble_eq_true rfl) dObjects_init_17 (fun H locs hP hD hS hz9 ho9 => ?_)
  have hz : H.size = a + 3 := hz9.trans hz
  have hP : va_P γ.1 vwCl [(a, .inr (4, [.ref (a + 1), .ref (a + 2), .null, .null, .int 0])), (a + 1, .inl (γ.2.1, 16, .inl (fun _ => 0))), (a + 2, .inl (γ.2.1, 16, .inl (fun _ => 0)))] _ := hP
  have hD : va_D _ [(a, .inr (4, [.ref (a + 1), .ref (a + 2), .null, .null, .int 0])), (a + 1, .inl (γ.2.1, 16, .inl (fun _ => 0))), (a + 2, .inl (γ.2.1, 16, .inl (fun _ => 0)))] := hD
  refine lv_aload_n hx hb dObjects_init_20 rfl (lv_at hl 0 rfl) ?_
  refine lv_bipush (v := 16) hx hb dObjects_init_21 (by decide) ?_
  refine cw_newa S hC qw_8e969fb20a hP hD hS hA hz 16 rfl (by omega) (Nat.le_of_ble_eq_true rfl) (Nat.le_of_ble_eq_true rfl) dObjects_init_23 (fun H hP hD hS hz hk9 => ?_)
  have hz : H.size = a + 4 := hz
  have hP : va_P γ.1 vwCl [(a, .inr (4, [.ref (a + 1), .ref (a + 2), .null, .null, .int 0])), (a + 1, .inl (γ.2.1, 16, .inl (fun _ => 0))), (a + 2, .inl (γ.2.1, 16, .inl (fun _ => 0))), (a + 3, .inl (γ.2.1, 16, .inl (fun _ => 0)))] _ := hP
  have hD : va_D _ [(a, .inr (4, [.ref (a + 1), .ref (a + 2), .null, .null, .int 0])), (a + 1, .inl (γ.2.1, 16, .inl (fun _ => 0))), (a + 2, .inl (γ.2.1, 16, .inl (fun _ => 0))), (a + 3, .inl (γ.2.1, 16, .inl (fun _ => 0)))] := hD
  refine st_put (D := γ.1) (ci := 4) (v := .ref (a + 3)) (ty := .array .int) (C := R_Objects) (T := T_Objects) (N := 5) (Ts := bs_W0) hx hb hW in_Objects t_Objects t_Objects_ok n_Objects hown hC.1 hP hD (fun q h => h) hS 0 rfl rfl 2 (by decide) (hW _ qw_0ed5786ef0) (fun _ h9 => h9) rfl (by decide +kernel) rfl rfl (Nat.le_of_ble_eq_true rfl) dObjects_init_25 (fun H locs hP hD hS hz9 ho9 => ?_)
  have hz : H.size = a + 4 := hz9.trans hz
  have hP : va_P γ.1 vwCl [(a, .inr (4, [.ref (a + 1), .ref (a + 2), .ref (a + 3), .null, .int 0])), (a + 1, .inl (γ.2.1, 16, .inl (fun _ => 0))), (a + 2, .inl (γ.2.1, 16, .inl (fun _ => 0))), (a + 3, .inl (γ.2.1, 16, .inl (fun _ => 0)))] _ := hP
  have hD : va_D _ [(a, .inr (4, [.ref (a + 1), .ref (a + 2), .ref (a + 3), .null, .int 0])), (a + 1, .inl (γ.2.1, 16, .inl (fun _ => 0))), (a + 2, .inl (γ.2.1, 16, .inl (fun _ => 0))), (a + 3, .inl (γ.2.1, 16, .inl (fun _ => 0)))] := hD
  refine lv_aload_n hx hb dObjects_init_28 rfl (lv_at hl 0 rfl) ?_
  have hlw4 : ∀ (i : Nat) (x9 : Nat × va_E), ([(a, .inr (4, [.ref (a + 1), .ref (a + 2), .ref (a + 3), .null, .int 0])), (a + 1, .inl (γ.2.1, 16, .inl (fun _ => 0))), (a + 2, .inl (γ.2.1, 16, .inl (fun _ => 0))), (a + 3, .inl (γ.2.1, 16, .inl (fun _ => 0)))] : va_W)[i]? = some x9 → x9.1 < a + 4 := fun i x9 hx9 => by rw [← hz]; exact (hP i x9 hx9).lt
  refine cw_new (fs := [.null]) (C := R_Rows) (T := T_Rows) (N := 1) (ci := 5) S hC in_Rows t_Rows t_Rows_ok qw_7ba584ae21 qw_65d8f04d58 qw_c14c91c04c rfl (fun j hj => by obtain rfl : j = 0 := (by omega); rfl) hP hS hA hz (Nat.le_of_ble_eq_true rfl) (Nat.le_of_ble_eq_true rfl) dObjects_init_29 (fun H hPn hP hS hz hk9 => ?_)
  have hz : H.size = a + 5 := hz
  refine lv_dup hx hb dObjects_init_32 rfl ?_
  refine lv_bipush (v := 16) hx hb dObjects_init_33 (by decide) ?_
  refine ms_I (rest := [.ref (a + 4), .ref a]) S hC (fun q h => Nat.le_trans (by omega) h) (fun q h => Nat.le_trans (by omega) h) hS (i_Rows l γ s0 hw0 (a + 4) _ 16 ⟨by omega, by omega⟩) ct_blind meRows_init qw_bfe3cbf49d ⟨(Nat.le_of_ble_eq_true rfl), (Nat.le_of_ble_eq_true rfl)⟩ (fun U hU hW9 => ⟨⟨by rw [hU]; exact (hF0.step hA0 hS.1 hS.2.1).warm hW9, by omega⟩, hU, hz, hPn⟩) rfl hl.1 rfl (Nat.le_of_ble_eq_true rfl) dObjects_init_35 ⟨(Nat.le_of_ble_eq_true rfl), (Nat.le_of_ble_eq_true rfl)⟩ (fun H1 locs hPO hS hz9 hk9 => ?_)
  obtain ⟨hc4, hzn⟩ := hPO
  have hc4 : cmp γ (fRows γ (a + 4) 16) (iv (a + 4) (a + 6)) H1 := hc4
  have hz : H1.size = a + 6 := hzn
  have hP : va_P γ.1 vwCl [(a, .inr (4, [.ref (a + 1), .ref (a + 2), .ref (a + 3), .null, .int 0])), (a + 1, .inl (γ.2.1, 16, .inl (fun _ => 0))), (a + 2, .inl (γ.2.1, 16, .inl (fun _ => 0))), (a + 3, .inl (γ.2.1, 16, .inl (fun _ => 0)))] H1 := hP.kept (fun i x9 hx9 => hk9 x9.1 (hP i x9 hx9).lt (fun h9 => absurd (hlw4 i x9 hx9) (Nat.not_lt.mpr h9)))
  refine st_putF (D := γ.1) (ci := 4) (v := .ref (a + 4)) (ty := .object "TypeBook$Rows") (C := R_Objects) (T := T_Objects) (N := 5) (Ts := bs_W0) hx hb hW in_Objects t_Objects t_Objects_ok n_Objects hown hC.1 hP hD (fun q h => h) hS 0 rfl rfl 3 (by decide) (hW _ qw_f4aeeaf054) (fun _ h9 => h9) rfl hnm rfl (by decide +kernel) rfl rfl (Nat.le_of_ble_eq_true rfl) dObjects_init_38 (fun H locs hP hD hS hz9 ho9 => ?_)
  have hz : H.size = a + 6 := hz9.trans hz
  have hP : va_P γ.1 vwCl [(a, .inr (4, [.ref (a + 1), .ref (a + 2), .ref (a + 3), .ref (a + 4), .int 0])), (a + 1, .inl (γ.2.1, 16, .inl (fun _ => 0))), (a + 2, .inl (γ.2.1, 16, .inl (fun _ => 0))), (a + 3, .inl (γ.2.1, 16, .inl (fun _ => 0)))] _ := hP
  have hD : va_D _ [(a, .inr (4, [.ref (a + 1), .ref (a + 2), .ref (a + 3), .ref (a + 4), .int 0])), (a + 1, .inl (γ.2.1, 16, .inl (fun _ => 0))), (a + 2, .inl (γ.2.1, 16, .inl (fun _ => 0))), (a + 3, .inl (γ.2.1, 16, .inl (fun _ => 0)))] := hD
  have hc4 : cmp γ (fRows γ (a + 4) 16) (iv (a + 4) (a + 6)) _ := iv_kept hc4 (fun q k1 k2 k3 => ho9 q (by omega))
  refine lv_aload_n hx hb dObjects_init_41 rfl (lv_at hl 0 rfl) ?_
  refine lv_iconst (v := 0) hx hb dObjects_init_42 (by decide) ?_
  refine st_put (D := γ.1) (ci := 4) (v := .int 0) (ty := .int) (C := R_Objects) (T := T_Objects) (N := 5) (Ts := bs_W0) hx hb hW in_Objects t_Objects t_Objects_ok n_Objects hown hC.1 hP hD (fun q h => h) hS 0 rfl rfl 4 (by decide) (hW _ qw_1a9a6fdaf2) (fun _ h9 => h9) rfl (by decide +kernel) rfl rfl (Nat.le_of_ble_eq_true rfl) dObjects_init_43 (fun H locs hP hD hS hz9 ho9 => ?_)
  have hz : H.size = a + 6 := hz9.trans hz
  have hP : va_P γ.1 vwCl [(a, .inr (4, [.ref (a + 1), .ref (a + 2), .ref (a + 3), .ref (a + 4), .int 0])), (a + 1, .inl (γ.2.1, 16, .inl (fun _ => 0))), (a + 2, .inl (γ.2.1, 16, .inl (fun _ => 0))), (a + 3, .inl (γ.2.1, 16, .inl (fun _ => 0)))] _ := hP
  have hD : va_D _ [(a, .inr (4, [.ref (a + 1), .ref (a + 2), .ref (a + 3), .ref (a + 4), .int 0])), (a + 1, .inl (γ.2.1, 16, .inl (fun _ => 0))), (a + 2, .inl (γ.2.1, 16, .inl (fun _ => 0))), (a + 3, .inl (γ.2.1, 16, .inl (fun _ => 0)))] := hD
  have hc4 : cmp γ (fRows γ (a + 4) 16) (iv (a + 4) (a + 6)) _ := iv_kept hc4 (fun q k1 k2 k3 => ho9 q (by omega))
  refine hE _ _ _ _ _ _ hS (Nat.le_of_ble_eq_true rfl) (Nat.le_of_ble_eq_true rfl) (fun hG => ?_) dObjects_init_46
  exact ⟨⟨⟨_, ⟨(a + 1), (a + 2), (a + 3), (fun _ => 0), (fun _ => 0), (fun _ => 0), rfl, (Nat.le_of_ble_eq_true rfl), (Nat.le_of_ble_eq_true rfl), (Nat.le_of_ble_eq_true rfl)⟩, hP, hD.1, (fun i x9 hx9 => by have h9 : x9 ∈ ([(a, .inr (4, [.ref (a + 1), .ref (a + 2), .ref (a + 3), .ref (a + 4), .int 0])), (a + 1, .inl (γ.2.1, 16, .inl (fun _ => 0))), (a + 2, .inl (γ.2.1, 16, .inl (fun _ => 0))), (a + 3, .inl (γ.2.1, 16, .inl (fun _ => 0)))] : va_W) := List.mem_of_getElem? hx9; simp only [List.mem_cons, List.not_mem_nil, or_false] at h9; rcases h9 with rfl | rfl | rfl | rfl <;> (unfold iv; dsimp only; omega))⟩, hc4⟩, hz⟩
theorem qw_453de1dfc7 : (Cond.methodLink R_Looks 3 Lib.objectInit) ∈ bs_W0 := bs_in (in_tables_1_1 (List.mem_of_getElem? (i := 199) rfl)) rfl
theorem qw_97cb1153a6 : (Cond.classLink R_Looks 27 R_Rows) ∈ bs_W0 := bs_in (in_tables_1_1 (List.mem_of_getElem? (i := 200) rfl)) rfl
theorem qw_33db77e6ce : (Cond.methodLink R_Looks 29 yRows_init) ∈ bs_W0 := bs_in (in_tables_1_1 (List.mem_of_getElem? (i := 201) rfl)) rfl
set_option maxHeartbeats 4000000 in
set_option maxRecDepth 100000 in
theorem i_Looks (l : Launch) (γ : gE) (s0 : State) (hw0 : SW s0) (a : Nat) (H0 : Heap)   : MS l yLooks_init bLooks_init 1 none 2 35 7 577 [.ref a] γ (fun q => a ≤ q) (ct_P s0 a H0 γ [(a, .inr (6, [.null, .null, .null, .null, .null, .null]))]) (mQv (fun H => (cmp γ (fLooks γ a (a + 6) 64) (iv a (a + 6)) H ∧ cmp γ (fRows γ (a + 6) 64) (iv (a + 6) (a + 8)) H) ∧ H.size = a + 8) (fun q => a ≤ q)) := by
  refine ms_openV (by decide) (Nat.le_of_ble_eq_true rfl) ?_
  intro p e s m args below meth c ls Q S hnm hC hA hPS hE hl
  obtain ⟨⟨hF0, hA1⟩, hH0, hz, hP⟩ := hPS
  subst hH0
  have hA0 : ∀ q, a ≤ q → s0.heap.size ≤ q := fun q h => Nat.le_trans hA1 h
  have hA : ∀ q, s.heap.size ≤ q → a ≤ q := hA
  obtain ⟨hx, hb, hml, hown, hW⟩ := id S
  have hS : va_S (fun q => a ≤ q) s.heap s.heap [] := va_S.rf
  have hD : va_D (fun q => a ≤ q) [(a, .inr (6, [.null, .null, .null, .null, .null, .null]))] := one_D (Nat.le_refl a)
  have hl : lv_has ls 1 [(0, .ref a)] := hl
  refine lv_aload_n hx hb dLooks_init_0 rfl (lv_at hl 0 rfl) ?_
  refine W.objInit hx hb hown (hW _ qw_453de1dfc7) (hW _ qw_aaa073e22d) (hW _ qc_obj) rfl (hl.1.trans hml.symm) rfl dLooks_init_1 (Nat.le_of_ble_eq_true rfl) (Nat.le_of_ble_eq_true rfl) ?_
  refine lv_aload_n hx hb dLooks_init_4 rfl (lv_at hl 0 rfl) ?_
  refine lv_bipush (v := 64) hx hb dLooks_init_5 (by decide) ?_
  refine cw_newa S hC qw_8e969fb20a hP hD hS hA hz 64 rfl (by omega) (Nat.le_of_ble_eq_true rfl) (Nat.le_of_ble_eq_true rfl) dLooks_init_7 (fun H hP hD hS hz hk9 => ?_)
  have hz : H.size = a + 2 := hz
  have hP : va_P γ.1 vwCl [(a, .inr (6, [.null, .null, .null, .null, .null, .null])), (a + 1, .inl (γ.2.1, 64, .inl (fun _ => 0)))] _ := hP
  have hD : va_D _ [(a, .inr (6, [.null, .null, .null, .null, .null, .null])), (a + 1, .inl (γ.2.1, 64, .inl (fun _ => 0)))] := hD
  refine st_put (D := γ.1) (ci := 6) (v := .ref (a + 1)) (ty := .array .int) (C := R_Looks) (T := T_Looks) (N := 6) (Ts := bs_W0) hx hb hW in_Looks t_Looks t_Looks_ok n_Looks hown hC.1 hP hD (fun q h => h) hS 0 rfl rfl 0 (by decide) (hW _ qw_ac7df03aa7) (fun _ h9 => h9) rfl (by decide +kernel) rfl rfl (Nat.le_of_ble_eq_true rfl) dLooks_init_9 (fun H locs hP hD hS hz9 ho9 => ?_)
  have hz : H.size = a + 2 := hz9.trans hz
  have hP : va_P γ.1 vwCl [(a, .inr (6, [.ref (a + 1), .null, .null, .null, .null, .null])), (a + 1, .inl (γ.2.1, 64, .inl (fun _ => 0)))] _ := hP
  have hD : va_D _ [(a, .inr (6, [.ref (a + 1), .null, .null, .null, .null, .null])), (a + 1, .inl (γ.2.1, 64, .inl (fun _ => 0)))] := hD
  refine lv_aload_n hx hb dLooks_init_12 rfl (lv_at hl 0 rfl) ?_
  refine lv_bipush (v := 64) hx hb dLooks_init_13 (by decide) ?_
  refine cw_newa S hC qw_8e969fb20a hP hD hS hA hz 64 rfl (by omega) (Nat.le_of_ble_eq_true rfl) (Nat.le_of_ble_eq_true rfl) dLooks_init_15 (fun H hP hD hS hz hk9 => ?_)
  have hz : H.size = a + 3 := hz
  have hP : va_P γ.1 vwCl [(a, .inr (6, [.ref (a + 1), .null, .null, .null, .null, .null])), (a + 1, .inl (γ.2.1, 64, .inl (fun _ => 0))), (a + 2, .inl (γ.2.1, 64, .inl (fun _ => 0)))] _ := hP
  have hD : va_D _ [(a, .inr (6, [.ref (a + 1), .null, .null, .null, .null, .null])), (a + 1, .inl (γ.2.1, 64, .inl (fun _ => 0))), (a + 2, .inl (γ.2.1, 64, .inl (fun _ => 0)))] := hD
  refine st_put (D := γ.1) (ci := 6) (v := .ref (a + 2)) (ty := .array .int) (C := R_Looks) (T := T_Looks) (N := 6) (Ts := bs_W0) hx hb hW in_Looks t_Looks t_Looks_ok n_Looks hown hC.1 hP hD (fun q h => h) hS 0 rfl rfl 1 (by decide) (hW _ qw_7dd30c70bd) (fun _ h9 => h9) rfl (by decide +kernel) rfl rfl (Nat.le_of_ble_eq_true rfl) dLooks_init_17 (fun H locs hP hD hS hz9 ho9 => ?_)
  have hz : H.size = a + 3 := hz9.trans hz
  have hP : va_P γ.1 vwCl [(a, .inr (6, [.ref (a + 1), .ref (a + 2), .null, .null, .null, .null])), (a + 1, .inl (γ.2.1, 64, .inl (fun _ => 0))), (a + 2, .inl (γ.2.1, 64, .inl (fun _ => 0)))] _ := hP
  have hD : va_D _ [(a, .inr (6, [.ref (a + 1), .ref (a + 2), .null, .null, .null, .null])), (a + 1, .inl (γ.2.1, 64, .inl (fun _ => 0))), (a + 2, .inl (γ.2.1, 64, .inl (fun _ => 0)))] := hD
  refine lv_aload_n hx hb dLooks_init_20 rfl (lv_at hl 0 rfl) ?_
  refine lv_bipush (v := 64) hx hb dLooks_init_21 (by decide) ?_
  refine cw_newa S hC qw_8e969fb20a hP hD hS hA hz 64 rfl (by omega) (Nat.le_of_ble_eq_true rfl) (Nat.le_of_ble_eq_true rfl) dLooks_init_23 (fun H hP hD hS hz hk9 => ?_)
  have hz : H.size = a + 4 := hz
  have hP : va_P γ.1 vwCl [(a, .inr (6, [.ref (a + 1), .ref (a + 2), .null, .null, .null, .null])), (a + 1, .inl (γ.2.1, 64, .inl (fun _ => 0))), (a + 2, .inl (γ.2.1, 64, .inl (fun _ => 0))), (a + 3, .inl (γ.2.1, 64, .inl (fun _ => 0)))] _ := hP
  have hD : va_D _ [(a, .inr (6, [.ref (a + 1), .ref (a + 2), .null, .null, .null, .null])), (a + 1, .inl (γ.2.1, 64, .inl (fun _ => 0))), (a + 2, .inl (γ.2.1, 64, .inl (fun _ => 0))), (a + 3, .inl (γ.2.1, 64, .inl (fun _ => 0)))] := hD
  refine st_put (D := γ.1) (ci := 6) (v := .ref (a + 3)) (ty := .array .int) (C := R_Looks) (T := T_Looks) (N := 6) (Ts := bs_W0) hx hb hW in_Looks t_Looks t_Looks_ok n_Looks hown hC.1 hP hD (fun q h => h) hS 0 rfl rfl 2 (by decide) (hW _ qw_427e012605) (fun _ h9 => h9) rfl (by decide +kernel) rfl rfl (Nat.le_of_ble_eq_true rfl) dLooks_init_25 (fun H locs hP hD hS hz9 ho9 => ?_)
  have hz : H.size = a + 4 := hz9.trans hz
  have hP : va_P γ.1 vwCl [(a, .inr (6, [.ref (a + 1), .ref (a + 2), .ref (a + 3), .null, .null, .null])), (a + 1, .inl (γ.2.1, 64, .inl (fun _ => 0))), (a + 2, .inl (γ.2.1, 64, .inl (fun _ => 0))), (a + 3, .inl (γ.2.1, 64, .inl (fun _ => 0)))] _ := hP
  have hD : va_D _ [(a, .inr (6, [.ref (a + 1), .ref (a + 2), .ref (a + 3), .null, .null, .null])), (a + 1, .inl (γ.2.1, 64, .inl (fun _ => 0))), (a + 2, .inl (γ.2.1, 64, .inl (fun _ => 0))), (a + 3, .inl (γ.2.1, 64, .inl (fun _ => 0)))] := hD
  refine lv_aload_n hx hb dLooks_init_28 rfl (lv_at hl 0 rfl) ?_
  refine lv_bipush (v := 64) hx hb dLooks_init_29 (by decide) ?_
  refine cw_newa S hC qw_8e969fb20a hP hD hS hA hz 64 rfl (by omega) (Nat.le_of_ble_eq_true rfl) (Nat.le_of_ble_eq_true rfl) dLooks_init_31 (fun H hP hD hS hz hk9 => ?_)
  have hz : H.size = a + 5 := hz
  have hP : va_P γ.1 vwCl [(a, .inr (6, [.ref (a + 1), .ref (a + 2), .ref (a + 3), .null, .null, .null])), (a + 1, .inl (γ.2.1, 64, .inl (fun _ => 0))), (a + 2, .inl (γ.2.1, 64, .inl (fun _ => 0))), (a + 3, .inl (γ.2.1, 64, .inl (fun _ => 0))), (a + 4, .inl (γ.2.1, 64, .inl (fun _ => 0)))] _ := hP
  have hD : va_D _ [(a, .inr (6, [.ref (a + 1), .ref (a + 2), .ref (a + 3), .null, .null, .null])), (a + 1, .inl (γ.2.1, 64, .inl (fun _ => 0))), (a + 2, .inl (γ.2.1, 64, .inl (fun _ => 0))), (a + 3, .inl (γ.2.1, 64, .inl (fun _ => 0))), (a + 4, .inl (γ.2.1, 64, .inl (fun _ => 0)))] := hD
  refine st_put (D := γ.1) (ci := 6) (v := .ref (a + 4)) (ty := .array .int) (C := R_Looks) (T := T_Looks) (N := 6) (Ts := bs_W0) hx hb hW in_Looks t_Looks t_Looks_ok n_Looks hown hC.1 hP hD (fun q h => h) hS 0 rfl rfl 3 (by decide) (hW _ qw_5344cf30a3) (fun _ h9 => h9) rfl (by decide +kernel) rfl rfl (Nat.le_of_ble_eq_true rfl) dLooks_init_33 (fun H locs hP hD hS hz9 ho9 => ?_)
  have hz : H.size = a + 5 := hz9.trans hz
  have hP : va_P γ.1 vwCl [(a, .inr (6, [.ref (a + 1), .ref (a + 2), .ref (a + 3), .ref (a + 4), .null, .null])), (a + 1, .inl (γ.2.1, 64, .inl (fun _ => 0))), (a + 2, .inl (γ.2.1, 64, .inl (fun _ => 0))), (a + 3, .inl (γ.2.1, 64, .inl (fun _ => 0))), (a + 4, .inl (γ.2.1, 64, .inl (fun _ => 0)))] _ := hP
  have hD : va_D _ [(a, .inr (6, [.ref (a + 1), .ref (a + 2), .ref (a + 3), .ref (a + 4), .null, .null])), (a + 1, .inl (γ.2.1, 64, .inl (fun _ => 0))), (a + 2, .inl (γ.2.1, 64, .inl (fun _ => 0))), (a + 3, .inl (γ.2.1, 64, .inl (fun _ => 0))), (a + 4, .inl (γ.2.1, 64, .inl (fun _ => 0)))] := hD
  refine lv_aload_n hx hb dLooks_init_36 rfl (lv_at hl 0 rfl) ?_
  refine lv_bipush (v := 64) hx hb dLooks_init_37 (by decide) ?_
  refine cw_newa S hC qw_8e969fb20a hP hD hS hA hz 64 rfl (by omega) (Nat.le_of_ble_eq_true rfl) (Nat.le_of_ble_eq_true rfl) dLooks_init_39 (fun H hP hD hS hz hk9 => ?_)
  have hz : H.size = a + 6 := hz
  have hP : va_P γ.1 vwCl [(a, .inr (6, [.ref (a + 1), .ref (a + 2), .ref (a + 3), .ref (a + 4), .null, .null])), (a + 1, .inl (γ.2.1, 64, .inl (fun _ => 0))), (a + 2, .inl (γ.2.1, 64, .inl (fun _ => 0))), (a + 3, .inl (γ.2.1, 64, .inl (fun _ => 0))), (a + 4, .inl (γ.2.1, 64, .inl (fun _ => 0))), (a + 5, .inl (γ.2.1, 64, .inl (fun _ => 0)))] _ := hP
  have hD : va_D _ [(a, .inr (6, [.ref (a + 1), .ref (a + 2), .ref (a + 3), .ref (a + 4), .null, .null])), (a + 1, .inl (γ.2.1, 64, .inl (fun _ => 0))), (a + 2, .inl (γ.2.1, 64, .inl (fun _ => 0))), (a + 3, .inl (γ.2.1, 64, .inl (fun _ => 0))), (a + 4, .inl (γ.2.1, 64, .inl (fun _ => 0))), (a + 5, .inl (γ.2.1, 64, .inl (fun _ => 0)))] := hD
  refine st_put (D := γ.1) (ci := 6) (v := .ref (a + 5)) (ty := .array .int) (C := R_Looks) (T := T_Looks) (N := 6) (Ts := bs_W0) hx hb hW in_Looks t_Looks t_Looks_ok n_Looks hown hC.1 hP hD (fun q h => h) hS 0 rfl rfl 4 (by decide) (hW _ qw_d08a1abfac) (fun _ h9 => h9) rfl (by decide +kernel) rfl rfl (Nat.le_of_ble_eq_true rfl) dLooks_init_41 (fun H locs hP hD hS hz9 ho9 => ?_)
  have hz : H.size = a + 6 := hz9.trans hz
  have hP : va_P γ.1 vwCl [(a, .inr (6, [.ref (a + 1), .ref (a + 2), .ref (a + 3), .ref (a + 4), .ref (a + 5), .null])), (a + 1, .inl (γ.2.1, 64, .inl (fun _ => 0))), (a + 2, .inl (γ.2.1, 64, .inl (fun _ => 0))), (a + 3, .inl (γ.2.1, 64, .inl (fun _ => 0))), (a + 4, .inl (γ.2.1, 64, .inl (fun _ => 0))), (a + 5, .inl (γ.2.1, 64, .inl (fun _ => 0)))] _ := hP
  have hD : va_D _ [(a, .inr (6, [.ref (a + 1), .ref (a + 2), .ref (a + 3), .ref (a + 4), .ref (a + 5), .null])), (a + 1, .inl (γ.2.1, 64, .inl (fun _ => 0))), (a + 2, .inl (γ.2.1, 64, .inl (fun _ => 0))), (a + 3, .inl (γ.2.1, 64, .inl (fun _ => 0))), (a + 4, .inl (γ.2.1, 64, .inl (fun _ => 0))), (a + 5, .inl (γ.2.1, 64, .inl (fun _ => 0)))] := hD
  refine lv_aload_n hx hb dLooks_init_44 rfl (lv_at hl 0 rfl) ?_
  have hlw6 : ∀ (i : Nat) (x9 : Nat × va_E), ([(a, .inr (6, [.ref (a + 1), .ref (a + 2), .ref (a + 3), .ref (a + 4), .ref (a + 5), .null])), (a + 1, .inl (γ.2.1, 64, .inl (fun _ => 0))), (a + 2, .inl (γ.2.1, 64, .inl (fun _ => 0))), (a + 3, .inl (γ.2.1, 64, .inl (fun _ => 0))), (a + 4, .inl (γ.2.1, 64, .inl (fun _ => 0))), (a + 5, .inl (γ.2.1, 64, .inl (fun _ => 0)))] : va_W)[i]? = some x9 → x9.1 < a + 6 := fun i x9 hx9 => by rw [← hz]; exact (hP i x9 hx9).lt
  refine cw_new (fs := [.null]) (C := R_Rows) (T := T_Rows) (N := 1) (ci := 5) S hC in_Rows t_Rows t_Rows_ok qw_97cb1153a6 qw_65d8f04d58 qw_c14c91c04c rfl (fun j hj => by obtain rfl : j = 0 := (by omega); rfl) hP hS hA hz (Nat.le_of_ble_eq_true rfl) (Nat.le_of_ble_eq_true rfl) dLooks_init_45 (fun H hPn hP hS hz hk9 => ?_)
  have hz : H.size = a + 7 := hz
  refine lv_dup hx hb dLooks_init_48 rfl ?_
  refine lv_bipush (v := 64) hx hb dLooks_init_49 (by decide) ?_
  refine ms_I (rest := [.ref (a + 6), .ref a]) S hC (fun q h => Nat.le_trans (by omega) h) (fun q h => Nat.le_trans (by omega) h) hS (i_Rows l γ s0 hw0 (a + 6) _ 64 ⟨by omega, by omega⟩) ct_blind meRows_init qw_33db77e6ce ⟨(Nat.le_of_ble_eq_true rfl), (Nat.le_of_ble_eq_true rfl)⟩ (fun U hU hW9 => ⟨⟨by rw [hU]; exact (hF0.step hA0 hS.1 hS.2.1).warm hW9, by omega⟩, hU, hz, hPn⟩) rfl hl.1 rfl (Nat.le_of_ble_eq_true rfl) dLooks_init_51 ⟨(Nat.le_of_ble_eq_true rfl), (Nat.le_of_ble_eq_true rfl)⟩ (fun H1 locs hPO hS hz9 hk9 => ?_)
  obtain ⟨hc6, hzn⟩ := hPO
  have hc6 : cmp γ (fRows γ (a + 6) 64) (iv (a + 6) (a + 8)) H1 := hc6
  have hz : H1.size = a + 8 := hzn
  have hP : va_P γ.1 vwCl [(a, .inr (6, [.ref (a + 1), .ref (a + 2), .ref (a + 3), .ref (a + 4), .ref (a + 5), .null])), (a + 1, .inl (γ.2.1, 64, .inl (fun _ => 0))), (a + 2, .inl (γ.2.1, 64, .inl (fun _ => 0))), (a + 3, .inl (γ.2.1, 64, .inl (fun _ => 0))), (a + 4, .inl (γ.2.1, 64, .inl (fun _ => 0))), (a + 5, .inl (γ.2.1, 64, .inl (fun _ => 0)))] H1 := hP.kept (fun i x9 hx9 => hk9 x9.1 (hP i x9 hx9).lt (fun h9 => absurd (hlw6 i x9 hx9) (Nat.not_lt.mpr h9)))
  refine st_putF (D := γ.1) (ci := 6) (v := .ref (a + 6)) (ty := .object "TypeBook$Rows") (C := R_Looks) (T := T_Looks) (N := 6) (Ts := bs_W0) hx hb hW in_Looks t_Looks t_Looks_ok n_Looks hown hC.1 hP hD (fun q h => h) hS 0 rfl rfl 5 (by decide) (hW _ qw_50f3c1330a) (fun _ h9 => h9) rfl hnm rfl (by decide +kernel) rfl rfl (Nat.le_of_ble_eq_true rfl) dLooks_init_54 (fun H locs hP hD hS hz9 ho9 => ?_)
  have hz : H.size = a + 8 := hz9.trans hz
  have hP : va_P γ.1 vwCl [(a, .inr (6, [.ref (a + 1), .ref (a + 2), .ref (a + 3), .ref (a + 4), .ref (a + 5), .ref (a + 6)])), (a + 1, .inl (γ.2.1, 64, .inl (fun _ => 0))), (a + 2, .inl (γ.2.1, 64, .inl (fun _ => 0))), (a + 3, .inl (γ.2.1, 64, .inl (fun _ => 0))), (a + 4, .inl (γ.2.1, 64, .inl (fun _ => 0))), (a + 5, .inl (γ.2.1, 64, .inl (fun _ => 0)))] _ := hP
  have hD : va_D _ [(a, .inr (6, [.ref (a + 1), .ref (a + 2), .ref (a + 3), .ref (a + 4), .ref (a + 5), .ref (a + 6)])), (a + 1, .inl (γ.2.1, 64, .inl (fun _ => 0))), (a + 2, .inl (γ.2.1, 64, .inl (fun _ => 0))), (a + 3, .inl (γ.2.1, 64, .inl (fun _ => 0))), (a + 4, .inl (γ.2.1, 64, .inl (fun _ => 0))), (a + 5, .inl (γ.2.1, 64, .inl (fun _ => 0)))] := hD
  have hc6 : cmp γ (fRows γ (a + 6) 64) (iv (a + 6) (a + 8)) _ := iv_kept hc6 (fun q k1 k2 k3 => ho9 q (by omega))
  refine hE _ _ _ _ _ _ hS (Nat.le_of_ble_eq_true rfl) (Nat.le_of_ble_eq_true rfl) (fun hG => ?_) dLooks_init_57
  exact ⟨⟨⟨_, ⟨(a + 1), (a + 2), (a + 3), (a + 4), (a + 5), (fun _ => 0), (fun _ => 0), (fun _ => 0), (fun _ => 0), (fun _ => 0), rfl, (Nat.le_of_ble_eq_true rfl), (Nat.le_of_ble_eq_true rfl)⟩, hP, hD.1, (fun i x9 hx9 => by have h9 : x9 ∈ ([(a, .inr (6, [.ref (a + 1), .ref (a + 2), .ref (a + 3), .ref (a + 4), .ref (a + 5), .ref (a + 6)])), (a + 1, .inl (γ.2.1, 64, .inl (fun _ => 0))), (a + 2, .inl (γ.2.1, 64, .inl (fun _ => 0))), (a + 3, .inl (γ.2.1, 64, .inl (fun _ => 0))), (a + 4, .inl (γ.2.1, 64, .inl (fun _ => 0))), (a + 5, .inl (γ.2.1, 64, .inl (fun _ => 0)))] : va_W) := List.mem_of_getElem? hx9; simp only [List.mem_cons, List.not_mem_nil, or_false] at h9; rcases h9 with rfl | rfl | rfl | rfl | rfl | rfl <;> (unfold iv; dsimp only; omega))⟩, hc6⟩, hz⟩
theorem qw_f0d7e04424 : (Cond.methodLink R_Types 3 Lib.objectInit) ∈ bs_W0 := bs_in (in_tables_1_1 (List.mem_of_getElem? (i := 133) rfl)) rfl
theorem qw_3143413b72 : (Cond.methodLink R_Types 28 yTypes_put) ∈ bs_W0 := bs_in (in_tables_1_1 (List.mem_of_getElem? (i := 134) rfl)) rfl
theorem qw_079460d786 : (Cond.constant R_Types 32 (-2147483647)) ∈ bs_W0 := bs_in (in_tables_1_1 (List.mem_of_getElem? (i := 139) rfl)) rfl
theorem qw_3e6fd5ff1a : (Cond.constant R_Types 33 2147483647) ∈ bs_W0 := bs_in (in_tables_1_1 (List.mem_of_getElem? (i := 140) rfl)) rfl
theorem qw_7252111190 : (Cond.methodLink R_Operators 3 Lib.objectInit) ∈ bs_W0 := bs_in (in_tables_1_1 (List.mem_of_getElem? (i := 239) rfl)) rfl
set_option maxHeartbeats 4000000 in
set_option maxRecDepth 100000 in
theorem i_Operators (l : Launch) (γ : gE) (s0 : State) (hw0 : SW s0) (a : Nat) (H0 : Heap) (t1 : Nat)  : MS l yOperators_init bOperators_init 2 none 1 12 0 0 [.ref a, .ref t1] γ (fun q => a ≤ q) (ct_P s0 a H0 γ [(a, .inr (8, [.null]))]) (mQv (fun H => cmp γ (fun ws => ws = [(a, .inr (8, [.ref t1]))]) (iv a (a + 1)) H ∧ H.size = a + 1) (fun q => a ≤ q)) := by
  refine ms_openV (by decide) (Nat.le_of_ble_eq_true rfl) ?_
  intro p e s m args below meth c ls Q S hnm hC hA hPS hE hl
  obtain ⟨⟨hF0, hA1⟩, hH0, hz, hP⟩ := hPS
  subst hH0
  have hA0 : ∀ q, a ≤ q → s0.heap.size ≤ q := fun q h => Nat.le_trans hA1 h
  have hA : ∀ q, s.heap.size ≤ q → a ≤ q := hA
  obtain ⟨hx, hb, hml, hown, hW⟩ := id S
  have hS : va_S (fun q => a ≤ q) s.heap s.heap [] := va_S.rf
  have hD : va_D (fun q => a ≤ q) [(a, .inr (8, [.null]))] := one_D (Nat.le_refl a)
  have hl : lv_has ls 2 [(0, .ref a), (1, .ref t1)] := hl
  refine lv_aload_n hx hb dOperators_init_0 rfl (lv_at hl 0 rfl) ?_
  refine W.objInit hx hb hown (hW _ qw_7252111190) (hW _ qw_aaa073e22d) (hW _ qc_obj) rfl (hl.1.trans hml.symm) rfl dOperators_init_1 (Nat.le_of_ble_eq_true rfl) (Nat.le_of_ble_eq_true rfl) ?_
  refine lv_aload_n hx hb dOperators_init_4 rfl (lv_at hl 0 rfl) ?_
  refine lv_aload_n hx hb dOperators_init_5 rfl (lv_at hl 1 rfl) ?_
  refine st_putF (D := γ.1) (ci := 8) (v := .ref t1) (ty := .object "TypeBook$Looks") (C := R_Operators) (T := T_Operators) (N := 1) (Ts := bs_W0) hx hb hW in_Operators t_Operators t_Operators_ok n_Operators hown hC.1 hP hD (fun q h => h) hS 0 rfl rfl 0 (by decide) (hW _ qw_46160f6e07) (fun _ h9 => h9) rfl hnm rfl (by decide +kernel) rfl rfl (Nat.le_of_ble_eq_true rfl) dOperators_init_6 (fun H locs hP hD hS hz9 ho9 => ?_)
  have hz : H.size = a + 1 := hz9.trans hz
  have hP : va_P γ.1 vwCl [(a, .inr (8, [.ref t1]))] _ := hP
  have hD : va_D _ [(a, .inr (8, [.ref t1]))] := hD
  refine hE _ _ _ _ _ _ hS (Nat.le_of_ble_eq_true rfl) (Nat.le_of_ble_eq_true rfl) (fun hG => ?_) dOperators_init_9
  exact ⟨iv_of ⟨_, rfl, hP, hD⟩ hz, hz⟩
theorem qw_0f8353b80e : (Cond.methodLink R_Meanings 3 Lib.objectInit) ∈ bs_W0 := bs_in (in_tables_1_2 (List.mem_of_getElem? (i := 9) rfl)) rfl
set_option maxHeartbeats 4000000 in
set_option maxRecDepth 100000 in
theorem i_Meanings (l : Launch) (γ : gE) (s0 : State) (hw0 : SW s0) (a : Nat) (H0 : Heap) (t1 : Nat) (t2 : Nat) (t3 : Nat) (t4 : Nat) (t5 : Nat)  : MS l yMeanings_init bMeanings_init 6 none 1 12 0 0 [.ref a, .ref t1, .ref t2, .ref t3, .ref t4, .ref t5] γ (fun q => a ≤ q) (ct_P s0 a H0 γ [(a, .inr (9, [.null, .null, .null, .null, .null]))]) (mQv (fun H => cmp γ (fun ws => ws = [(a, .inr (9, [.ref t1, .ref t2, .ref t3, .ref t4, .ref t5]))]) (iv a (a + 1)) H ∧ H.size = a + 1) (fun q => a ≤ q)) := by
  refine ms_openV (by decide) (Nat.le_of_ble_eq_true rfl) ?_
  intro p e s m args below meth c ls Q S hnm hC hA hPS hE hl
  obtain ⟨⟨hF0, hA1⟩, hH0, hz, hP⟩ := hPS
  subst hH0
  have hA0 : ∀ q, a ≤ q → s0.heap.size ≤ q := fun q h => Nat.le_trans hA1 h
  have hA : ∀ q, s.heap.size ≤ q → a ≤ q := hA
  obtain ⟨hx, hb, hml, hown, hW⟩ := id S
  have hS : va_S (fun q => a ≤ q) s.heap s.heap [] := va_S.rf
  have hD : va_D (fun q => a ≤ q) [(a, .inr (9, [.null, .null, .null, .null, .null]))] := one_D (Nat.le_refl a)
  have hl : lv_has ls 6 [(0, .ref a), (1, .ref t1), (2, .ref t2), (3, .ref t3), (4, .ref t4), (5, .ref t5)] := hl
  refine lv_aload_n hx hb dMeanings_init_0 rfl (lv_at hl 0 rfl) ?_
  refine W.objInit hx hb hown (hW _ qw_0f8353b80e) (hW _ qw_aaa073e22d) (hW _ qc_obj) rfl (hl.1.trans hml.symm) rfl dMeanings_init_1 (Nat.le_of_ble_eq_true rfl) (Nat.le_of_ble_eq_true rfl) ?_
  refine lv_aload_n hx hb dMeanings_init_4 rfl (lv_at hl 0 rfl) ?_
  refine lv_aload_n hx hb dMeanings_init_5 rfl (lv_at hl 1 rfl) ?_
  refine st_putF (D := γ.1) (ci := 9) (v := .ref t1) (ty := .object "TypeBook$Trees") (C := R_Meanings) (T := T_Meanings) (N := 5) (Ts := bs_W0) hx hb hW in_Meanings t_Meanings t_Meanings_ok n_Meanings hown hC.1 hP hD (fun q h => h) hS 0 rfl rfl 0 (by decide) (hW _ qw_c54cffb97e) (fun _ h9 => h9) rfl hnm rfl (by decide +kernel) rfl rfl (Nat.le_of_ble_eq_true rfl) dMeanings_init_6 (fun H locs hP hD hS hz9 ho9 => ?_)
  have hz : H.size = a + 1 := hz9.trans hz
  have hP : va_P γ.1 vwCl [(a, .inr (9, [.ref t1, .null, .null, .null, .null]))] _ := hP
  have hD : va_D _ [(a, .inr (9, [.ref t1, .null, .null, .null, .null]))] := hD
  refine lv_aload_n hx hb dMeanings_init_9 rfl (lv_at hl 0 rfl) ?_
  refine lv_aload_n hx hb dMeanings_init_10 rfl (lv_at hl 2 rfl) ?_
  refine st_putF (D := γ.1) (ci := 9) (v := .ref t2) (ty := .object "TypeBook$Names") (C := R_Meanings) (T := T_Meanings) (N := 5) (Ts := bs_W0) hx hb hW in_Meanings t_Meanings t_Meanings_ok n_Meanings hown hC.1 hP hD (fun q h => h) hS 0 rfl rfl 1 (by decide) (hW _ qw_2a07109efc) (fun _ h9 => h9) rfl hnm rfl (by decide +kernel) rfl rfl (Nat.le_of_ble_eq_true rfl) dMeanings_init_11 (fun H locs hP hD hS hz9 ho9 => ?_)
  have hz : H.size = a + 1 := hz9.trans hz
  have hP : va_P γ.1 vwCl [(a, .inr (9, [.ref t1, .ref t2, .null, .null, .null]))] _ := hP
  have hD : va_D _ [(a, .inr (9, [.ref t1, .ref t2, .null, .null, .null]))] := hD
  refine lv_aload_n hx hb dMeanings_init_14 rfl (lv_at hl 0 rfl) ?_
  refine lv_aload_n hx hb dMeanings_init_15 rfl (lv_at hl 3 rfl) ?_
  refine st_putF (D := γ.1) (ci := 9) (v := .ref t3) (ty := .object "TypeBook$Types") (C := R_Meanings) (T := T_Meanings) (N := 5) (Ts := bs_W0) hx hb hW in_Meanings t_Meanings t_Meanings_ok n_Meanings hown hC.1 hP hD (fun q h => h) hS 0 rfl rfl 2 (by decide) (hW _ qw_e2a2dba4a9) (fun _ h9 => h9) rfl hnm rfl (by decide +kernel) rfl rfl (Nat.le_of_ble_eq_true rfl) dMeanings_init_16 (fun H locs hP hD hS hz9 ho9 => ?_)
  have hz : H.size = a + 1 := hz9.trans hz
  have hP : va_P γ.1 vwCl [(a, .inr (9, [.ref t1, .ref t2, .ref t3, .null, .null]))] _ := hP
  have hD : va_D _ [(a, .inr (9, [.ref t1, .ref t2, .ref t3, .null, .null]))] := hD
  refine lv_aload_n hx hb dMeanings_init_19 rfl (lv_at hl 0 rfl) ?_
  refine lv_aload hx hb dMeanings_init_20 (lv_at hl 4 rfl) ?_
  refine st_putF (D := γ.1) (ci := 9) (v := .ref t4) (ty := .object "TypeBook$Objects") (C := R_Meanings) (T := T_Meanings) (N := 5) (Ts := bs_W0) hx hb hW in_Meanings t_Meanings t_Meanings_ok n_Meanings hown hC.1 hP hD (fun q h => h) hS 0 rfl rfl 3 (by decide) (hW _ qw_9bfdade5f5) (fun _ h9 => h9) rfl hnm rfl (by decide +kernel) rfl rfl (Nat.le_of_ble_eq_true rfl) dMeanings_init_22 (fun H locs hP hD hS hz9 ho9 => ?_)
  have hz : H.size = a + 1 := hz9.trans hz
  have hP : va_P γ.1 vwCl [(a, .inr (9, [.ref t1, .ref t2, .ref t3, .ref t4, .null]))] _ := hP
  have hD : va_D _ [(a, .inr (9, [.ref t1, .ref t2, .ref t3, .ref t4, .null]))] := hD
  refine lv_aload_n hx hb dMeanings_init_25 rfl (lv_at hl 0 rfl) ?_
  refine lv_aload hx hb dMeanings_init_26 (lv_at hl 5 rfl) ?_
  refine st_putF (D := γ.1) (ci := 9) (v := .ref t5) (ty := .object "TypeBook$Looks") (C := R_Meanings) (T := T_Meanings) (N := 5) (Ts := bs_W0) hx hb hW in_Meanings t_Meanings t_Meanings_ok n_Meanings hown hC.1 hP hD (fun q h => h) hS 0 rfl rfl 4 (by decide) (hW _ qw_aa3d3bbcf9) (fun _ h9 => h9) rfl hnm rfl (by decide +kernel) rfl rfl (Nat.le_of_ble_eq_true rfl) dMeanings_init_28 (fun H locs hP hD hS hz9 ho9 => ?_)
  have hz : H.size = a + 1 := hz9.trans hz
  have hP : va_P γ.1 vwCl [(a, .inr (9, [.ref t1, .ref t2, .ref t3, .ref t4, .ref t5]))] _ := hP
  have hD : va_D _ [(a, .inr (9, [.ref t1, .ref t2, .ref t3, .ref t4, .ref t5]))] := hD
  refine hE _ _ _ _ _ _ hS (Nat.le_of_ble_eq_true rfl) (Nat.le_of_ble_eq_true rfl) (fun hG => ?_) dMeanings_init_31
  exact ⟨iv_of ⟨_, rfl, hP, hD⟩ hz, hz⟩

theorem mu_openFV {l : Launch} {y : MethodName} {bytes : ByteArray} {maxL mc ms fr lo : Nat} {av : List Value} {γ : gE} {P : Heap → Prop} {A : Nat → Prop} {PO : Heap → Prop} (hy : plainFor y = true) (hn : (lg_sl av).length ≤ maxL)
    (body : ∀ (p : Program) (e : Env) (s : State) (m : MethodId) (args : Array Value) (below : List Frame) (meth : Method) (c : Code) (ls : Array Slot) (Q : State → Prop), bs_F p s m args c bytes maxL y.cls → CX γ s → (∀ q, s.heap.size ≤ q → A q) → P s.heap → (∀ (H : Heap) (locs : List Loc) (pc : Nat) (ls : Array Slot), va_S A s.heap H locs → PO H → decode bytes pc = .ok (.return_, 1) → W p l e (bs_rm fr mc ms lo) s m args below meth c H locs mc ms Q (F0 m pc ls [])) → lv_has ls maxL (lv_args 0 av) → W p l e (bs_rm fr mc ms lo) s m args below meth c s.heap [] 0 0 Q (F0 m 0 ls [])) : MU l y bytes maxL none fr lo mc ms av γ A P (mQv PO A) := by
  refine va_MetF (cc := bytes) (maxL := maxL) (ret := none) hy rfl ?_
  intro p e s m args below meth c s₁ B hml hv
  obtain ⟨rfl, hC, hA, hP⟩ := hv
  have hts := bs_hts (atoms_spec (ws := Cond.code y bytes maxL none :: bs_W0) B.pre)
  have hl := lv_entry av (n := maxL) hn
  rw [lg_entry_eq]
  exact body p e s m _ below meth c _ _ ⟨B.exec, B.bytes, hml, findClass_of_methodNamed B.named, hts⟩ hC hA hP (fun H locs _ _ hS hp hdg => W.vret B.exec B.bytes B.returns (fun t ht _ => ⟨⟨(), rfl, trivial, by show PO t.heap; rw [ht]; exact hp⟩, hS.F ht⟩) hS.2.2 hdg B.notSynchronized) hl
def fArr (γ : gE) (a n : Nat) (ws : va_W) : Prop := ∃ f : Nat → Int32, ws = [(a, .inl (γ.2.1, n, .inl f))]
/-- one cell of a world was written by another -/
theorem wr_D {Z : Nat → Prop} {ws : va_W} {i b : Nat} {e0 e1 : va_E} (hD : va_D Z ws) (hi : ws[i]? = some (b, e0)) : va_D Z (ws.set i (b, e1)) := hD.set hi
theorem nI_lt_of {j n : Nat} (hj : j ≤ n) (hn : n < 2 ^ 31) (h : ¬ nI n ≤ nI j) : j < n := Nat.lt_of_not_le fun q => h (nI_le q (by omega))
theorem nI_ge_of {j n : Nat} (hj : j ≤ n) (hn : n < 2 ^ 31) (h : nI n ≤ nI j) : j = n := Nat.le_antisymm hj ((nI_leI hn (by omega)).mp h)
theorem wl_0 {n N : Nat} (h : N ≤ n) : wl n N = n := if_pos h
theorem wc_0 {n N : Nat} (h : N ≤ n) : wc n N = 0 := if_pos h
theorem wm_0 {n N : Nat} (h : N ≤ n) : wm n N = 0 := if_pos h
theorem wr_set {D : va_G} {cl : List vw_C} {Z : Nat → Prop} {ws : va_W} {H H1 : Heap} {i b : Nat} {e0 e1 : va_E} (hP : va_P D cl ws H) (hD : va_D Z ws) (hi : ws[i]? = some (b, e0)) (hk : ∀ q : Nat, q < H.size → q ≠ b → H1[q]? = H[q]?) (hc : va_at D cl (b, e1) H1) : va_P D cl (ws.set i (b, e1)) H1 := by
  have hlt : i < ws.length := (List.getElem?_eq_some_iff.mp hi).1
  intro k q hq
  by_cases h : k = i
  · subst h
    rw [List.getElem?_set_self hlt] at hq
    cases hq
    exact hc
  · rw [List.getElem?_set_ne (Ne.symm h)] at hq
    exact (hP k q hq).kept (hk _ (hP k q hq).lt (fun h9 => h (hD.1 k i q (b, e0) hq hi h9)))
theorem qw_60df5b0a2e : (Cond.methodLink R_Names 3 Lib.objectInit) ∈ bs_W0 := bs_in (in_tables_1_1 (List.mem_of_getElem? (i := 65) rfl)) rfl
theorem qw_afaed44251 : (Cond.methodLink R_Names 40 yjArrays_fill) ∈ bs_W0 := bs_in (in_tables_1_1 (List.mem_of_getElem? (i := 66) rfl)) rfl
theorem qw_03253ebdf0 : (Cond.fieldLink R_Names 49 R_Names "FIRST_NUMBERS" "[I") ∈ bs_W0 := bs_in (in_tables_1_1 (List.mem_of_getElem? (i := 71) rfl)) rfl
theorem qw_0692c45ea4 : (Cond.methodLink R_Names 52 yNames_put) ∈ bs_W0 := bs_in (in_tables_1_1 (List.mem_of_getElem? (i := 73) rfl)) rfl

theorem cmp_one {γ : gE} {Z : Nat → Prop} {ws : va_W} {H : Heap} {q0 : Nat × va_E} (hP : va_P γ.1 vwCl ws H) (i : Nat) (hi : ws[i]? = some q0) (hZ : Z q0.1) : cmp γ (fun w => w = [q0]) Z H := by
  refine ⟨_, rfl, fun k x hx => ?_, one_D hZ⟩
  cases k with
  | zero => cases hx; exact hP i _ hi
  | succ k => cases hx
theorem va_D_cons {A : Nat → Prop} {ws : va_W} {q : Nat × va_E} (hD : va_D A ws) (hq : A q.1) (hne : ∀ x ∈ ws, x.1 ≠ q.1) : va_D A (q :: ws) := by
  refine ⟨fun i j p r h1 h2 h3 => ?_, fun k r hr => ?_⟩
  · cases i with
    | zero => cases j with
      | zero => rfl
      | succ j => cases h1; exact absurd h3.symm (hne r (List.mem_of_getElem? h2))
    | succ i => cases j with
      | zero => cases h2; exact absurd h3 (hne p (List.mem_of_getElem? h1))
      | succ j => rw [hD.1 i j p r h1 h2 h3]
  · cases k with
    | zero => cases hr; exact hq
    | succ k => exact hD.2 k r hr
theorem va_P_cons {D : va_G} {cl : List vw_C} {ws : va_W} {q : Nat × va_E} {H : Heap} (hP : va_P D cl ws H) (hq : va_at D cl q H) : va_P D cl (q :: ws) H := fun k r hr => by
  cases k with
  | zero => cases hr; exact hq
  | succ k => exact hP k r hr
def oT (γ : gE) (a : Nat) : Nat → Nat
  | 0 => a
  | 1 => a + 1
  | 2 => a + 6
  | 3 => a + 14
  | 4 => a + 19
  | 5 => a + 23
  | 6 => a + 25
  | 7 => a + 31
  | 8 => a + 33
  | 9 => a + 34
  | 10 => a + 40
  | 11 => a + 42
  | 12 => a + 44
  | i => γ.2.2.2 i
def γT (γ : gE) (a : Nat) : gE := (γ.1, γ.2.1, γ.2.2.1, oT γ a)
def κT (i : Nat) : Nat := [0, 0, 12, 1, 5, 0, 64, 64, 16, 64, 64, 64, 64, 16, 16, 64].getD i 0
def rhoT (a q : Nat) : Nat := if q < a then 0 else if q < a + 1 then 1 else if q < a + 6 then 2 else if q < a + 14 then 3 else if q < a + 19 then 4 else if q < a + 23 then 5 else if q < a + 25 then 6 else if q < a + 31 then 7 else if q < a + 33 then 8 else if q < a + 34 then 1 else if q < a + 40 then 9 else if q < a + 42 then 10 else if q < a + 45 then 1 else 0
theorem rho_0 {a q : Nat} (h : iv (a + 0) (a + 1) q) : rhoT a q = 1 := by
  unfold iv at h
  unfold rhoT
  rw [if_neg (show ¬ q < a by omega), if_pos (show q < a + 1 by omega)]
theorem rho_1 {a q : Nat} (h : iv (a + 1) (a + 6) q) : rhoT a q = 2 := by
  unfold iv at h
  unfold rhoT
  rw [if_neg (show ¬ q < a by omega), if_neg (show ¬ q < a + 1 by omega), if_pos (show q < a + 6 by omega)]
theorem rho_6 {a q : Nat} (h : iv (a + 6) (a + 14) q) : rhoT a q = 3 := by
  unfold iv at h
  unfold rhoT
  rw [if_neg (show ¬ q < a by omega), if_neg (show ¬ q < a + 1 by omega), if_neg (show ¬ q < a + 6 by omega), if_pos (show q < a + 14 by omega)]
theorem rho_14 {a q : Nat} (h : iv (a + 14) (a + 19) q) : rhoT a q = 4 := by
  unfold iv at h
  unfold rhoT
  rw [if_neg (show ¬ q < a by omega), if_neg (show ¬ q < a + 1 by omega), if_neg (show ¬ q < a + 6 by omega), if_neg (show ¬ q < a + 14 by omega), if_pos (show q < a + 19 by omega)]
theorem rho_19 {a q : Nat} (h : iv (a + 19) (a + 23) q) : rhoT a q = 5 := by
  unfold iv at h
  unfold rhoT
  rw [if_neg (show ¬ q < a by omega), if_neg (show ¬ q < a + 1 by omega), if_neg (show ¬ q < a + 6 by omega), if_neg (show ¬ q < a + 14 by omega), if_neg (show ¬ q < a + 19 by omega), if_pos (show q < a + 23 by omega)]
theorem rho_23 {a q : Nat} (h : iv (a + 23) (a + 25) q) : rhoT a q = 6 := by
  unfold iv at h
  unfold rhoT
  rw [if_neg (show ¬ q < a by omega), if_neg (show ¬ q < a + 1 by omega), if_neg (show ¬ q < a + 6 by omega), if_neg (show ¬ q < a + 14 by omega), if_neg (show ¬ q < a + 19 by omega), if_neg (show ¬ q < a + 23 by omega), if_pos (show q < a + 25 by omega)]
theorem rho_25 {a q : Nat} (h : iv (a + 25) (a + 31) q) : rhoT a q = 7 := by
  unfold iv at h
  unfold rhoT
  rw [if_neg (show ¬ q < a by omega), if_neg (show ¬ q < a + 1 by omega), if_neg (show ¬ q < a + 6 by omega), if_neg (show ¬ q < a + 14 by omega), if_neg (show ¬ q < a + 19 by omega), if_neg (show ¬ q < a + 23 by omega), if_neg (show ¬ q < a + 25 by omega), if_pos (show q < a + 31 by omega)]
theorem rho_31 {a q : Nat} (h : iv (a + 31) (a + 33) q) : rhoT a q = 8 := by
  unfold iv at h
  unfold rhoT
  rw [if_neg (show ¬ q < a by omega), if_neg (show ¬ q < a + 1 by omega), if_neg (show ¬ q < a + 6 by omega), if_neg (show ¬ q < a + 14 by omega), if_neg (show ¬ q < a + 19 by omega), if_neg (show ¬ q < a + 23 by omega), if_neg (show ¬ q < a + 25 by omega), if_neg (show ¬ q < a + 31 by omega), if_pos (show q < a + 33 by omega)]
theorem rho_33 {a q : Nat} (h : iv (a + 33) (a + 34) q) : rhoT a q = 1 := by
  unfold iv at h
  unfold rhoT
  rw [if_neg (show ¬ q < a by omega), if_neg (show ¬ q < a + 1 by omega), if_neg (show ¬ q < a + 6 by omega), if_neg (show ¬ q < a + 14 by omega), if_neg (show ¬ q < a + 19 by omega), if_neg (show ¬ q < a + 23 by omega), if_neg (show ¬ q < a + 25 by omega), if_neg (show ¬ q < a + 31 by omega), if_neg (show ¬ q < a + 33 by omega), if_pos (show q < a + 34 by omega)]
theorem rho_34 {a q : Nat} (h : iv (a + 34) (a + 40) q) : rhoT a q = 9 := by
  unfold iv at h
  unfold rhoT
  rw [if_neg (show ¬ q < a by omega), if_neg (show ¬ q < a + 1 by omega), if_neg (show ¬ q < a + 6 by omega), if_neg (show ¬ q < a + 14 by omega), if_neg (show ¬ q < a + 19 by omega), if_neg (show ¬ q < a + 23 by omega), if_neg (show ¬ q < a + 25 by omega), if_neg (show ¬ q < a + 31 by omega), if_neg (show ¬ q < a + 33 by omega), if_neg (show ¬ q < a + 34 by omega), if_pos (show q < a + 40 by omega)]
theorem rho_40 {a q : Nat} (h : iv (a + 40) (a + 42) q) : rhoT a q = 10 := by
  unfold iv at h
  unfold rhoT
  rw [if_neg (show ¬ q < a by omega), if_neg (show ¬ q < a + 1 by omega), if_neg (show ¬ q < a + 6 by omega), if_neg (show ¬ q < a + 14 by omega), if_neg (show ¬ q < a + 19 by omega), if_neg (show ¬ q < a + 23 by omega), if_neg (show ¬ q < a + 25 by omega), if_neg (show ¬ q < a + 31 by omega), if_neg (show ¬ q < a + 33 by omega), if_neg (show ¬ q < a + 34 by omega), if_neg (show ¬ q < a + 40 by omega), if_pos (show q < a + 42 by omega)]
theorem rho_42 {a q : Nat} (h : iv (a + 42) (a + 45) q) : rhoT a q = 1 := by
  unfold iv at h
  unfold rhoT
  rw [if_neg (show ¬ q < a by omega), if_neg (show ¬ q < a + 1 by omega), if_neg (show ¬ q < a + 6 by omega), if_neg (show ¬ q < a + 14 by omega), if_neg (show ¬ q < a + 19 by omega), if_neg (show ¬ q < a + 23 by omega), if_neg (show ¬ q < a + 25 by omega), if_neg (show ¬ q < a + 31 by omega), if_neg (show ¬ q < a + 33 by omega), if_neg (show ¬ q < a + 34 by omega), if_neg (show ¬ q < a + 40 by omega), if_neg (show ¬ q < a + 42 by omega), if_pos (show q < a + 45 by omega)]
theorem rho_A {a q : Nat} (h : rhoT a q ≠ 0) : a ≤ q := by
  by_cases h9 : q < a
  · exact absurd (if_pos h9) h
  · omega
