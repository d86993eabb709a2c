-- ===== end of PART A; then your names; then what follows =====
/-! THE CLAIM OUT OF ONE WALK OF THE LAW'S BODY. Your part is whole_start (and what it stands on); all else here is the same for every law, but numbers. -/
def R_law : String := "TypeBookLaw"
def lw_P (b : Addr) (xs : List Int32) (args : Array Value) (s : State) : Prop := args = #[.ref b] ∧ s.IntsAt b xs ∧ xs.length ≤ 2560 ∧ (Jvm.Cond.and given_1 narrow_1).before args s = true
def lw_Q (_ : Array Value) (s : State) (o : Outcome) (t : State) : Prop := o = .returned (some (.int 1)) ∧ Framed s o t [] 601024 7293034
def lw_Z (below : List Frame) (a : Array Value) (s : State) : State → Prop := fun t => ∃ o, t.status = .running ∧ Ended t below o ∧ lw_Q a s o t
/-- the law's own end, with 1 on the stack, nothing written that was there before, its room as the claim has it -/
theorem lw_ret {p : Program} {l : Launch} {e : Env} {s : State} {m : MethodId} {below : List Frame} {meth : Method} {c : Code} {b : Nat} (hx : p.tables.exec = Jvm.exec) (hb : c.code = code) (hr : meth.sig.returnType = ret) (hlocks : meth.locks = false) {pc : Nat} {H : Heap} {ls : Array Slot} (hdg : decode code pc = .ok (.ireturn, 1)) : W p l e room_1 s m #[Value.ref b] below meth c H [] 601024 7293034 (lw_Z below #[Value.ref b] s) (F0 m pc ls [.int 1]) := by
  intro T hT X
  obtain ⟨fs, hret, hrun, hended, hW, hframe⟩ := X.leave (v := some (.int 1)) (hlocks := hlocks) (fun h => by rw [hr] at h; cases h)
  have hmeth' : T.vm.method? m = some meth := X.method'
  refine ⟨T.setFrames fs, ?_, .returned (some (.int 1)), hrun, hended, rfl, ⟨_, rfl⟩, hW, hframe⟩
  jvm_step X.here [X.here.top, hx, hb, hdg, hmeth', hr, ret, narrow_b1]
  (try refine ⟨rfl, ?_⟩); (try refine ⟨rfl, ?_⟩)
  first | (intro acts; rw [hret _ acts rfl rfl rfl]) | rw [hret _ _ rfl rfl rfl]
  exact Steps.refl _
/-- what holds at the law's entry: the machine, the code, the tables' words (any of lw_tbl by 'hts w (by decide +kernel)'), the script of L ints xs at the cell b, what the Statement gives of the start (any of its parts by flat_of_before) -/
def lw_At (p : Program) (s : State) (m : MethodId) (meth : Method) (c : Code) (b L : Nat) (xs : Nat → Int32) : Prop :=
  p.tables.exec = Jvm.exec ∧ c.code = code ∧ meth.sig.returnType = ret ∧ c.maxLocals = 7 ∧ s.vm.findClass R_law = some m.cls ∧ (∀ w ∈ lw_tbl, w.before #[Value.ref b] s = true) ∧ va_X b L xs s s.heap ∧ b < s.heap.size ∧ meth.locks = false ∧ (Jvm.Cond.and given_1 narrow_1).before #[Value.ref b] s = true
-- THE LAW's own methods: they have tables
abbrev R_Law : String := R_law
abbrev WM (l : Launch) (y : MethodName) (bytes : ByteArray) (maxL : Nat) (hh : List (Nat × Nat × Nat × Nat)) (fr lo mc ms : Nat) (av : List Value) (γ : gE) (A : Nat → Prop) (PS : State → Prop) (Qc : Array Value → State → Outcome → State → Prop) : Prop :=
  Met l y (Cond.codeWith y bytes maxL (some .int) hh :: bs_W0) (bs_rm fr mc ms lo) (va_Pc av (fun U => CX γ U ∧ (∀ q, U.heap.size ≤ q → A q) ∧ PS U)) Qc mc ms A
def bs_Mw (y : MethodName) (bytes : ByteArray) (maxL : Nat) (hh : List (Nat × Nat × Nat × Nat)) (n : Nat) : Prop :=
  Cond.static y ∈ bs_W0 ∧ Cond.initialized y.cls ∈ bs_W0 ∧ Cond.codeWith y bytes maxL (some .int) hh ∈ bs_W0 ∧ (y.cls ≠ "java/lang/invoke/MethodHandle" ∧ y.cls ≠ "java/lang/invoke/VarHandle" ∧ (parseMethodDescriptor y.desc).map (fun d => d.parameters.length) = some n)
/-- the law's row of one long -/
def OU (γ : gE) (o : Nat) (g : Nat → Int64) (H : Heap) : Prop := va_P γ.1 vwCl [(o, .inl (γ.2.2.1, 1, .inr (.inl g)))] H
theorem OU.lt {γ : gE} {o : Nat} {g : Nat → Int64} {H : Heap} (h : OU γ o g H) : o < H.size := (h 0 _ rfl).lt
theorem OU.kept {γ : gE} {o : Nat} {g : Nat → Int64} {H H1 : Heap} (h : OU γ o g H) (hq : H1[o]? = H[o]?) : OU γ o g H1 := va_P.kept h (fun k x hx => by
  have hz : k < 1 := (List.getElem?_eq_some_iff.mp hx).1
  rw [show k = 0 by omega] at hx
  cases hx
  exact hq)
section LWB
variable {p : Program} {l : Launch} {e : Env} {R : Room} {s : State} {m : MethodId} {args : Array Value} {below : List Frame} {meth : Method} {c : Code} {H H0 : Heap} {locs : List Loc} {cells slots : Nat} {Q : State → Prop} {T : State}
variable {y : MethodName} {bytes cc : ByteArray} {maxL nL mc ms n index fr lo : Nat} {own : String} {As rest st0 av : List Value} {pc : Nat} {ls : Array Slot} {γ : gE} {PS : State → Prop} {A A0 : Nat → Prop} {hh : List (Nat × Nat × Nat × Nat)}
theorem wm_open {PO : Int32 → Heap → Prop} (hy : plainName y.cls = true) (hn : (lg_sl av).length ≤ maxL)
    (body : ∀ (p : Program) (e : Env) (s : State) (m : MethodId) (args : Array Value) (below : List Frame) (meth : Method) (c : Code) (ls : Array Slot) (Q : State → Prop), bs_F p s m args c bytes maxL y.cls → c.exceptionTable.toList.map (fun h => (h.startPc, h.endPc, h.handlerPc, h.catchType)) = hh → CX γ s → (∀ q, s.heap.size ≤ q → A q) → PS s → (∀ (H : Heap) (locs : List Loc) (cells slots : Nat) (v : Int32) (pc : Nat) (ls : Array Slot), va_S A s.heap H locs → cells ≤ mc → slots ≤ ms → PO v H → decode bytes pc = .ok (.ireturn, 1) → W p l e (bs_rm fr mc ms lo) s m args below meth c H locs cells slots Q (F0 m pc ls [.int v])) → lv_has ls maxL (lv_args 0 av) → W p l e (bs_rm fr mc ms lo) s m args below meth c s.heap [] 0 0 Q (F0 m 0 ls [])) : WM l y bytes maxL hh fr lo mc ms av γ A PS (mQi PO A) := by
  refine va_MetW (cc := bytes) (maxL := maxL) (ret := some .int) (hh := hh) hy rfl ?_
  intro p e s m args below meth c s₁ B hml hv
  obtain ⟨rfl, hC, hA, hP⟩ := hv
  have hall := atoms_spec (ws := Cond.codeWith y bytes maxL (some .int) hh :: bs_W0) B.pre
  have hts := bs_hts hall
  obtain ⟨m9, meth9, c9, hn9, h1, h2, -, -, h5, -⟩ := Cond.codeWith_spec (hall _ List.mem_cons_self)
  have X := Stand.of_body B
  have hX : c.exceptionTable.toList.map (fun h => (h.startPc, h.endPc, h.handlerPc, h.catchType)) = hh := by
    cases Option.some.inj (B.named.symm.trans hn9)
    cases Option.some.inj (B.method.symm.trans h1)
    cases Option.some.inj (X.code.symm.trans h2)
    exact h5
  have hl := lv_entry av (n := maxL) hn
  rw [lg_entry_eq]
  refine body p e s m _ below meth c _ _ ⟨B.exec, B.bytes, hml, findClass_of_methodNamed B.named, hts⟩ hX hC hA hP (fun H locs cells slots v pc ls hS k1 k2 hp hdg => ?_) hl
  refine W.up k1 k2 ?_
  exact W.iret B.exec B.bytes B.returns (fun t ht _ => ⟨⟨v, v, rfl, rfl, by show PO v t.heap; rw [ht]; exact hp⟩, hS.F ht⟩) hS.2.2 hdg B.notSynchronized
theorem callSW (X : Stand p l e R s m args below meth c T locs cells slots) (hexec : p.tables.exec = Jvm.exec) {ret : Option FieldType}
    (hown : s.vm.findClass own = some m.cls) (hlink : (Cond.methodLink own index y).before args s = true) (hstat : (Cond.static y).before args s = true) (hinit : (Cond.initialized y.cls).before args s = true)
    (hcode : (Cond.codeWith y bytes maxL ret hh).before args s = true) (hy : y.cls ≠ "java/lang/invoke/MethodHandle" ∧ y.cls ≠ "java/lang/invoke/VarHandle")
    {W : Nat} {Pre : Pt → Array Value → Prop} {Post : Pt → Array Value → Option Value → Pt → Prop} (hK : Back l R p e below s args y 3 W Pre Post)
    {g : JFrame} (hg : g.method = m) (hsize : g.locals.size = c.maxLocals) {argsL rest : List Value} (hlen : ∀ sig, parseMethodDescriptor y.desc = some sig → argsL.length = sig.parameters.length)
    (hstack : g.stack = argsL.reverse ++ rest) (hW : 2 * g.monitorRoom + (rest.map fun v => v.category).sum ≤ W) (hdg : decode c.code g.pc = .ok (.invokestatic index, 3))
    (hpre : ∀ vm₁, s.WarmedH vm₁ → Pre ⟨T.setVm vm₁, locs, cells, slots⟩ argsL.toArray) :
    ∃ (v : Option Value) (vm₁ : Vm) (B : Pt), s.WarmedH vm₁ ∧ Stand p l e R s m args below meth c B.U B.locs B.cells B.slots ∧ Post ⟨T.setVm vm₁, locs, cells, slots⟩ argsL.toArray v B ∧
      ∀ target, Steps p.tables e below (B.U.setTop { g with pc := g.pc + 3, stack := v.toList ++ rest }) target → Steps p.tables e below (T.setTop g) target := by
  obtain ⟨mk, methM, cM, hnamed, hmethM, -, -, -, -, -, -, hsigM⟩ := Cond.codeWith_spec hcode
  have hstatic : methM.isStatic = true := Cond.static_spec hnamed hmethM hstat
  obtain ⟨kP, hkP, -⟩ := className_of_methodNamed hnamed
  have hinitP : kP.init = .initialized := Cond.initialized_spec (findClass_of_methodNamed hnamed) hkP hinit
  obtain ⟨vm₁, X₁, hstep₁⟩ := X.invokestatic hexec hown hlink hnamed hmethM hstatic hkP hinitP hy (g := g) hg (argsL := argsL) (rest := rest) (hlen _ hsigM) hstack hdg
  obtain ⟨v, B, X', hpost, hsteps⟩ := hK m meth c ⟨T.setVm vm₁, locs, cells, slots⟩ { g with stack := rest } (.invokestatic index) mk argsL.toArray X₁ hg hsize hdg hW (X₁.named hnamed) (hpre vm₁ X₁.warmed)
  exact ⟨v, vm₁, B, X₁.warmed, X', hpost, fun target h => hstep₁ _ fun acts => by rw [doInvoke_state]; exact hsteps.trans h⟩
theorem wm_Si {PO : Int32 → Heap → Prop} (S : bs_F p s m args c cc nL own) (hC : CX γ s) (hA : ∀ q, H.size ≤ q → A q) (hAA : ∀ q, A q → A0 q) (hS : va_S A0 H0 H locs) (hM : WM l y bytes maxL hh fr lo mc ms As γ A PS (mQi PO A)) (hbl : ∀ u U : State, u.vm = U.vm → u.heap = U.heap → PS u → PS U) (me : bs_Mw y bytes maxL hh n) (lk : Cond.methodLink own index y ∈ bs_W0) (hR : fr + 1 ≤ R.frames ∧ 8 + (maxL + 11) + lo ≤ R.locals) (hPS : ∀ U : State, U.heap = H → s.WarmedH U.vm → PS U) (hn : As.length = n) (hsz : ls.size = nL) (hst : st0 = As.reverse ++ rest) (hrm : (rest.map fun v => v.category).sum ≤ 8) (hdg : decode cc pc = .ok (.invokestatic index, 3)) (hf : cells + mc ≤ R.cells ∧ slots + ms ≤ R.slots)
    (kk : ∀ (r : Int32) (H1 : Heap) (locs1 : List Loc), PO r H1 → va_S A0 H0 H1 locs1 → H.size ≤ H1.size → (∀ q : Nat, q < H.size → ¬ A q → H1[q]? = H[q]?) → W p l e R s m args below meth c H1 locs1 (cells + mc) (slots + ms) Q (F0 m (pc + 3) ls (.int r :: rest))) : W p l e R s m args below meth c H locs cells slots Q (F0 m pc ls st0) := by
  obtain ⟨m1, m3, m4, m5, m6, m7⟩ := me
  have hW := S.2.2.2.2
  have hws : ∀ w ∈ Cond.codeWith y bytes maxL (some .int) hh :: bs_W0, ∀ (a' : Array Value) (U : State), s.WarmedH U.vm → w.before a' U = true := fun w hw a' U hWU => by
    rcases List.mem_cons.mp hw with rfl | hw
    · exact word_at hWU (good_of_word (List.mem_filter.mp m4).2) (hW _ m4)
    · exact word_at hWU (good_of_word (List.mem_filter.mp hw).2) (hW _ hw)
  have hK : Back l R p e below s args y 3 8 (PreOf R mc ms _) (PostOf (mQi PO A) mc ms A) := va_backW (hh := hh) (bytes := bytes) (maxL := maxL) (ret := some .int) hM (tx_blind hbl) rfl rfl hR.1 hR.2 hws List.mem_cons_self (fun a' U hWU => word_at hWU (good_of_word (List.mem_filter.mp m3).2) (hW _ m3))
  have hRun : va_Run p l e R s m args below meth c H locs cells slots mc ms (F0 m pc ls st0) rest (mQi PO A As.toArray) A := by
    obtain ⟨hx, hb, hml, ho, -⟩ := S
    intro T hT X
    obtain ⟨v, vm₁, ⟨U', l2, c2, s2⟩, hW₁, X', ⟨g', mk, t, L, e1, e2, hq, h1, hL, h2, h3⟩, st⟩ := callSW X hx (bytes := bytes) (maxL := maxL) (ret := some .int) (hh := hh) ho (hW _ lk) (hW _ m1) (hW _ m3) (hW _ m4) ⟨m5, m6⟩ hK (g := F0 m pc ls st0) rfl (hsz.trans hml.symm) (argsL := As) (rest := rest) (fun sig h => by
      rw [h] at m7
      exact hn.trans (Option.some.inj m7).symm) hst (lv_room hrm) (by rw [hb]; exact hdg)
      (fun vm₁ hW₁ => ⟨hf.1, hf.2, rfl, hC.warm hW₁, by show ∀ q, T.heap.size ≤ q → A q; rw [hT]; exact hA, hPS (T.setVm vm₁) hT hW₁⟩)
    dsimp only [Pt.U, Pt.locs, Pt.cells, Pt.slots] at X' e1 e2 h1 h2 h3 st
    subst h1; subst h2; subst h3
    exact ⟨v, (T.setVm vm₁).calling g' mk As.toArray, t, U', L, hT, X', hL, e1, e2, hq, st⟩
  exact va_calli hRun hS (fun q _ h => hAA q h) hAA (fun r u t H1 locs1 ht _ hw hB hz hk hS1 => kk r H1 locs1 (by cases hw; rw [← ht]; exact hB) hS1 hz hk)
theorem ou_st {o : Nat} {g : Nat → Int64} (S : bs_F p s m args c cc nL own) (hC : CX γ s) (hO : OU γ o g H) (ho : A o) (hS : va_S A H0 H locs) {x : Int64} (hdg : decode cc pc = .ok (.lastore, 1))
    (kk : ∀ (H1 : Heap) (locs1 : List Loc), OU γ o (vp_updL g 0 x) H1 → va_S A H0 H1 locs1 → H1.size = H.size → (∀ q, q ≠ o → H1[q]? = H[q]?) → W p l e R s m args below meth c H1 locs1 cells slots Q (F0 m (pc + 1) ls rest)) : W p l e R s m args below meth c H locs cells slots Q (F0 m pc ls (.long x :: .int 0 :: .ref o :: rest)) := by
  refine W.last S.1 S.2.1 (hO 0 _ rfl) ((hC.1.2 1 _ rfl).1 1 (fun j => .long (g j))) (fun q => by cases q) (by show ¬ ((0 : Int32) < 0 ∨ (arrV _ _ _).slots.size ≤ _); rw [arrV_size]; exact (vp_in_nI (n := 0) (N := 1) (by omega) (by omega))) rfl rfl hdg fun H1 e z oq => ?_
  refine kk H1 _ ?_ (hS.put z oq ho) z oq
  intro k x9 hx9
  have hz : k < 1 := (List.getElem?_eq_some_iff.mp hx9).1
  rw [show k = 0 by omega] at hx9
  cases hx9
  show H1[o]? = some (vp_cell _ _)
  rw [e]
  show some ((vp_cell γ.2.2.1 (1, .inr (.inl g))).setSlot _ _) = _
  rw [vp_cell_l, vp_cell_l, arrV_store]
  congr 2
  funext q
  by_cases hq : q = 0
  · subst hq
    simp [updV, vp_updL]
  · simp [updV, vp_updL, hq]
theorem ou_ld {o : Nat} {g : Nat → Int64} (S : bs_F p s m args c cc nL own) (hC : CX γ s) (hO : OU γ o g H) (hdg : decode cc pc = .ok (.laload, 1))
    (kk : W p l e R s m args below meth c H locs cells slots Q (F0 m (pc + 1) ls (.long (g 0) :: rest))) : W p l e R s m args below meth c H locs cells slots Q (F0 m pc ls (.int 0 :: .ref o :: rest)) :=
  va_lald S.1 S.2.1 hC.1 hO 0 1 rfl rfl (i := 0) (vp_in_nI (n := 0) (N := 1) (by omega) (by omega)) hdg kk
end LWB
theorem gr_st {γ : gE} {o k n : Nat} {g g' : Nat → Int64} {H0 H H1 : Heap} (h : GR H0 H k n) (hO : OU γ o g H) (hO1 : OU γ o g' H1) (hz : H1.size = H.size) (hq : ∀ q, q ≠ o → H1[q]? = H[q]?) : GR H0 H1 k n := by
  have h1 : GR H H1 0 0 := by
    refine ⟨Nat.le_of_eq hz.symm, by omega, ?_, fun a c hc => ?_⟩
    · unfold gsum
      rw [List.drop_eq_nil_of_le (Nat.le_of_eq (by simp [hz]))]
      exact Nat.le_refl _
    · by_cases ha : a = o
      · subst ha
        have e1 : H[a]? = some (vp_cell γ.2.2.1 (1, .inr (.inl g))) := hO 0 _ rfl
        have e2 : H1[a]? = some (vp_cell γ.2.2.1 (1, .inr (.inl g'))) := hO1 0 _ rfl
        cases Option.some.inj (e1.symm.trans hc)
        exact ⟨_, e2, by rw [vp_cell_l, vp_cell_l, arrV_size, arrV_size]⟩
      · exact ⟨c, (hq a ha).trans hc, rfl⟩
  exact h.trans h1
theorem inv_off {γ : gE} {A : Nat → Prop} {κ : Nat → Nat} {H H1 : Heap} (hI : INV γ A κ H) (hk : ∀ q : Nat, A q → q < H.size → H1[q]? = H[q]?) : INV γ A κ H1 := by
  obtain ⟨ρ, hρ, hc⟩ := hI
  exact ⟨ρ, hρ, fun i h1 h2 => cmp_kept (hc i h1 h2) (fun q hq h => hk q (hρ q (by rw [hq]; omega)) h) (fun q h _ => h)⟩
theorem pb_st {γ : gE} {A : Nat → Prop} {κ : Nat → Nat} {H0 H H1 : Heap} {rel : (Nat → Nat) → Prop} {o : Nat} {g g' : Nat → Int64} (h : PB γ A κ H0 rel H) (ho : ¬ A o) (hO : OU γ o g H) (hO1 : OU γ o g' H1) (hz : H1.size = H.size) (hq : ∀ q, q ≠ o → H1[q]? = H[q]?) : PB γ A κ H0 rel H1 := by
  obtain ⟨κ', hI, hr, hp, hG⟩ := h
  exact ⟨κ', inv_off hI (fun q h1 _ => hq q (fun e => ho (by rw [← e]; exact h1))), hr, hp, gr_st hG hO hO1 hz hq⟩
theorem PB.mono {γ : gE} {A : Nat → Prop} {κ : Nat → Nat} {H0 H : Heap} {rel rel' : (Nat → Nat) → Prop} (h : PB γ A κ H0 rel H) (hr : ∀ k, rel k → rel' k) : PB γ A κ H0 rel' H := by
  obtain ⟨κ', hI, h1, h2⟩ := h
  exact ⟨κ', hI, hr _ h1, h2⟩
abbrev xIAE : String := "java/lang/IllegalArgumentException"
abbrev xISE : String := "java/lang/IllegalStateException"
abbrev xIOB : String := "java/lang/IndexOutOfBoundsException"
def NCs (s0 : State) : Prop := va_Nc xISE xIAE s0 ∧ va_Nc xISE xIOB s0 ∧ va_Nc xIAE xIOB s0
def PSx (s0 : State) (H0 : Heap) (γ : gE) (A : Nat → Prop) (κ : Nat → Nat) (U : State) : Prop := FB s0 U U.heap ∧ U.heap = H0 ∧ INV γ A κ U.heap
theorem psx_bl {s0 : State} {H0 : Heap} {γ : gE} {A : Nat → Prop} {κ : Nat → Nat} : ∀ u U : State, u.vm = U.vm → u.heap = U.heap → (FB s0 u u.heap ∧ u.heap = H0 ∧ INV γ A κ u.heap) → (FB s0 U U.heap ∧ U.heap = H0 ∧ INV γ A κ U.heap) := fun u U hv hh h => ⟨by rw [← hh]; exact h.1.same hv, by rw [← hh]; exact h.2.1, by rw [← hh]; exact h.2.2⟩
/-- what a wrapping method asks -/
def PSw (s0 : State) (H0 : Heap) (γ : gE) (A : Nat → Prop) (κ : Nat → Nat) (o : Nat) (g : Nat → Int64) (U : State) : Prop := FB s0 U U.heap ∧ U.heap = H0 ∧ INV γ A κ U.heap ∧ OU γ o g U.heap ∧ ∀ q, U.heap.size ≤ q → A q
theorem psw_bl {s0 : State} {H0 : Heap} {γ : gE} {A : Nat → Prop} {κ : Nat → Nat} {o : Nat} {g : Nat → Int64} : ∀ u U : State, u.vm = U.vm → u.heap = U.heap → PSw s0 H0 γ A κ o g u → PSw s0 H0 γ A κ o g U := fun u U hv hh h => ⟨by rw [← hh]; exact h.1.same hv, by rw [← hh]; exact h.2.1, by rw [← hh]; exact h.2.2.1, by rw [← hh]; exact h.2.2.2.1, by rw [← hh]; exact h.2.2.2.2⟩
abbrev bLaw_add : ByteArray := method_3_code
def yLaw_add : MethodName := ⟨R_Law, "add", "(LTypeBook;III[J)I"⟩
abbrev hLaw_add : List (Nat × Nat × Nat × Nat) := [(0, 12, 15, 13), (0, 12, 19, 15)]
theorem meLaw_add : bs_Mw yLaw_add bLaw_add 6 hLaw_add 5 := ⟨bs_in (in_tables_1_2 (List.mem_of_getElem? (i := 87) rfl)) rfl, bs_in (in_tables_1_1 (List.mem_of_getElem? (i := 0) rfl)) rfl, bs_in (in_tables_1_2 (List.mem_of_getElem? (i := 88) rfl)) rfl, by decide, by decide, by decide +kernel⟩
abbrev bLaw_enter : ByteArray := method_4_code
def yLaw_enter : MethodName := ⟨R_Law, "enter", "(LTypeBook;[J)I"⟩
abbrev hLaw_enter : List (Nat × Nat × Nat × Nat) := [(0, 8, 11, 15)]
theorem meLaw_enter : bs_Mw yLaw_enter bLaw_enter 3 hLaw_enter 2 := ⟨bs_in (in_tables_1_2 (List.mem_of_getElem? (i := 231) rfl)) rfl, bs_in (in_tables_1_1 (List.mem_of_getElem? (i := 0) rfl)) rfl, bs_in (in_tables_1_2 (List.mem_of_getElem? (i := 232) rfl)) rfl, by decide, by decide, by decide +kernel⟩
abbrev bLaw_leave : ByteArray := method_5_code
def yLaw_leave : MethodName := ⟨R_Law, "leave", "(LTypeBook;[J)I"⟩
abbrev hLaw_leave : List (Nat × Nat × Nat × Nat) := [(0, 8, 11, 15)]
theorem meLaw_leave : bs_Mw yLaw_leave bLaw_leave 3 hLaw_leave 2 := ⟨bs_in (in_tables_1_3 (List.mem_of_getElem? (i := 3) rfl)) rfl, bs_in (in_tables_1_1 (List.mem_of_getElem? (i := 0) rfl)) rfl, bs_in (in_tables_1_3 (List.mem_of_getElem? (i := 4) rfl)) rfl, by decide, by decide, by decide +kernel⟩
abbrev bLaw_type : ByteArray := method_6_code
def yLaw_type : MethodName := ⟨R_Law, "type", "(LTypeBook;I[J)I"⟩
abbrev hLaw_type : List (Nat × Nat × Nat × Nat) := [(0, 9, 12, 28), (0, 9, 15, 15)]
theorem meLaw_type : bs_Mw yLaw_type bLaw_type 4 hLaw_type 3 := ⟨bs_in (in_tables_1_3 (List.mem_of_getElem? (i := 15) rfl)) rfl, bs_in (in_tables_1_1 (List.mem_of_getElem? (i := 0) rfl)) rfl, bs_in (in_tables_1_3 (List.mem_of_getElem? (i := 16) rfl)) rfl, by decide, by decide, by decide +kernel⟩
abbrev bLaw_enumeration : ByteArray := method_7_code
def yLaw_enumeration : MethodName := ⟨R_Law, "enumeration", "(LTypeBook;I[J)I"⟩
abbrev hLaw_enumeration : List (Nat × Nat × Nat × Nat) := [(0, 9, 12, 28), (0, 9, 15, 15)]
theorem meLaw_enumeration : bs_Mw yLaw_enumeration bLaw_enumeration 4 hLaw_enumeration 3 := ⟨bs_in (in_tables_1_5 (List.mem_of_getElem? (i := 11) rfl)) rfl, bs_in (in_tables_1_1 (List.mem_of_getElem? (i := 0) rfl)) rfl, bs_in (in_tables_1_5 (List.mem_of_getElem? (i := 12) rfl)) rfl, by decide, by decide, by decide +kernel⟩
abbrev bLaw_subtype : ByteArray := method_8_code
def yLaw_subtype : MethodName := ⟨R_Law, "subtype", "(LTypeBook;II[J)I"⟩
abbrev hLaw_subtype : List (Nat × Nat × Nat × Nat) := [(0, 10, 13, 28), (0, 10, 17, 13), (0, 10, 21, 15)]
theorem meLaw_subtype : bs_Mw yLaw_subtype bLaw_subtype 5 hLaw_subtype 4 := ⟨bs_in (in_tables_1_5 (List.mem_of_getElem? (i := 45) rfl)) rfl, bs_in (in_tables_1_1 (List.mem_of_getElem? (i := 0) rfl)) rfl, bs_in (in_tables_1_5 (List.mem_of_getElem? (i := 46) rfl)) rfl, by decide, by decide, by decide +kernel⟩
abbrev bLaw_declare : ByteArray := method_9_code
def yLaw_declare : MethodName := ⟨R_Law, "declare", "(LTypeBook;IIII[J)I"⟩
abbrev hLaw_declare : List (Nat × Nat × Nat × Nat) := [(0, 14, 17, 28), (0, 14, 21, 13), (0, 14, 25, 15)]
theorem meLaw_declare : bs_Mw yLaw_declare bLaw_declare 7 hLaw_declare 6 := ⟨bs_in (in_tables_1_5 (List.mem_of_getElem? (i := 55) rfl)) rfl, bs_in (in_tables_1_1 (List.mem_of_getElem? (i := 0) rfl)) rfl, bs_in (in_tables_1_5 (List.mem_of_getElem? (i := 56) rfl)) rfl, by decide, by decide, by decide +kernel⟩
abbrev bLaw_check : ByteArray := method_10_code
def yLaw_check : MethodName := ⟨R_Law, "check", "(LTypeBook;II[J)I"⟩
abbrev hLaw_check : List (Nat × Nat × Nat × Nat) := [(0, 10, 13, 28)]
theorem meLaw_check : bs_Mw yLaw_check bLaw_check 5 hLaw_check 4 := ⟨bs_in (in_tables_1_5 (List.mem_of_getElem? (i := 97) rfl)) rfl, bs_in (in_tables_1_1 (List.mem_of_getElem? (i := 0) rfl)) rfl, bs_in (in_tables_1_5 (List.mem_of_getElem? (i := 98) rfl)) rfl, by decide, by decide, by decide +kernel⟩
abbrev bLaw_typeOf : ByteArray := method_11_code
def yLaw_typeOf : MethodName := ⟨R_Law, "typeOf", "(LTypeBook;II[J)I"⟩
abbrev hLaw_typeOf : List (Nat × Nat × Nat × Nat) := [(0, 10, 13, 28)]
theorem meLaw_typeOf : bs_Mw yLaw_typeOf bLaw_typeOf 5 hLaw_typeOf 4 := ⟨bs_in (in_tables_1_5 (List.mem_of_getElem? (i := 105) rfl)) rfl, bs_in (in_tables_1_1 (List.mem_of_getElem? (i := 0) rfl)) rfl, bs_in (in_tables_1_5 (List.mem_of_getElem? (i := 106) rfl)) rfl, by decide, by decide, by decide +kernel⟩
abbrev bLaw_about : ByteArray := method_12_code
def yLaw_about : MethodName := ⟨R_Law, "about", "(LTypeBook;II[J)I"⟩
abbrev hLaw_about : List (Nat × Nat × Nat × Nat) := [(0, 10, 13, 28)]
theorem meLaw_about : bs_Mw yLaw_about bLaw_about 5 hLaw_about 4 := ⟨bs_in (in_tables_1_5 (List.mem_of_getElem? (i := 118) rfl)) rfl, bs_in (in_tables_1_1 (List.mem_of_getElem? (i := 0) rfl)) rfl, bs_in (in_tables_1_5 (List.mem_of_getElem? (i := 119) rfl)) rfl, by decide, by decide, by decide +kernel⟩
abbrev bLaw_value : ByteArray := method_13_code
def yLaw_value : MethodName := ⟨R_Law, "value", "(LTypeBook;II[J)I"⟩
abbrev hLaw_value : List (Nat × Nat × Nat × Nat) := [(0, 10, 13, 28), (0, 10, 17, 15)]
theorem meLaw_value : bs_Mw yLaw_value bLaw_value 5 hLaw_value 4 := ⟨bs_in (in_tables_1_5 (List.mem_of_getElem? (i := 130) rfl)) rfl, bs_in (in_tables_1_1 (List.mem_of_getElem? (i := 0) rfl)) rfl, bs_in (in_tables_1_5 (List.mem_of_getElem? (i := 131) rfl)) rfl, by decide, by decide, by decide +kernel⟩
abbrev bLaw_law : ByteArray := code
theorem dLaw_add_0 : decode bLaw_add 0 = .ok (.aload 4, 2) := by decide +kernel
theorem dLaw_add_2 : decode bLaw_add 2 = .ok (.iconst 0, 1) := by decide +kernel
theorem dLaw_add_3 : decode bLaw_add 3 = .ok (.aload_n 0, 1) := by decide +kernel
theorem dLaw_add_4 : decode bLaw_add 4 = .ok (.iload_n 1, 1) := by decide +kernel
theorem dLaw_add_5 : decode bLaw_add 5 = .ok (.iload_n 2, 1) := by decide +kernel
theorem dLaw_add_6 : decode bLaw_add 6 = .ok (.iload_n 3, 1) := by decide +kernel
theorem dLaw_add_7 : decode bLaw_add 7 = .ok (.invokevirtual 7, 3) := by decide +kernel
theorem dLaw_add_10 : decode bLaw_add 10 = .ok (.i2l, 1) := by decide +kernel
theorem dLaw_add_11 : decode bLaw_add 11 = .ok (.lastore, 1) := by decide +kernel
theorem dLaw_add_12 : decode bLaw_add 12 = .ok (.goto 11, 3) := by decide +kernel
theorem dLaw_add_15 : decode bLaw_add 15 = .ok (.astore 5, 2) := by decide +kernel
theorem dLaw_add_17 : decode bLaw_add 17 = .ok (.iconst 1, 1) := by decide +kernel
theorem dLaw_add_18 : decode bLaw_add 18 = .ok (.ireturn, 1) := by decide +kernel
theorem dLaw_add_19 : decode bLaw_add 19 = .ok (.astore 5, 2) := by decide +kernel
theorem dLaw_add_21 : decode bLaw_add 21 = .ok (.iconst 2, 1) := by decide +kernel
theorem dLaw_add_22 : decode bLaw_add 22 = .ok (.ireturn, 1) := by decide +kernel
theorem dLaw_add_23 : decode bLaw_add 23 = .ok (.iconst 0, 1) := by decide +kernel
theorem dLaw_add_24 : decode bLaw_add 24 = .ok (.ireturn, 1) := by decide +kernel
theorem dLaw_enter_0 : decode bLaw_enter 0 = .ok (.aload_n 1, 1) := by decide +kernel
theorem dLaw_enter_1 : decode bLaw_enter 1 = .ok (.iconst 0, 1) := by decide +kernel
theorem dLaw_enter_2 : decode bLaw_enter 2 = .ok (.aload_n 0, 1) := by decide +kernel
theorem dLaw_enter_3 : decode bLaw_enter 3 = .ok (.invokevirtual 17, 3) := by decide +kernel
theorem dLaw_enter_6 : decode bLaw_enter 6 = .ok (.i2l, 1) := by decide +kernel
theorem dLaw_enter_7 : decode bLaw_enter 7 = .ok (.lastore, 1) := by decide +kernel
theorem dLaw_enter_8 : decode bLaw_enter 8 = .ok (.goto 6, 3) := by decide +kernel
theorem dLaw_enter_11 : decode bLaw_enter 11 = .ok (.astore_n 2, 1) := by decide +kernel
theorem dLaw_enter_12 : decode bLaw_enter 12 = .ok (.iconst 1, 1) := by decide +kernel
theorem dLaw_enter_13 : decode bLaw_enter 13 = .ok (.ireturn, 1) := by decide +kernel
theorem dLaw_enter_14 : decode bLaw_enter 14 = .ok (.iconst 0, 1) := by decide +kernel
theorem dLaw_enter_15 : decode bLaw_enter 15 = .ok (.ireturn, 1) := by decide +kernel
theorem dLaw_leave_0 : decode bLaw_leave 0 = .ok (.aload_n 1, 1) := by decide +kernel
theorem dLaw_leave_1 : decode bLaw_leave 1 = .ok (.iconst 0, 1) := by decide +kernel
theorem dLaw_leave_2 : decode bLaw_leave 2 = .ok (.aload_n 0, 1) := by decide +kernel
theorem dLaw_leave_3 : decode bLaw_leave 3 = .ok (.invokevirtual 21, 3) := by decide +kernel
theorem dLaw_leave_6 : decode bLaw_leave 6 = .ok (.i2l, 1) := by decide +kernel
theorem dLaw_leave_7 : decode bLaw_leave 7 = .ok (.lastore, 1) := by decide +kernel
theorem dLaw_leave_8 : decode bLaw_leave 8 = .ok (.goto 6, 3) := by decide +kernel
theorem dLaw_leave_11 : decode bLaw_leave 11 = .ok (.astore_n 2, 1) := by decide +kernel
theorem dLaw_leave_12 : decode bLaw_leave 12 = .ok (.iconst 1, 1) := by decide +kernel
theorem dLaw_leave_13 : decode bLaw_leave 13 = .ok (.ireturn, 1) := by decide +kernel
theorem dLaw_leave_14 : decode bLaw_leave 14 = .ok (.iconst 0, 1) := by decide +kernel
theorem dLaw_leave_15 : decode bLaw_leave 15 = .ok (.ireturn, 1) := by decide +kernel
theorem dLaw_type_0 : decode bLaw_type 0 = .ok (.aload_n 2, 1) := by decide +kernel
theorem dLaw_type_1 : decode bLaw_type 1 = .ok (.iconst 0, 1) := by decide +kernel
theorem dLaw_type_2 : decode bLaw_type 2 = .ok (.aload_n 0, 1) := by decide +kernel
theorem dLaw_type_3 : decode bLaw_type 3 = .ok (.iload_n 1, 1) := by decide +kernel
theorem dLaw_type_4 : decode bLaw_type 4 = .ok (.invokevirtual 24, 3) := by decide +kernel
theorem dLaw_type_7 : decode bLaw_type 7 = .ok (.i2l, 1) := by decide +kernel
theorem dLaw_type_8 : decode bLaw_type 8 = .ok (.lastore, 1) := by decide +kernel
theorem dLaw_type_9 : decode bLaw_type 9 = .ok (.goto 9, 3) := by decide +kernel
theorem dLaw_type_12 : decode bLaw_type 12 = .ok (.astore_n 3, 1) := by decide +kernel
theorem dLaw_type_13 : decode bLaw_type 13 = .ok (.iconst 1, 1) := by decide +kernel
theorem dLaw_type_14 : decode bLaw_type 14 = .ok (.ireturn, 1) := by decide +kernel
theorem dLaw_type_15 : decode bLaw_type 15 = .ok (.astore_n 3, 1) := by decide +kernel
theorem dLaw_type_16 : decode bLaw_type 16 = .ok (.iconst 2, 1) := by decide +kernel
theorem dLaw_type_17 : decode bLaw_type 17 = .ok (.ireturn, 1) := by decide +kernel
theorem dLaw_type_18 : decode bLaw_type 18 = .ok (.iconst 0, 1) := by decide +kernel
theorem dLaw_type_19 : decode bLaw_type 19 = .ok (.ireturn, 1) := by decide +kernel
theorem dLaw_enumeration_0 : decode bLaw_enumeration 0 = .ok (.aload_n 2, 1) := by decide +kernel
theorem dLaw_enumeration_1 : decode bLaw_enumeration 1 = .ok (.iconst 0, 1) := by decide +kernel
theorem dLaw_enumeration_2 : decode bLaw_enumeration 2 = .ok (.aload_n 0, 1) := by decide +kernel
theorem dLaw_enumeration_3 : decode bLaw_enumeration 3 = .ok (.iload_n 1, 1) := by decide +kernel
theorem dLaw_enumeration_4 : decode bLaw_enumeration 4 = .ok (.invokevirtual 30, 3) := by decide +kernel
theorem dLaw_enumeration_7 : decode bLaw_enumeration 7 = .ok (.i2l, 1) := by decide +kernel
theorem dLaw_enumeration_8 : decode bLaw_enumeration 8 = .ok (.lastore, 1) := by decide +kernel
theorem dLaw_enumeration_9 : decode bLaw_enumeration 9 = .ok (.goto 9, 3) := by decide +kernel
theorem dLaw_enumeration_12 : decode bLaw_enumeration 12 = .ok (.astore_n 3, 1) := by decide +kernel
theorem dLaw_enumeration_13 : decode bLaw_enumeration 13 = .ok (.iconst 1, 1) := by decide +kernel
theorem dLaw_enumeration_14 : decode bLaw_enumeration 14 = .ok (.ireturn, 1) := by decide +kernel
theorem dLaw_enumeration_15 : decode bLaw_enumeration 15 = .ok (.astore_n 3, 1) := by decide +kernel
theorem dLaw_enumeration_16 : decode bLaw_enumeration 16 = .ok (.iconst 2, 1) := by decide +kernel
theorem dLaw_enumeration_17 : decode bLaw_enumeration 17 = .ok (.ireturn, 1) := by decide +kernel
theorem dLaw_enumeration_18 : decode bLaw_enumeration 18 = .ok (.iconst 0, 1) := by decide +kernel
theorem dLaw_enumeration_19 : decode bLaw_enumeration 19 = .ok (.ireturn, 1) := by decide +kernel
theorem dLaw_subtype_0 : decode bLaw_subtype 0 = .ok (.aload_n 3, 1) := by decide +kernel
theorem dLaw_subtype_1 : decode bLaw_subtype 1 = .ok (.iconst 0, 1) := by decide +kernel
theorem dLaw_subtype_2 : decode bLaw_subtype 2 = .ok (.aload_n 0, 1) := by decide +kernel
theorem dLaw_subtype_3 : decode bLaw_subtype 3 = .ok (.iload_n 1, 1) := by decide +kernel
theorem dLaw_subtype_4 : decode bLaw_subtype 4 = .ok (.iload_n 2, 1) := by decide +kernel
theorem dLaw_subtype_5 : decode bLaw_subtype 5 = .ok (.invokevirtual 33, 3) := by decide +kernel
theorem dLaw_subtype_8 : decode bLaw_subtype 8 = .ok (.i2l, 1) := by decide +kernel
theorem dLaw_subtype_9 : decode bLaw_subtype 9 = .ok (.lastore, 1) := by decide +kernel
theorem dLaw_subtype_10 : decode bLaw_subtype 10 = .ok (.goto 15, 3) := by decide +kernel
theorem dLaw_subtype_13 : decode bLaw_subtype 13 = .ok (.astore 4, 2) := by decide +kernel
theorem dLaw_subtype_15 : decode bLaw_subtype 15 = .ok (.iconst 1, 1) := by decide +kernel
theorem dLaw_subtype_16 : decode bLaw_subtype 16 = .ok (.ireturn, 1) := by decide +kernel
theorem dLaw_subtype_17 : decode bLaw_subtype 17 = .ok (.astore 4, 2) := by decide +kernel
theorem dLaw_subtype_19 : decode bLaw_subtype 19 = .ok (.iconst 2, 1) := by decide +kernel
theorem dLaw_subtype_20 : decode bLaw_subtype 20 = .ok (.ireturn, 1) := by decide +kernel
theorem dLaw_subtype_21 : decode bLaw_subtype 21 = .ok (.astore 4, 2) := by decide +kernel
theorem dLaw_subtype_23 : decode bLaw_subtype 23 = .ok (.iconst 3, 1) := by decide +kernel
theorem dLaw_subtype_24 : decode bLaw_subtype 24 = .ok (.ireturn, 1) := by decide +kernel
theorem dLaw_subtype_25 : decode bLaw_subtype 25 = .ok (.iconst 0, 1) := by decide +kernel
theorem dLaw_subtype_26 : decode bLaw_subtype 26 = .ok (.ireturn, 1) := by decide +kernel
theorem dLaw_declare_0 : decode bLaw_declare 0 = .ok (.aload 5, 2) := by decide +kernel
theorem dLaw_declare_2 : decode bLaw_declare 2 = .ok (.iconst 0, 1) := by decide +kernel
theorem dLaw_declare_3 : decode bLaw_declare 3 = .ok (.aload_n 0, 1) := by decide +kernel
theorem dLaw_declare_4 : decode bLaw_declare 4 = .ok (.iload_n 1, 1) := by decide +kernel
theorem dLaw_declare_5 : decode bLaw_declare 5 = .ok (.iload_n 2, 1) := by decide +kernel
theorem dLaw_declare_6 : decode bLaw_declare 6 = .ok (.iload_n 3, 1) := by decide +kernel
theorem dLaw_declare_7 : decode bLaw_declare 7 = .ok (.iload 4, 2) := by decide +kernel
theorem dLaw_declare_9 : decode bLaw_declare 9 = .ok (.invokevirtual 37, 3) := by decide +kernel
theorem dLaw_declare_12 : decode bLaw_declare 12 = .ok (.i2l, 1) := by decide +kernel
theorem dLaw_declare_13 : decode bLaw_declare 13 = .ok (.lastore, 1) := by decide +kernel
theorem dLaw_declare_14 : decode bLaw_declare 14 = .ok (.goto 15, 3) := by decide +kernel
theorem dLaw_declare_17 : decode bLaw_declare 17 = .ok (.astore 6, 2) := by decide +kernel
theorem dLaw_declare_19 : decode bLaw_declare 19 = .ok (.iconst 1, 1) := by decide +kernel
theorem dLaw_declare_20 : decode bLaw_declare 20 = .ok (.ireturn, 1) := by decide +kernel
theorem dLaw_declare_21 : decode bLaw_declare 21 = .ok (.astore 6, 2) := by decide +kernel
theorem dLaw_declare_23 : decode bLaw_declare 23 = .ok (.iconst 2, 1) := by decide +kernel
theorem dLaw_declare_24 : decode bLaw_declare 24 = .ok (.ireturn, 1) := by decide +kernel
theorem dLaw_declare_25 : decode bLaw_declare 25 = .ok (.astore 6, 2) := by decide +kernel
theorem dLaw_declare_27 : decode bLaw_declare 27 = .ok (.iconst 3, 1) := by decide +kernel
theorem dLaw_declare_28 : decode bLaw_declare 28 = .ok (.ireturn, 1) := by decide +kernel
theorem dLaw_declare_29 : decode bLaw_declare 29 = .ok (.iconst 0, 1) := by decide +kernel
theorem dLaw_declare_30 : decode bLaw_declare 30 = .ok (.ireturn, 1) := by decide +kernel
theorem dLaw_check_0 : decode bLaw_check 0 = .ok (.aload_n 3, 1) := by decide +kernel
theorem dLaw_check_1 : decode bLaw_check 1 = .ok (.iconst 0, 1) := by decide +kernel
theorem dLaw_check_2 : decode bLaw_check 2 = .ok (.aload_n 0, 1) := by decide +kernel
theorem dLaw_check_3 : decode bLaw_check 3 = .ok (.iload_n 1, 1) := by decide +kernel
theorem dLaw_check_4 : decode bLaw_check 4 = .ok (.iload_n 2, 1) := by decide +kernel
theorem dLaw_check_5 : decode bLaw_check 5 = .ok (.invokevirtual 41, 3) := by decide +kernel
theorem dLaw_check_8 : decode bLaw_check 8 = .ok (.i2l, 1) := by decide +kernel
theorem dLaw_check_9 : decode bLaw_check 9 = .ok (.lastore, 1) := by decide +kernel
theorem dLaw_check_10 : decode bLaw_check 10 = .ok (.goto 7, 3) := by decide +kernel
theorem dLaw_check_13 : decode bLaw_check 13 = .ok (.astore 4, 2) := by decide +kernel
theorem dLaw_check_15 : decode bLaw_check 15 = .ok (.iconst 1, 1) := by decide +kernel
theorem dLaw_check_16 : decode bLaw_check 16 = .ok (.ireturn, 1) := by decide +kernel
theorem dLaw_check_17 : decode bLaw_check 17 = .ok (.iconst 0, 1) := by decide +kernel
theorem dLaw_check_18 : decode bLaw_check 18 = .ok (.ireturn, 1) := by decide +kernel
theorem dLaw_typeOf_0 : decode bLaw_typeOf 0 = .ok (.aload_n 3, 1) := by decide +kernel
theorem dLaw_typeOf_1 : decode bLaw_typeOf 1 = .ok (.iconst 0, 1) := by decide +kernel
theorem dLaw_typeOf_2 : decode bLaw_typeOf 2 = .ok (.aload_n 0, 1) := by decide +kernel
theorem dLaw_typeOf_3 : decode bLaw_typeOf 3 = .ok (.iload_n 1, 1) := by decide +kernel
theorem dLaw_typeOf_4 : decode bLaw_typeOf 4 = .ok (.iload_n 2, 1) := by decide +kernel
theorem dLaw_typeOf_5 : decode bLaw_typeOf 5 = .ok (.invokevirtual 44, 3) := by decide +kernel
theorem dLaw_typeOf_8 : decode bLaw_typeOf 8 = .ok (.i2l, 1) := by decide +kernel
theorem dLaw_typeOf_9 : decode bLaw_typeOf 9 = .ok (.lastore, 1) := by decide +kernel
theorem dLaw_typeOf_10 : decode bLaw_typeOf 10 = .ok (.goto 7, 3) := by decide +kernel
theorem dLaw_typeOf_13 : decode bLaw_typeOf 13 = .ok (.astore 4, 2) := by decide +kernel
theorem dLaw_typeOf_15 : decode bLaw_typeOf 15 = .ok (.iconst 1, 1) := by decide +kernel
theorem dLaw_typeOf_16 : decode bLaw_typeOf 16 = .ok (.ireturn, 1) := by decide +kernel
theorem dLaw_typeOf_17 : decode bLaw_typeOf 17 = .ok (.iconst 0, 1) := by decide +kernel
theorem dLaw_typeOf_18 : decode bLaw_typeOf 18 = .ok (.ireturn, 1) := by decide +kernel
theorem dLaw_about_0 : decode bLaw_about 0 = .ok (.aload_n 3, 1) := by decide +kernel
theorem dLaw_about_1 : decode bLaw_about 1 = .ok (.iconst 0, 1) := by decide +kernel
theorem dLaw_about_2 : decode bLaw_about 2 = .ok (.aload_n 0, 1) := by decide +kernel
theorem dLaw_about_3 : decode bLaw_about 3 = .ok (.iload_n 1, 1) := by decide +kernel
theorem dLaw_about_4 : decode bLaw_about 4 = .ok (.iload_n 2, 1) := by decide +kernel
theorem dLaw_about_5 : decode bLaw_about 5 = .ok (.invokevirtual 47, 3) := by decide +kernel
theorem dLaw_about_8 : decode bLaw_about 8 = .ok (.i2l, 1) := by decide +kernel
theorem dLaw_about_9 : decode bLaw_about 9 = .ok (.lastore, 1) := by decide +kernel
theorem dLaw_about_10 : decode bLaw_about 10 = .ok (.goto 7, 3) := by decide +kernel
theorem dLaw_about_13 : decode bLaw_about 13 = .ok (.astore 4, 2) := by decide +kernel
theorem dLaw_about_15 : decode bLaw_about 15 = .ok (.iconst 1, 1) := by decide +kernel
theorem dLaw_about_16 : decode bLaw_about 16 = .ok (.ireturn, 1) := by decide +kernel
theorem dLaw_about_17 : decode bLaw_about 17 = .ok (.iconst 0, 1) := by decide +kernel
theorem dLaw_about_18 : decode bLaw_about 18 = .ok (.ireturn, 1) := by decide +kernel
theorem dLaw_value_0 : decode bLaw_value 0 = .ok (.aload_n 3, 1) := by decide +kernel
theorem dLaw_value_1 : decode bLaw_value 1 = .ok (.iconst 0, 1) := by decide +kernel
theorem dLaw_value_2 : decode bLaw_value 2 = .ok (.aload_n 0, 1) := by decide +kernel
theorem dLaw_value_3 : decode bLaw_value 3 = .ok (.iload_n 1, 1) := by decide +kernel
theorem dLaw_value_4 : decode bLaw_value 4 = .ok (.iload_n 2, 1) := by decide +kernel
theorem dLaw_value_5 : decode bLaw_value 5 = .ok (.invokevirtual 50, 3) := by decide +kernel
theorem dLaw_value_8 : decode bLaw_value 8 = .ok (.i2l, 1) := by decide +kernel
theorem dLaw_value_9 : decode bLaw_value 9 = .ok (.lastore, 1) := by decide +kernel
theorem dLaw_value_10 : decode bLaw_value 10 = .ok (.goto 11, 3) := by decide +kernel
theorem dLaw_value_13 : decode bLaw_value 13 = .ok (.astore 4, 2) := by decide +kernel
theorem dLaw_value_15 : decode bLaw_value 15 = .ok (.iconst 1, 1) := by decide +kernel
theorem dLaw_value_16 : decode bLaw_value 16 = .ok (.ireturn, 1) := by decide +kernel
theorem dLaw_value_17 : decode bLaw_value 17 = .ok (.astore 4, 2) := by decide +kernel
theorem dLaw_value_19 : decode bLaw_value 19 = .ok (.iconst 2, 1) := by decide +kernel
theorem dLaw_value_20 : decode bLaw_value 20 = .ok (.ireturn, 1) := by decide +kernel
theorem dLaw_value_21 : decode bLaw_value 21 = .ok (.iconst 0, 1) := by decide +kernel
theorem dLaw_value_22 : decode bLaw_value 22 = .ok (.ireturn, 1) := by decide +kernel
theorem dLaw_law_0 : decode bLaw_law 0 = .ok (.new 8, 3) := by decide +kernel
theorem dLaw_law_3 : decode bLaw_law 3 = .ok (.dup, 1) := by decide +kernel
theorem dLaw_law_4 : decode bLaw_law 4 = .ok (.invokespecial 53, 3) := by decide +kernel
theorem dLaw_law_7 : decode bLaw_law 7 = .ok (.astore_n 1, 1) := by decide +kernel
theorem dLaw_law_8 : decode bLaw_law 8 = .ok (.new 54, 3) := by decide +kernel
theorem dLaw_law_11 : decode bLaw_law 11 = .ok (.dup, 1) := by decide +kernel
theorem dLaw_law_12 : decode bLaw_law 12 = .ok (.invokespecial 56, 3) := by decide +kernel
theorem dLaw_law_15 : decode bLaw_law 15 = .ok (.astore_n 2, 1) := by decide +kernel
theorem dLaw_law_16 : decode bLaw_law 16 = .ok (.iconst 1, 1) := by decide +kernel
theorem dLaw_law_17 : decode bLaw_law 17 = .ok (.newarray .long, 2) := by decide +kernel
theorem dLaw_law_19 : decode bLaw_law 19 = .ok (.astore_n 3, 1) := by decide +kernel
theorem dLaw_law_20 : decode bLaw_law 20 = .ok (.iconst 0, 1) := by decide +kernel
theorem dLaw_law_21 : decode bLaw_law 21 = .ok (.istore 4, 2) := by decide +kernel
theorem dLaw_law_23 : decode bLaw_law 23 = .ok (.iload 4, 2) := by decide +kernel
theorem dLaw_law_25 : decode bLaw_law 25 = .ok (.aload_n 0, 1) := by decide +kernel
theorem dLaw_law_26 : decode bLaw_law 26 = .ok (.arraylength, 1) := by decide +kernel
theorem dLaw_law_27 : decode bLaw_law 27 = .ok (.iconst 5, 1) := by decide +kernel
theorem dLaw_law_28 : decode bLaw_law 28 = .ok (.isub, 1) := by decide +kernel
theorem dLaw_law_29 : decode bLaw_law 29 = .ok (.if_icmp .gt 539, 3) := by decide +kernel
theorem dLaw_law_32 : decode bLaw_law 32 = .ok (.aload_n 0, 1) := by decide +kernel
theorem dLaw_law_33 : decode bLaw_law 33 = .ok (.iload 4, 2) := by decide +kernel
theorem dLaw_law_35 : decode bLaw_law 35 = .ok (.iaload, 1) := by decide +kernel
theorem dLaw_law_36 : decode bLaw_law 36 = .ok (.bipush 15, 2) := by decide +kernel
theorem dLaw_law_38 : decode bLaw_law 38 = .ok (.iand, 1) := by decide +kernel
theorem dLaw_law_39 : decode bLaw_law 39 = .ok (.tableswitch 523 0 12 #[65, 117, 130, 146, 162, 190, 218, 258, 322, 362, 375, 415, 483], 65) := by decide +kernel
theorem dLaw_law_104 : decode bLaw_law 104 = .ok (.aload_n 1, 1) := by decide +kernel
theorem dLaw_law_105 : decode bLaw_law 105 = .ok (.aload_n 0, 1) := by decide +kernel
theorem dLaw_law_106 : decode bLaw_law 106 = .ok (.iload 4, 2) := by decide +kernel
theorem dLaw_law_108 : decode bLaw_law 108 = .ok (.iconst 1, 1) := by decide +kernel
theorem dLaw_law_109 : decode bLaw_law 109 = .ok (.iadd, 1) := by decide +kernel
theorem dLaw_law_110 : decode bLaw_law 110 = .ok (.iaload, 1) := by decide +kernel
theorem dLaw_law_111 : decode bLaw_law 111 = .ok (.aload_n 0, 1) := by decide +kernel
theorem dLaw_law_112 : decode bLaw_law 112 = .ok (.iload 4, 2) := by decide +kernel
theorem dLaw_law_114 : decode bLaw_law 114 = .ok (.iconst 2, 1) := by decide +kernel
theorem dLaw_law_115 : decode bLaw_law 115 = .ok (.iadd, 1) := by decide +kernel
theorem dLaw_law_116 : decode bLaw_law 116 = .ok (.iaload, 1) := by decide +kernel
theorem dLaw_law_117 : decode bLaw_law 117 = .ok (.aload_n 0, 1) := by decide +kernel
theorem dLaw_law_118 : decode bLaw_law 118 = .ok (.iload 4, 2) := by decide +kernel
theorem dLaw_law_120 : decode bLaw_law 120 = .ok (.iconst 3, 1) := by decide +kernel
theorem dLaw_law_121 : decode bLaw_law 121 = .ok (.iadd, 1) := by decide +kernel
theorem dLaw_law_122 : decode bLaw_law 122 = .ok (.iaload, 1) := by decide +kernel
theorem dLaw_law_123 : decode bLaw_law 123 = .ok (.aload_n 3, 1) := by decide +kernel
theorem dLaw_law_124 : decode bLaw_law 124 = .ok (.invokestatic 57, 3) := by decide +kernel
theorem dLaw_law_127 : decode bLaw_law 127 = .ok (.istore 5, 2) := by decide +kernel
theorem dLaw_law_129 : decode bLaw_law 129 = .ok (.aload_n 2, 1) := by decide +kernel
theorem dLaw_law_130 : decode bLaw_law 130 = .ok (.aload_n 0, 1) := by decide +kernel
theorem dLaw_law_131 : decode bLaw_law 131 = .ok (.iload 4, 2) := by decide +kernel
theorem dLaw_law_133 : decode bLaw_law 133 = .ok (.iconst 1, 1) := by decide +kernel
theorem dLaw_law_134 : decode bLaw_law 134 = .ok (.iadd, 1) := by decide +kernel
theorem dLaw_law_135 : decode bLaw_law 135 = .ok (.iaload, 1) := by decide +kernel
theorem dLaw_law_136 : decode bLaw_law 136 = .ok (.aload_n 0, 1) := by decide +kernel
theorem dLaw_law_137 : decode bLaw_law 137 = .ok (.iload 4, 2) := by decide +kernel
theorem dLaw_law_139 : decode bLaw_law 139 = .ok (.iconst 2, 1) := by decide +kernel
theorem dLaw_law_140 : decode bLaw_law 140 = .ok (.iadd, 1) := by decide +kernel
theorem dLaw_law_141 : decode bLaw_law 141 = .ok (.iaload, 1) := by decide +kernel
theorem dLaw_law_142 : decode bLaw_law 142 = .ok (.aload_n 0, 1) := by decide +kernel
theorem dLaw_law_143 : decode bLaw_law 143 = .ok (.iload 4, 2) := by decide +kernel
theorem dLaw_law_145 : decode bLaw_law 145 = .ok (.iconst 3, 1) := by decide +kernel
theorem dLaw_law_146 : decode bLaw_law 146 = .ok (.iadd, 1) := by decide +kernel
theorem dLaw_law_147 : decode bLaw_law 147 = .ok (.iaload, 1) := by decide +kernel
theorem dLaw_law_148 : decode bLaw_law 148 = .ok (.invokevirtual 62, 3) := by decide +kernel
theorem dLaw_law_151 : decode bLaw_law 151 = .ok (.istore 6, 2) := by decide +kernel
theorem dLaw_law_153 : decode bLaw_law 153 = .ok (.goto 409, 3) := by decide +kernel
theorem dLaw_law_156 : decode bLaw_law 156 = .ok (.aload_n 1, 1) := by decide +kernel
theorem dLaw_law_157 : decode bLaw_law 157 = .ok (.invokevirtual 63, 3) := by decide +kernel
theorem dLaw_law_160 : decode bLaw_law 160 = .ok (.pop, 1) := by decide +kernel
theorem dLaw_law_161 : decode bLaw_law 161 = .ok (.aload_n 2, 1) := by decide +kernel
theorem dLaw_law_162 : decode bLaw_law 162 = .ok (.invokevirtual 66, 3) := by decide +kernel
theorem dLaw_law_165 : decode bLaw_law 165 = .ok (.pop, 1) := by decide +kernel
theorem dLaw_law_166 : decode bLaw_law 166 = .ok (.goto 396, 3) := by decide +kernel
theorem dLaw_law_169 : decode bLaw_law 169 = .ok (.aload_n 1, 1) := by decide +kernel
theorem dLaw_law_170 : decode bLaw_law 170 = .ok (.aload_n 3, 1) := by decide +kernel
theorem dLaw_law_171 : decode bLaw_law 171 = .ok (.invokestatic 67, 3) := by decide +kernel
theorem dLaw_law_174 : decode bLaw_law 174 = .ok (.istore 5, 2) := by decide +kernel
theorem dLaw_law_176 : decode bLaw_law 176 = .ok (.aload_n 2, 1) := by decide +kernel
theorem dLaw_law_177 : decode bLaw_law 177 = .ok (.invokevirtual 70, 3) := by decide +kernel
theorem dLaw_law_180 : decode bLaw_law 180 = .ok (.istore 6, 2) := by decide +kernel
theorem dLaw_law_182 : decode bLaw_law 182 = .ok (.goto 380, 3) := by decide +kernel
theorem dLaw_law_185 : decode bLaw_law 185 = .ok (.aload_n 1, 1) := by decide +kernel
theorem dLaw_law_186 : decode bLaw_law 186 = .ok (.aload_n 3, 1) := by decide +kernel
theorem dLaw_law_187 : decode bLaw_law 187 = .ok (.invokestatic 71, 3) := by decide +kernel
theorem dLaw_law_190 : decode bLaw_law 190 = .ok (.istore 5, 2) := by decide +kernel
theorem dLaw_law_192 : decode bLaw_law 192 = .ok (.aload_n 2, 1) := by decide +kernel
theorem dLaw_law_193 : decode bLaw_law 193 = .ok (.invokevirtual 73, 3) := by decide +kernel
theorem dLaw_law_196 : decode bLaw_law 196 = .ok (.istore 6, 2) := by decide +kernel
theorem dLaw_law_198 : decode bLaw_law 198 = .ok (.goto 364, 3) := by decide +kernel
theorem dLaw_law_201 : decode bLaw_law 201 = .ok (.aload_n 1, 1) := by decide +kernel
theorem dLaw_law_202 : decode bLaw_law 202 = .ok (.aload_n 0, 1) := by decide +kernel
theorem dLaw_law_203 : decode bLaw_law 203 = .ok (.iload 4, 2) := by decide +kernel
theorem dLaw_law_205 : decode bLaw_law 205 = .ok (.iconst 1, 1) := by decide +kernel
theorem dLaw_law_206 : decode bLaw_law 206 = .ok (.iadd, 1) := by decide +kernel
theorem dLaw_law_207 : decode bLaw_law 207 = .ok (.iaload, 1) := by decide +kernel
theorem dLaw_law_208 : decode bLaw_law 208 = .ok (.aload_n 3, 1) := by decide +kernel
theorem dLaw_law_209 : decode bLaw_law 209 = .ok (.invokestatic 74, 3) := by decide +kernel
theorem dLaw_law_212 : decode bLaw_law 212 = .ok (.istore 5, 2) := by decide +kernel
theorem dLaw_law_214 : decode bLaw_law 214 = .ok (.aload_n 2, 1) := by decide +kernel
theorem dLaw_law_215 : decode bLaw_law 215 = .ok (.aload_n 0, 1) := by decide +kernel
theorem dLaw_law_216 : decode bLaw_law 216 = .ok (.iload 4, 2) := by decide +kernel
theorem dLaw_law_218 : decode bLaw_law 218 = .ok (.iconst 1, 1) := by decide +kernel
theorem dLaw_law_219 : decode bLaw_law 219 = .ok (.iadd, 1) := by decide +kernel
theorem dLaw_law_220 : decode bLaw_law 220 = .ok (.iaload, 1) := by decide +kernel
theorem dLaw_law_221 : decode bLaw_law 221 = .ok (.invokevirtual 77, 3) := by decide +kernel
theorem dLaw_law_224 : decode bLaw_law 224 = .ok (.istore 6, 2) := by decide +kernel
theorem dLaw_law_226 : decode bLaw_law 226 = .ok (.goto 336, 3) := by decide +kernel
theorem dLaw_law_229 : decode bLaw_law 229 = .ok (.aload_n 1, 1) := by decide +kernel
theorem dLaw_law_230 : decode bLaw_law 230 = .ok (.aload_n 0, 1) := by decide +kernel
theorem dLaw_law_231 : decode bLaw_law 231 = .ok (.iload 4, 2) := by decide +kernel
theorem dLaw_law_233 : decode bLaw_law 233 = .ok (.iconst 1, 1) := by decide +kernel
theorem dLaw_law_234 : decode bLaw_law 234 = .ok (.iadd, 1) := by decide +kernel
theorem dLaw_law_235 : decode bLaw_law 235 = .ok (.iaload, 1) := by decide +kernel
theorem dLaw_law_236 : decode bLaw_law 236 = .ok (.aload_n 3, 1) := by decide +kernel
theorem dLaw_law_237 : decode bLaw_law 237 = .ok (.invokestatic 78, 3) := by decide +kernel
theorem dLaw_law_240 : decode bLaw_law 240 = .ok (.istore 5, 2) := by decide +kernel
theorem dLaw_law_242 : decode bLaw_law 242 = .ok (.aload_n 2, 1) := by decide +kernel
theorem dLaw_law_243 : decode bLaw_law 243 = .ok (.aload_n 0, 1) := by decide +kernel
theorem dLaw_law_244 : decode bLaw_law 244 = .ok (.iload 4, 2) := by decide +kernel
theorem dLaw_law_246 : decode bLaw_law 246 = .ok (.iconst 1, 1) := by decide +kernel
theorem dLaw_law_247 : decode bLaw_law 247 = .ok (.iadd, 1) := by decide +kernel
theorem dLaw_law_248 : decode bLaw_law 248 = .ok (.iaload, 1) := by decide +kernel
theorem dLaw_law_249 : decode bLaw_law 249 = .ok (.invokevirtual 80, 3) := by decide +kernel
theorem dLaw_law_252 : decode bLaw_law 252 = .ok (.istore 6, 2) := by decide +kernel
theorem dLaw_law_254 : decode bLaw_law 254 = .ok (.goto 308, 3) := by decide +kernel
theorem dLaw_law_257 : decode bLaw_law 257 = .ok (.aload_n 1, 1) := by decide +kernel
theorem dLaw_law_258 : decode bLaw_law 258 = .ok (.aload_n 0, 1) := by decide +kernel
theorem dLaw_law_259 : decode bLaw_law 259 = .ok (.iload 4, 2) := by decide +kernel
theorem dLaw_law_261 : decode bLaw_law 261 = .ok (.iconst 1, 1) := by decide +kernel
theorem dLaw_law_262 : decode bLaw_law 262 = .ok (.iadd, 1) := by decide +kernel
theorem dLaw_law_263 : decode bLaw_law 263 = .ok (.iaload, 1) := by decide +kernel
theorem dLaw_law_264 : decode bLaw_law 264 = .ok (.aload_n 0, 1) := by decide +kernel
theorem dLaw_law_265 : decode bLaw_law 265 = .ok (.iload 4, 2) := by decide +kernel
theorem dLaw_law_267 : decode bLaw_law 267 = .ok (.iconst 2, 1) := by decide +kernel
theorem dLaw_law_268 : decode bLaw_law 268 = .ok (.iadd, 1) := by decide +kernel
theorem dLaw_law_269 : decode bLaw_law 269 = .ok (.iaload, 1) := by decide +kernel
theorem dLaw_law_270 : decode bLaw_law 270 = .ok (.aload_n 3, 1) := by decide +kernel
theorem dLaw_law_271 : decode bLaw_law 271 = .ok (.invokestatic 81, 3) := by decide +kernel
theorem dLaw_law_274 : decode bLaw_law 274 = .ok (.istore 5, 2) := by decide +kernel
theorem dLaw_law_276 : decode bLaw_law 276 = .ok (.aload_n 2, 1) := by decide +kernel
theorem dLaw_law_277 : decode bLaw_law 277 = .ok (.aload_n 0, 1) := by decide +kernel
theorem dLaw_law_278 : decode bLaw_law 278 = .ok (.iload 4, 2) := by decide +kernel
theorem dLaw_law_280 : decode bLaw_law 280 = .ok (.iconst 1, 1) := by decide +kernel
theorem dLaw_law_281 : decode bLaw_law 281 = .ok (.iadd, 1) := by decide +kernel
theorem dLaw_law_282 : decode bLaw_law 282 = .ok (.iaload, 1) := by decide +kernel
theorem dLaw_law_283 : decode bLaw_law 283 = .ok (.aload_n 0, 1) := by decide +kernel
theorem dLaw_law_284 : decode bLaw_law 284 = .ok (.iload 4, 2) := by decide +kernel
theorem dLaw_law_286 : decode bLaw_law 286 = .ok (.iconst 2, 1) := by decide +kernel
theorem dLaw_law_287 : decode bLaw_law 287 = .ok (.iadd, 1) := by decide +kernel
theorem dLaw_law_288 : decode bLaw_law 288 = .ok (.iaload, 1) := by decide +kernel
theorem dLaw_law_289 : decode bLaw_law 289 = .ok (.invokevirtual 84, 3) := by decide +kernel
theorem dLaw_law_292 : decode bLaw_law 292 = .ok (.istore 6, 2) := by decide +kernel
theorem dLaw_law_294 : decode bLaw_law 294 = .ok (.goto 268, 3) := by decide +kernel
theorem dLaw_law_297 : decode bLaw_law 297 = .ok (.aload_n 1, 1) := by decide +kernel
theorem dLaw_law_298 : decode bLaw_law 298 = .ok (.aload_n 0, 1) := by decide +kernel
theorem dLaw_law_299 : decode bLaw_law 299 = .ok (.iload 4, 2) := by decide +kernel
theorem dLaw_law_301 : decode bLaw_law 301 = .ok (.iconst 1, 1) := by decide +kernel
theorem dLaw_law_302 : decode bLaw_law 302 = .ok (.iadd, 1) := by decide +kernel
theorem dLaw_law_303 : decode bLaw_law 303 = .ok (.iaload, 1) := by decide +kernel
theorem dLaw_law_304 : decode bLaw_law 304 = .ok (.aload_n 0, 1) := by decide +kernel
theorem dLaw_law_305 : decode bLaw_law 305 = .ok (.iload 4, 2) := by decide +kernel
theorem dLaw_law_307 : decode bLaw_law 307 = .ok (.iconst 2, 1) := by decide +kernel
theorem dLaw_law_308 : decode bLaw_law 308 = .ok (.iadd, 1) := by decide +kernel
theorem dLaw_law_309 : decode bLaw_law 309 = .ok (.iaload, 1) := by decide +kernel
theorem dLaw_law_310 : decode bLaw_law 310 = .ok (.aload_n 0, 1) := by decide +kernel
theorem dLaw_law_311 : decode bLaw_law 311 = .ok (.iload 4, 2) := by decide +kernel
theorem dLaw_law_313 : decode bLaw_law 313 = .ok (.iconst 3, 1) := by decide +kernel
theorem dLaw_law_314 : decode bLaw_law 314 = .ok (.iadd, 1) := by decide +kernel
theorem dLaw_law_315 : decode bLaw_law 315 = .ok (.iaload, 1) := by decide +kernel
theorem dLaw_law_316 : decode bLaw_law 316 = .ok (.aload_n 0, 1) := by decide +kernel
theorem dLaw_law_317 : decode bLaw_law 317 = .ok (.iload 4, 2) := by decide +kernel
theorem dLaw_law_319 : decode bLaw_law 319 = .ok (.iconst 4, 1) := by decide +kernel
theorem dLaw_law_320 : decode bLaw_law 320 = .ok (.iadd, 1) := by decide +kernel
theorem dLaw_law_321 : decode bLaw_law 321 = .ok (.iaload, 1) := by decide +kernel
theorem dLaw_law_322 : decode bLaw_law 322 = .ok (.aload_n 3, 1) := by decide +kernel
theorem dLaw_law_323 : decode bLaw_law 323 = .ok (.invokestatic 85, 3) := by decide +kernel
theorem dLaw_law_326 : decode bLaw_law 326 = .ok (.istore 5, 2) := by decide +kernel
theorem dLaw_law_328 : decode bLaw_law 328 = .ok (.aload_n 2, 1) := by decide +kernel
theorem dLaw_law_329 : decode bLaw_law 329 = .ok (.aload_n 0, 1) := by decide +kernel
theorem dLaw_law_330 : decode bLaw_law 330 = .ok (.iload 4, 2) := by decide +kernel
theorem dLaw_law_332 : decode bLaw_law 332 = .ok (.iconst 1, 1) := by decide +kernel
theorem dLaw_law_333 : decode bLaw_law 333 = .ok (.iadd, 1) := by decide +kernel
theorem dLaw_law_334 : decode bLaw_law 334 = .ok (.iaload, 1) := by decide +kernel
theorem dLaw_law_335 : decode bLaw_law 335 = .ok (.aload_n 0, 1) := by decide +kernel
theorem dLaw_law_336 : decode bLaw_law 336 = .ok (.iload 4, 2) := by decide +kernel
theorem dLaw_law_338 : decode bLaw_law 338 = .ok (.iconst 2, 1) := by decide +kernel
theorem dLaw_law_339 : decode bLaw_law 339 = .ok (.iadd, 1) := by decide +kernel
theorem dLaw_law_340 : decode bLaw_law 340 = .ok (.iaload, 1) := by decide +kernel
theorem dLaw_law_341 : decode bLaw_law 341 = .ok (.aload_n 0, 1) := by decide +kernel
theorem dLaw_law_342 : decode bLaw_law 342 = .ok (.iload 4, 2) := by decide +kernel
theorem dLaw_law_344 : decode bLaw_law 344 = .ok (.iconst 3, 1) := by decide +kernel
theorem dLaw_law_345 : decode bLaw_law 345 = .ok (.iadd, 1) := by decide +kernel
theorem dLaw_law_346 : decode bLaw_law 346 = .ok (.iaload, 1) := by decide +kernel
theorem dLaw_law_347 : decode bLaw_law 347 = .ok (.aload_n 0, 1) := by decide +kernel
theorem dLaw_law_348 : decode bLaw_law 348 = .ok (.iload 4, 2) := by decide +kernel
theorem dLaw_law_350 : decode bLaw_law 350 = .ok (.iconst 4, 1) := by decide +kernel
theorem dLaw_law_351 : decode bLaw_law 351 = .ok (.iadd, 1) := by decide +kernel
theorem dLaw_law_352 : decode bLaw_law 352 = .ok (.iaload, 1) := by decide +kernel
theorem dLaw_law_353 : decode bLaw_law 353 = .ok (.invokevirtual 88, 3) := by decide +kernel
theorem dLaw_law_356 : decode bLaw_law 356 = .ok (.istore 6, 2) := by decide +kernel
theorem dLaw_law_358 : decode bLaw_law 358 = .ok (.goto 204, 3) := by decide +kernel
theorem dLaw_law_361 : decode bLaw_law 361 = .ok (.aload_n 1, 1) := by decide +kernel
theorem dLaw_law_362 : decode bLaw_law 362 = .ok (.aload_n 0, 1) := by decide +kernel
theorem dLaw_law_363 : decode bLaw_law 363 = .ok (.iload 4, 2) := by decide +kernel
theorem dLaw_law_365 : decode bLaw_law 365 = .ok (.iconst 1, 1) := by decide +kernel
theorem dLaw_law_366 : decode bLaw_law 366 = .ok (.iadd, 1) := by decide +kernel
theorem dLaw_law_367 : decode bLaw_law 367 = .ok (.iaload, 1) := by decide +kernel
theorem dLaw_law_368 : decode bLaw_law 368 = .ok (.aload_n 0, 1) := by decide +kernel
theorem dLaw_law_369 : decode bLaw_law 369 = .ok (.iload 4, 2) := by decide +kernel
theorem dLaw_law_371 : decode bLaw_law 371 = .ok (.iconst 2, 1) := by decide +kernel
theorem dLaw_law_372 : decode bLaw_law 372 = .ok (.iadd, 1) := by decide +kernel
theorem dLaw_law_373 : decode bLaw_law 373 = .ok (.iaload, 1) := by decide +kernel
theorem dLaw_law_374 : decode bLaw_law 374 = .ok (.aload_n 3, 1) := by decide +kernel
theorem dLaw_law_375 : decode bLaw_law 375 = .ok (.invokestatic 89, 3) := by decide +kernel
theorem dLaw_law_378 : decode bLaw_law 378 = .ok (.istore 5, 2) := by decide +kernel
theorem dLaw_law_380 : decode bLaw_law 380 = .ok (.aload_n 2, 1) := by decide +kernel
theorem dLaw_law_381 : decode bLaw_law 381 = .ok (.aload_n 0, 1) := by decide +kernel
theorem dLaw_law_382 : decode bLaw_law 382 = .ok (.iload 4, 2) := by decide +kernel
theorem dLaw_law_384 : decode bLaw_law 384 = .ok (.iconst 1, 1) := by decide +kernel
theorem dLaw_law_385 : decode bLaw_law 385 = .ok (.iadd, 1) := by decide +kernel
theorem dLaw_law_386 : decode bLaw_law 386 = .ok (.iaload, 1) := by decide +kernel
theorem dLaw_law_387 : decode bLaw_law 387 = .ok (.aload_n 0, 1) := by decide +kernel
theorem dLaw_law_388 : decode bLaw_law 388 = .ok (.iload 4, 2) := by decide +kernel
theorem dLaw_law_390 : decode bLaw_law 390 = .ok (.iconst 2, 1) := by decide +kernel
theorem dLaw_law_391 : decode bLaw_law 391 = .ok (.iadd, 1) := by decide +kernel
theorem dLaw_law_392 : decode bLaw_law 392 = .ok (.iaload, 1) := by decide +kernel
theorem dLaw_law_393 : decode bLaw_law 393 = .ok (.invokevirtual 91, 3) := by decide +kernel
theorem dLaw_law_396 : decode bLaw_law 396 = .ok (.istore 6, 2) := by decide +kernel
theorem dLaw_law_398 : decode bLaw_law 398 = .ok (.goto 164, 3) := by decide +kernel
theorem dLaw_law_401 : decode bLaw_law 401 = .ok (.aload_n 1, 1) := by decide +kernel
theorem dLaw_law_402 : decode bLaw_law 402 = .ok (.invokevirtual 92, 3) := by decide +kernel
theorem dLaw_law_405 : decode bLaw_law 405 = .ok (.pop, 1) := by decide +kernel
theorem dLaw_law_406 : decode bLaw_law 406 = .ok (.aload_n 2, 1) := by decide +kernel
theorem dLaw_law_407 : decode bLaw_law 407 = .ok (.invokevirtual 95, 3) := by decide +kernel
theorem dLaw_law_410 : decode bLaw_law 410 = .ok (.pop, 1) := by decide +kernel
theorem dLaw_law_411 : decode bLaw_law 411 = .ok (.goto 151, 3) := by decide +kernel
theorem dLaw_law_414 : decode bLaw_law 414 = .ok (.aload_n 1, 1) := by decide +kernel
theorem dLaw_law_415 : decode bLaw_law 415 = .ok (.aload_n 0, 1) := by decide +kernel
theorem dLaw_law_416 : decode bLaw_law 416 = .ok (.iload 4, 2) := by decide +kernel
theorem dLaw_law_418 : decode bLaw_law 418 = .ok (.iconst 1, 1) := by decide +kernel
theorem dLaw_law_419 : decode bLaw_law 419 = .ok (.iadd, 1) := by decide +kernel
theorem dLaw_law_420 : decode bLaw_law 420 = .ok (.iaload, 1) := by decide +kernel
theorem dLaw_law_421 : decode bLaw_law 421 = .ok (.aload_n 0, 1) := by decide +kernel
theorem dLaw_law_422 : decode bLaw_law 422 = .ok (.iload 4, 2) := by decide +kernel
theorem dLaw_law_424 : decode bLaw_law 424 = .ok (.iconst 2, 1) := by decide +kernel
theorem dLaw_law_425 : decode bLaw_law 425 = .ok (.iadd, 1) := by decide +kernel
theorem dLaw_law_426 : decode bLaw_law 426 = .ok (.iaload, 1) := by decide +kernel
theorem dLaw_law_427 : decode bLaw_law 427 = .ok (.aload_n 3, 1) := by decide +kernel
theorem dLaw_law_428 : decode bLaw_law 428 = .ok (.invokestatic 96, 3) := by decide +kernel
theorem dLaw_law_431 : decode bLaw_law 431 = .ok (.istore 5, 2) := by decide +kernel
theorem dLaw_law_433 : decode bLaw_law 433 = .ok (.aload_n 2, 1) := by decide +kernel
theorem dLaw_law_434 : decode bLaw_law 434 = .ok (.aload_n 0, 1) := by decide +kernel
theorem dLaw_law_435 : decode bLaw_law 435 = .ok (.iload 4, 2) := by decide +kernel
theorem dLaw_law_437 : decode bLaw_law 437 = .ok (.iconst 1, 1) := by decide +kernel
theorem dLaw_law_438 : decode bLaw_law 438 = .ok (.iadd, 1) := by decide +kernel
theorem dLaw_law_439 : decode bLaw_law 439 = .ok (.iaload, 1) := by decide +kernel
theorem dLaw_law_440 : decode bLaw_law 440 = .ok (.aload_n 0, 1) := by decide +kernel
theorem dLaw_law_441 : decode bLaw_law 441 = .ok (.iload 4, 2) := by decide +kernel
theorem dLaw_law_443 : decode bLaw_law 443 = .ok (.iconst 2, 1) := by decide +kernel
theorem dLaw_law_444 : decode bLaw_law 444 = .ok (.iadd, 1) := by decide +kernel
theorem dLaw_law_445 : decode bLaw_law 445 = .ok (.iaload, 1) := by decide +kernel
theorem dLaw_law_446 : decode bLaw_law 446 = .ok (.invokevirtual 98, 3) := by decide +kernel
theorem dLaw_law_449 : decode bLaw_law 449 = .ok (.istore 6, 2) := by decide +kernel
theorem dLaw_law_451 : decode bLaw_law 451 = .ok (.goto 111, 3) := by decide +kernel
theorem dLaw_law_454 : decode bLaw_law 454 = .ok (.aload_n 1, 1) := by decide +kernel
theorem dLaw_law_455 : decode bLaw_law 455 = .ok (.aload_n 0, 1) := by decide +kernel
theorem dLaw_law_456 : decode bLaw_law 456 = .ok (.iload 4, 2) := by decide +kernel
theorem dLaw_law_458 : decode bLaw_law 458 = .ok (.iconst 1, 1) := by decide +kernel
theorem dLaw_law_459 : decode bLaw_law 459 = .ok (.iadd, 1) := by decide +kernel
theorem dLaw_law_460 : decode bLaw_law 460 = .ok (.iaload, 1) := by decide +kernel
theorem dLaw_law_461 : decode bLaw_law 461 = .ok (.aload_n 0, 1) := by decide +kernel
theorem dLaw_law_462 : decode bLaw_law 462 = .ok (.iload 4, 2) := by decide +kernel
theorem dLaw_law_464 : decode bLaw_law 464 = .ok (.iconst 2, 1) := by decide +kernel
theorem dLaw_law_465 : decode bLaw_law 465 = .ok (.iadd, 1) := by decide +kernel
theorem dLaw_law_466 : decode bLaw_law 466 = .ok (.iaload, 1) := by decide +kernel
theorem dLaw_law_467 : decode bLaw_law 467 = .ok (.aload_n 3, 1) := by decide +kernel
theorem dLaw_law_468 : decode bLaw_law 468 = .ok (.invokestatic 99, 3) := by decide +kernel
theorem dLaw_law_471 : decode bLaw_law 471 = .ok (.istore 5, 2) := by decide +kernel
theorem dLaw_law_473 : decode bLaw_law 473 = .ok (.aload_n 2, 1) := by decide +kernel
theorem dLaw_law_474 : decode bLaw_law 474 = .ok (.aload_n 0, 1) := by decide +kernel
theorem dLaw_law_475 : decode bLaw_law 475 = .ok (.iload 4, 2) := by decide +kernel
theorem dLaw_law_477 : decode bLaw_law 477 = .ok (.iconst 1, 1) := by decide +kernel
theorem dLaw_law_478 : decode bLaw_law 478 = .ok (.iadd, 1) := by decide +kernel
theorem dLaw_law_479 : decode bLaw_law 479 = .ok (.iaload, 1) := by decide +kernel
theorem dLaw_law_480 : decode bLaw_law 480 = .ok (.aload_n 0, 1) := by decide +kernel
theorem dLaw_law_481 : decode bLaw_law 481 = .ok (.iload 4, 2) := by decide +kernel
theorem dLaw_law_483 : decode bLaw_law 483 = .ok (.iconst 2, 1) := by decide +kernel
theorem dLaw_law_484 : decode bLaw_law 484 = .ok (.iadd, 1) := by decide +kernel
theorem dLaw_law_485 : decode bLaw_law 485 = .ok (.iaload, 1) := by decide +kernel
theorem dLaw_law_486 : decode bLaw_law 486 = .ok (.invokevirtual 101, 3) := by decide +kernel
theorem dLaw_law_489 : decode bLaw_law 489 = .ok (.istore 6, 2) := by decide +kernel
theorem dLaw_law_491 : decode bLaw_law 491 = .ok (.aload_n 2, 1) := by decide +kernel
theorem dLaw_law_492 : decode bLaw_law 492 = .ok (.invokevirtual 102, 3) := by decide +kernel
theorem dLaw_law_495 : decode bLaw_law 495 = .ok (.iload 5, 2) := by decide +kernel
theorem dLaw_law_497 : decode bLaw_law 497 = .ok (.if_icmp .eq 5, 3) := by decide +kernel
theorem dLaw_law_502 : decode bLaw_law 502 = .ok (.iload 5, 2) := by decide +kernel
theorem dLaw_law_504 : decode bLaw_law 504 = .ok (.ifCond .ne 15, 3) := by decide +kernel
theorem dLaw_law_507 : decode bLaw_law 507 = .ok (.aload_n 3, 1) := by decide +kernel
theorem dLaw_law_508 : decode bLaw_law 508 = .ok (.iconst 0, 1) := by decide +kernel
theorem dLaw_law_509 : decode bLaw_law 509 = .ok (.laload, 1) := by decide +kernel
theorem dLaw_law_510 : decode bLaw_law 510 = .ok (.iload 6, 2) := by decide +kernel
theorem dLaw_law_512 : decode bLaw_law 512 = .ok (.i2l, 1) := by decide +kernel
theorem dLaw_law_513 : decode bLaw_law 513 = .ok (.lcmp, 1) := by decide +kernel
theorem dLaw_law_514 : decode bLaw_law 514 = .ok (.ifCond .eq 5, 3) := by decide +kernel
theorem dLaw_law_519 : decode bLaw_law 519 = .ok (.goto 43, 3) := by decide +kernel
theorem dLaw_law_522 : decode bLaw_law 522 = .ok (.aload_n 1, 1) := by decide +kernel
theorem dLaw_law_523 : decode bLaw_law 523 = .ok (.aload_n 0, 1) := by decide +kernel
theorem dLaw_law_524 : decode bLaw_law 524 = .ok (.iload 4, 2) := by decide +kernel
theorem dLaw_law_526 : decode bLaw_law 526 = .ok (.iconst 1, 1) := by decide +kernel
theorem dLaw_law_527 : decode bLaw_law 527 = .ok (.iadd, 1) := by decide +kernel
theorem dLaw_law_528 : decode bLaw_law 528 = .ok (.iaload, 1) := by decide +kernel
theorem dLaw_law_529 : decode bLaw_law 529 = .ok (.aload_n 0, 1) := by decide +kernel
theorem dLaw_law_530 : decode bLaw_law 530 = .ok (.iload 4, 2) := by decide +kernel
theorem dLaw_law_532 : decode bLaw_law 532 = .ok (.iconst 2, 1) := by decide +kernel
theorem dLaw_law_533 : decode bLaw_law 533 = .ok (.iadd, 1) := by decide +kernel
theorem dLaw_law_534 : decode bLaw_law 534 = .ok (.iaload, 1) := by decide +kernel
theorem dLaw_law_535 : decode bLaw_law 535 = .ok (.aload_n 3, 1) := by decide +kernel
theorem dLaw_law_536 : decode bLaw_law 536 = .ok (.invokestatic 105, 3) := by decide +kernel
theorem dLaw_law_539 : decode bLaw_law 539 = .ok (.istore 5, 2) := by decide +kernel
theorem dLaw_law_541 : decode bLaw_law 541 = .ok (.aload_n 2, 1) := by decide +kernel
theorem dLaw_law_542 : decode bLaw_law 542 = .ok (.aload_n 0, 1) := by decide +kernel
theorem dLaw_law_543 : decode bLaw_law 543 = .ok (.iload 4, 2) := by decide +kernel
theorem dLaw_law_545 : decode bLaw_law 545 = .ok (.iconst 1, 1) := by decide +kernel
theorem dLaw_law_546 : decode bLaw_law 546 = .ok (.iadd, 1) := by decide +kernel
theorem dLaw_law_547 : decode bLaw_law 547 = .ok (.iaload, 1) := by decide +kernel
theorem dLaw_law_548 : decode bLaw_law 548 = .ok (.aload_n 0, 1) := by decide +kernel
theorem dLaw_law_549 : decode bLaw_law 549 = .ok (.iload 4, 2) := by decide +kernel
theorem dLaw_law_551 : decode bLaw_law 551 = .ok (.iconst 2, 1) := by decide +kernel
theorem dLaw_law_552 : decode bLaw_law 552 = .ok (.iadd, 1) := by decide +kernel
theorem dLaw_law_553 : decode bLaw_law 553 = .ok (.iaload, 1) := by decide +kernel
theorem dLaw_law_554 : decode bLaw_law 554 = .ok (.invokevirtual 107, 3) := by decide +kernel
theorem dLaw_law_557 : decode bLaw_law 557 = .ok (.istore 6, 2) := by decide +kernel
theorem dLaw_law_559 : decode bLaw_law 559 = .ok (.goto 3, 3) := by decide +kernel
theorem dLaw_law_562 : decode bLaw_law 562 = .ok (.iinc 4 5, 3) := by decide +kernel
theorem dLaw_law_565 : decode bLaw_law 565 = .ok (.goto (-542), 3) := by decide +kernel
theorem dLaw_law_568 : decode bLaw_law 568 = .ok (.iconst 1, 1) := by decide +kernel
theorem dLaw_law_569 : decode bLaw_law 569 = .ok (.ireturn, 1) := by decide +kernel
-- THE LAW's own methods, told exactly
theorem invf_off {γ : gE} {A : Nat → Prop} {κ : Nat → Nat} {φ : gF} {ψ : gG} {H H1 : Heap} (hI : INVF γ A κ φ ψ H) (hk : ∀ q : Nat, A q → q < H.size → H1[q]? = H[q]?) : INVF γ A κ φ ψ H1 := by
  obtain ⟨ρ, hρ, hc⟩ := hI
  exact ⟨ρ, hρ, fun i h1 h2 => cmp_kept (hc i h1 h2) (fun q hq h => hk q (hρ q (by rw [hq]; omega)) h) (fun q h _ => h)⟩
theorem il_of {γ : gE} {A : Nat → Prop} {κ : Nat → Nat} {φ : gF} {ψ : gG} {H : Heap} (h : INVF γ A κ φ ψ H) : IL κ := inv_len (inv_of h)
theorem psxf_bl {s0 : State} {H0 : Heap} {γ : gE} {A : Nat → Prop} {κ : Nat → Nat} {φ : gF} {ψ : gG} : ∀ u U : State, u.vm = U.vm → u.heap = U.heap → (FB s0 u u.heap ∧ u.heap = H0 ∧ INVF γ A κ φ ψ u.heap) → (FB s0 U U.heap ∧ U.heap = H0 ∧ INVF γ A κ φ ψ U.heap) := fun u U hv hh h => ⟨by rw [← hh]; exact h.1.same hv, by rw [← hh]; exact h.2.1, by rw [← hh]; exact h.2.2⟩
def PSwF (s0 : State) (H0 : Heap) (γ : gE) (A : Nat → Prop) (κ : Nat → Nat) (φ : gF) (ψ : gG) (o : Nat) (g : Nat → Int64) (U : State) : Prop := FB s0 U U.heap ∧ U.heap = H0 ∧ INVF γ A κ φ ψ U.heap ∧ OU γ o g U.heap ∧ ∀ q, U.heap.size ≤ q → A q
theorem pswf_bl {s0 : State} {H0 : Heap} {γ : gE} {A : Nat → Prop} {κ : Nat → Nat} {φ : gF} {ψ : gG} {o : Nat} {g : Nat → Int64} : ∀ u U : State, u.vm = U.vm → u.heap = U.heap → PSwF s0 H0 γ A κ φ ψ o g u → PSwF s0 H0 γ A κ φ ψ o g U := fun u U hv hh h => ⟨by rw [← hh]; exact h.1.same hv, by rw [← hh]; exact h.2.1, by rw [← hh]; exact h.2.2.1, by rw [← hh]; exact h.2.2.2.1, by rw [← hh]; exact h.2.2.2.2⟩
/-- what a wrapping method answers: 0 and the answer laid into the row, or the code of what was thrown -/
def WRF (q : XR) (cds : List (Int32 × Int32)) (r : Int32) (g : Nat → Int64) : Prop := (q.1 = 0 ∧ r = 0 ∧ g 0 = q.2.1.toInt64) ∨ ∃ c, c ∈ cds ∧ q.1 = c.1 ∧ r = c.2
def PWF (γ : gE) (A : Nat → Prop) (κ : Nat → Nat) (H0 : Heap) (u : Nat) (q : XR) (cds : List (Int32 × Int32)) (r : Int32) (H : Heap) : Prop := ∃ g : Nat → Int64, OU γ u g H ∧ WRF q cds r g ∧ INVF γ A q.2.2.1 q.2.2.2.1 q.2.2.2.2 H ∧ Ph κ ≤ Ph q.2.2.1 ∧ GR H0 H (Ph q.2.2.1 - Ph κ + 1) (2 * (Ph q.2.2.1 - Ph κ) + 6)
theorem pwf_ok {γ : gE} {A : Nat → Prop} {κ : Nat → Nat} {H0 H H1 : Heap} {u : Nat} {q : XR} {cds : List (Int32 × Int32)} {r : Int32} {g : Nat → Int64} (h : PBF γ A κ H0 q 0 r H) (ho : ¬ A u) (hO : OU γ u g H) (hO1 : OU γ u (vp_updL g 0 r.toInt64) H1) (hz : H1.size = H.size) (hq : ∀ a, a ≠ u → H1[a]? = H[a]?) : PWF γ A κ H0 u q cds 0 H1 := by
  obtain ⟨h1, h2, h3, h4, h5⟩ := h
  exact ⟨_, hO1, Or.inl ⟨h1, rfl, by rw [h2]; exact if_pos rfl⟩, invf_off h3 (fun a ha _ => hq a (fun e => ho (by rw [← e]; exact ha))), h4, gr_st h5 hO hO1 hz hq⟩
theorem pwf_ex {γ : gE} {A : Nat → Prop} {κ : Nat → Nat} {H0 H : Heap} {u : Nat} {q : XR} {cds : List (Int32 × Int32)} {t r0 r : Int32} {g : Nat → Int64} (h : PBF γ A κ H0 q t r0 H) (hO : OU γ u g H) (hc : (t, r) ∈ cds) : PWF γ A κ H0 u q cds r H := by
  obtain ⟨h1, h2, h3, h4, h5⟩ := h
  exact ⟨_, hO, Or.inr ⟨(t, r), hc, h1, rfl⟩, h3, h4, h5⟩
theorem tn_145 {κ : Nat → Nat} : ∀ (n : Nat) (φ : gF) (ψ : gG) (a b c d e f : Int32), ¬ (P_TypeBook_enumeration_145 κ n φ ψ a b c d e f).1 = 2 := by
  intro n
  induction n with
  | zero => intro φ ψ a b c d e f; exact (show ¬ (0 : Int32) = 2 by decide)
  | succ n ih =>
    intro φ ψ a b c d e f
    unfold P_TypeBook_enumeration_145
    split
    · exact (show ¬ (0 : Int32) = 2 by decide)
    · exact ih _ _ _ _ _ _ _ _
theorem tn_add_1 {κ : Nat → Nat} {φ : gF} {ψ : gG} {x1 x2 x3 : Int32} : ¬ (P_TypeBook_add κ φ ψ x1 x2 x3).1 = 1 := by
  unfold P_TypeBook_add P_TypeBook_add_25 P_TypeBook_add_59
  repeat' split
  all_goals first | exact (show ¬ (0 : Int32) = 1 by decide) | exact (show ¬ (1 : Int32) = 1 by decide) | exact (show ¬ (2 : Int32) = 1 by decide) | exact (show ¬ (3 : Int32) = 1 by decide)
theorem tn_enter_1 {κ : Nat → Nat} {φ : gF} {ψ : gG} : ¬ (P_TypeBook_enter κ φ ψ ).1 = 1 := by
  unfold P_TypeBook_enter
  repeat' split
  all_goals first | exact (show ¬ (0 : Int32) = 1 by decide) | exact (show ¬ (1 : Int32) = 1 by decide) | exact (show ¬ (2 : Int32) = 1 by decide) | exact (show ¬ (3 : Int32) = 1 by decide)
theorem tn_enter_2 {κ : Nat → Nat} {φ : gF} {ψ : gG} : ¬ (P_TypeBook_enter κ φ ψ ).1 = 2 := by
  unfold P_TypeBook_enter
  repeat' split
  all_goals first | exact (show ¬ (0 : Int32) = 2 by decide) | exact (show ¬ (1 : Int32) = 2 by decide) | exact (show ¬ (2 : Int32) = 2 by decide) | exact (show ¬ (3 : Int32) = 2 by decide)
theorem tn_leave_1 {κ : Nat → Nat} {φ : gF} {ψ : gG} : ¬ (P_TypeBook_leave κ φ ψ ).1 = 1 := by
  unfold P_TypeBook_leave
  repeat' split
  all_goals first | exact (show ¬ (0 : Int32) = 1 by decide) | exact (show ¬ (1 : Int32) = 1 by decide) | exact (show ¬ (2 : Int32) = 1 by decide) | exact (show ¬ (3 : Int32) = 1 by decide)
theorem tn_leave_2 {κ : Nat → Nat} {φ : gF} {ψ : gG} : ¬ (P_TypeBook_leave κ φ ψ ).1 = 2 := by
  unfold P_TypeBook_leave
  repeat' split
  all_goals first | exact (show ¬ (0 : Int32) = 2 by decide) | exact (show ¬ (1 : Int32) = 2 by decide) | exact (show ¬ (2 : Int32) = 2 by decide) | exact (show ¬ (3 : Int32) = 2 by decide)
theorem tn_type_2 {κ : Nat → Nat} {φ : gF} {ψ : gG} {x1 : Int32} : ¬ (P_TypeBook_type κ φ ψ x1).1 = 2 := by
  unfold P_TypeBook_type P_TypeBook_type_88 P_TypeBook_type_116
  repeat' split
  all_goals first | exact (show ¬ (0 : Int32) = 2 by decide) | exact (show ¬ (1 : Int32) = 2 by decide) | exact (show ¬ (2 : Int32) = 2 by decide) | exact (show ¬ (3 : Int32) = 2 by decide)
theorem tn_enumeration_2 {κ : Nat → Nat} {φ : gF} {ψ : gG} {x1 : Int32} : ¬ (P_TypeBook_enumeration κ φ ψ x1).1 = 2 := by
  unfold P_TypeBook_enumeration P_TypeBook_enumeration_96
  repeat' split
  all_goals first | exact tn_145 _ _ _ _ _ _ _ _ _ | exact (show ¬ (0 : Int32) = 2 by decide) | exact (show ¬ (1 : Int32) = 2 by decide) | exact (show ¬ (2 : Int32) = 2 by decide) | exact (show ¬ (3 : Int32) = 2 by decide)
theorem tn_check_2 {κ : Nat → Nat} {φ : gF} {ψ : gG} {x1 x2 : Int32} : ¬ (P_TypeBook_check κ φ ψ x1 x2).1 = 2 := by
  unfold P_TypeBook_check P_TypeBook_check_27 P_TypeBook_check_37
  repeat' split
  all_goals first | exact (show ¬ (0 : Int32) = 2 by decide) | exact (show ¬ (1 : Int32) = 2 by decide) | exact (show ¬ (2 : Int32) = 2 by decide) | exact (show ¬ (3 : Int32) = 2 by decide)
theorem tn_check_3 {κ : Nat → Nat} {φ : gF} {ψ : gG} {x1 x2 : Int32} : ¬ (P_TypeBook_check κ φ ψ x1 x2).1 = 3 := by
  unfold P_TypeBook_check P_TypeBook_check_27 P_TypeBook_check_37
  repeat' split
  all_goals first | exact (show ¬ (0 : Int32) = 3 by decide) | exact (show ¬ (1 : Int32) = 3 by decide) | exact (show ¬ (2 : Int32) = 3 by decide) | exact (show ¬ (3 : Int32) = 3 by decide)
theorem tn_typeOf_2 {κ : Nat → Nat} {φ : gF} {ψ : gG} {x1 x2 : Int32} : ¬ (P_TypeBook_typeOf κ φ ψ x1 x2).1 = 2 := by
  unfold P_TypeBook_typeOf P_TypeBook_typeOf_20
  repeat' split
  all_goals first | exact (show ¬ (0 : Int32) = 2 by decide) | exact (show ¬ (1 : Int32) = 2 by decide) | exact (show ¬ (2 : Int32) = 2 by decide) | exact (show ¬ (3 : Int32) = 2 by decide)
theorem tn_typeOf_3 {κ : Nat → Nat} {φ : gF} {ψ : gG} {x1 x2 : Int32} : ¬ (P_TypeBook_typeOf κ φ ψ x1 x2).1 = 3 := by
  unfold P_TypeBook_typeOf P_TypeBook_typeOf_20
  repeat' split
  all_goals first | exact (show ¬ (0 : Int32) = 3 by decide) | exact (show ¬ (1 : Int32) = 3 by decide) | exact (show ¬ (2 : Int32) = 3 by decide) | exact (show ¬ (3 : Int32) = 3 by decide)
theorem tn_about_2 {κ : Nat → Nat} {φ : gF} {ψ : gG} {x1 x2 : Int32} : ¬ (P_TypeBook_about κ φ ψ x1 x2).1 = 2 := by
  unfold P_TypeBook_about P_TypeBook_about_20
  repeat' split
  all_goals first | exact (show ¬ (0 : Int32) = 2 by decide) | exact (show ¬ (1 : Int32) = 2 by decide) | exact (show ¬ (2 : Int32) = 2 by decide) | exact (show ¬ (3 : Int32) = 2 by decide)
theorem tn_about_3 {κ : Nat → Nat} {φ : gF} {ψ : gG} {x1 x2 : Int32} : ¬ (P_TypeBook_about κ φ ψ x1 x2).1 = 3 := by
  unfold P_TypeBook_about P_TypeBook_about_20
  repeat' split
  all_goals first | exact (show ¬ (0 : Int32) = 3 by decide) | exact (show ¬ (1 : Int32) = 3 by decide) | exact (show ¬ (2 : Int32) = 3 by decide) | exact (show ¬ (3 : Int32) = 3 by decide)
theorem tn_value_2 {κ : Nat → Nat} {φ : gF} {ψ : gG} {x1 x2 : Int32} : ¬ (P_TypeBook_value κ φ ψ x1 x2).1 = 2 := by
  unfold P_TypeBook_value P_TypeBook_value_44 P_TypeBook_value_91
  repeat' split
  all_goals first | exact (show ¬ (0 : Int32) = 2 by decide) | exact (show ¬ (1 : Int32) = 2 by decide) | exact (show ¬ (2 : Int32) = 2 by decide) | exact (show ¬ (3 : Int32) = 2 by decide)
theorem qw_0d96977d20 : (Cond.methodLink R_Law 7 yTypeBook_add) ∈ bs_W0 := bs_in (in_tables_1_2 (List.mem_of_getElem? (i := 91) rfl)) rfl
theorem qw_50864e5db4 : (Cond.classLink R_Law 13 "java/lang/IllegalArgumentException") ∈ bs_W0 := bs_in (in_tables_1_2 (List.mem_of_getElem? (i := 89) rfl)) rfl
theorem qw_d3a77de564 : (Cond.classLink R_Law 15 "java/lang/IllegalStateException") ∈ bs_W0 := bs_in (in_tables_1_2 (List.mem_of_getElem? (i := 90) rfl)) rfl
set_option maxHeartbeats 4000000 in
set_option maxRecDepth 100000 in
theorem wf_add (l : Launch) (hst : l.stackTraces = false) (γ : gE) (A : Nat → Prop) (κ : Nat → Nat) (φ : gF) (ψ : gG) (s0 : State) (hw0 : SW s0) (hnc : NCs s0) (hA0 : ∀ q, A q → s0.heap.size ≤ q) (H0 : Heap) (o : Nat) (ho : ¬ A o) (g : Nat → Int64) (x1 : Int32) (x2 : Int32) (x3 : Int32) : WM l yLaw_add bLaw_add 6 hLaw_add 7 169 50000 1000000 [.ref (γ.2.2.2 0), .int x1, .int x2, .int x3, .ref o] γ (fun q => A q ∨ q = o) (PSwF s0 H0 γ A κ φ ψ o g) (mQi (fun r H => PWF γ A κ H0 o (P_TypeBook_add κ φ ψ x1 x2 x3) [(2, 1), (3, 2)] r H) (fun q => A q ∨ q = o)) := by
  refine wm_open (by decide) (Nat.le_of_ble_eq_true rfl) ?_
  intro p e s m args below meth c ls Q S htab hC hA hPS hE hl
  obtain ⟨hF0, hH0, hI, hO, hAn⟩ := hPS
  subst hH0
  obtain ⟨hx, hb, hml, hown, hW⟩ := id S
  have hS : va_S (fun q => A q ∨ q = o) s.heap s.heap [] := va_S.rf
  have hl : lv_has ls 6 [(0, .ref (γ.2.2.2 0)), (1, .int x1), (2, .int x2), (3, .int x3), (4, .ref o)] := hl
  refine lv_aload hx hb dLaw_add_0 (lv_at hl 4 rfl) ?_
  refine lv_iconst (v := 0) hx hb dLaw_add_2 (by decide) ?_
  refine lv_aload_n hx hb dLaw_add_3 rfl (lv_at hl 0 rfl) ?_
  refine lv_iload_n hx hb dLaw_add_4 rfl (lv_at hl 1 rfl) ?_
  refine lv_iload_n hx hb dLaw_add_5 rfl (lv_at hl 2 rfl) ?_
  refine lv_iload_n hx hb dLaw_add_6 rfl (lv_at hl 3 rfl) ?_
  refine tx_call (A := A) (A0 := (fun q => A q ∨ q = o)) (H0 := s.heap) (rest := [.int 0, .ref o]) S hC htab hAn (fun q h => Or.inl h) hS (xf_add l hst γ A κ φ ψ s0 hw0 hA0 s.heap x1 x2 x3) psxf_bl meTypeBook_add qw_0d96977d20 ⟨Nat.le_of_ble_eq_true rfl, Nat.le_of_ble_eq_true rfl⟩ (rv_0 hC (inv_of hI)) (fun U hU hWU => ⟨by rw [hU]; exact hF0.warm hWU, hU, by rw [hU]; exact hI⟩) rfl hl.1 rfl (Nat.le_of_ble_eq_true rfl) dLaw_add_7 ⟨Nat.le_of_ble_eq_true rfl, Nat.le_of_ble_eq_true rfl⟩ (fun E H1 hx9 => hx9.2) (fun r H1 locs1 hPO hS hz hk => ?_) (fun E q H1 locs1 hXC hS => ?_)
  · have hO1 : OU γ o g H1 := hO.kept (hk o hO.lt ho)
    refine lv_i2l hx hb dLaw_add_10 rfl ?_
    refine ou_st S hC hO1 (Or.inr rfl) hS dLaw_add_11 (fun H2 locs2 hO2 hS hz2 hq2 => ?_)
    refine lv_goto (tgt := 23) hx hb dLaw_add_12 (by decide) ?_
    refine lv_iconst (v := 0) hx hb dLaw_add_23 (by decide) ?_
    exact hE _ _ _ _ _ _ _ hS (Nat.le_of_ble_eq_true rfl) (Nat.le_of_ble_eq_true rfl) (pwf_ok hPO ho hO1 hO2 hz2 hq2) dLaw_add_24
  · obtain ⟨⟨t9, hE9, hPB⟩, hfr⟩ := hXC
    have hO1 : OU γ o g H1 := hO.kept (hfr.2 o hO.lt ho)
    rcases hE9 with ⟨rfl, rfl⟩ | ⟨rfl, rfl⟩ | ⟨rfl, rfl⟩
    · exact absurd hPB.1 tn_add_1
    · refine ⟨15, ⟨⟨by decide, by decide⟩, by decide, "java/lang/IllegalArgumentException", hW _ qw_50864e5db4, Or.inl ⟨va_Nw.warmC hF0.1 (hw0.1 _ (in_tables_1_2 (List.mem_of_getElem? (i := 97) rfl)) rfl), rfl⟩⟩, ?_⟩
      refine lv_astore (lv' := [(5, .ref q), (0, .ref (γ.2.2.2 0)), (1, .int x1), (2, .int x2), (3, .int x3), (4, .ref o)]) hx hb dLaw_add_15 hl (by decide) rfl (fun ls hl => ?_)
      refine lv_iconst (v := 1) hx hb dLaw_add_17 (by decide) ?_
      exact hE _ _ _ _ _ _ _ hS (Nat.le_of_ble_eq_true rfl) (Nat.le_of_ble_eq_true rfl) (pwf_ex hPB hO1 (by decide)) dLaw_add_18
    · refine ⟨19, ⟨⟨by decide, by decide⟩, by decide, "java/lang/IllegalArgumentException", hW _ qw_50864e5db4, Or.inr ⟨va_Nc.moved hF0.1.alike hnc.1, ⟨⟨by decide, by decide⟩, by decide, "java/lang/IllegalStateException", hW _ qw_d3a77de564, Or.inl ⟨va_Nw.warmC hF0.1 (hw0.1 _ (in_tables_1_2 (List.mem_of_getElem? (i := 172) rfl)) rfl), rfl⟩⟩⟩⟩, ?_⟩
      refine lv_astore (lv' := [(5, .ref q), (0, .ref (γ.2.2.2 0)), (1, .int x1), (2, .int x2), (3, .int x3), (4, .ref o)]) hx hb dLaw_add_19 hl (by decide) rfl (fun ls hl => ?_)
      refine lv_iconst (v := 2) hx hb dLaw_add_21 (by decide) ?_
      exact hE _ _ _ _ _ _ _ hS (Nat.le_of_ble_eq_true rfl) (Nat.le_of_ble_eq_true rfl) (pwf_ex hPB hO1 (by decide)) dLaw_add_22
theorem qw_b1dfac4ceb : (Cond.methodLink R_Law 17 yTypeBook_enter) ∈ bs_W0 := bs_in (in_tables_1_2 (List.mem_of_getElem? (i := 233) rfl)) rfl
set_option maxHeartbeats 4000000 in
set_option maxRecDepth 100000 in
theorem wf_enter (l : Launch) (hst : l.stackTraces = false) (γ : gE) (A : Nat → Prop) (κ : Nat → Nat) (φ : gF) (ψ : gG) (s0 : State) (hw0 : SW s0) (hnc : NCs s0) (hA0 : ∀ q, A q → s0.heap.size ≤ q) (H0 : Heap) (o : Nat) (ho : ¬ A o) (g : Nat → Int64)  : WM l yLaw_enter bLaw_enter 3 hLaw_enter 7 102 50000 1000000 [.ref (γ.2.2.2 0), .ref o] γ (fun q => A q ∨ q = o) (PSwF s0 H0 γ A κ φ ψ o g) (mQi (fun r H => PWF γ A κ H0 o (P_TypeBook_enter κ φ ψ ) [(3, 1)] r H) (fun q => A q ∨ q = o)) := by
  refine wm_open (by decide) (Nat.le_of_ble_eq_true rfl) ?_
  intro p e s m args below meth c ls Q S htab hC hA hPS hE hl
  obtain ⟨hF0, hH0, hI, hO, hAn⟩ := hPS
  subst hH0
  obtain ⟨hx, hb, hml, hown, hW⟩ := id S
  have hS : va_S (fun q => A q ∨ q = o) s.heap s.heap [] := va_S.rf
  have hl : lv_has ls 3 [(0, .ref (γ.2.2.2 0)), (1, .ref o)] := hl
  refine lv_aload_n hx hb dLaw_enter_0 rfl (lv_at hl 1 rfl) ?_
  refine lv_iconst (v := 0) hx hb dLaw_enter_1 (by decide) ?_
  refine lv_aload_n hx hb dLaw_enter_2 rfl (lv_at hl 0 rfl) ?_
  refine tx_call (A := A) (A0 := (fun q => A q ∨ q = o)) (H0 := s.heap) (rest := [.int 0, .ref o]) S hC htab hAn (fun q h => Or.inl h) hS (xf_enter l hst γ A κ φ ψ s0 hw0 hA0 s.heap ) psxf_bl meTypeBook_enter qw_b1dfac4ceb ⟨Nat.le_of_ble_eq_true rfl, Nat.le_of_ble_eq_true rfl⟩ (rv_0 hC (inv_of hI)) (fun U hU hWU => ⟨by rw [hU]; exact hF0.warm hWU, hU, by rw [hU]; exact hI⟩) rfl hl.1 rfl (Nat.le_of_ble_eq_true rfl) dLaw_enter_3 ⟨Nat.le_of_ble_eq_true rfl, Nat.le_of_ble_eq_true rfl⟩ (fun E H1 hx9 => hx9.2) (fun r H1 locs1 hPO hS hz hk => ?_) (fun E q H1 locs1 hXC hS => ?_)
  · have hO1 : OU γ o g H1 := hO.kept (hk o hO.lt ho)
    refine lv_i2l hx hb dLaw_enter_6 rfl ?_
    refine ou_st S hC hO1 (Or.inr rfl) hS dLaw_enter_7 (fun H2 locs2 hO2 hS hz2 hq2 => ?_)
    refine lv_goto (tgt := 14) hx hb dLaw_enter_8 (by decide) ?_
    refine lv_iconst (v := 0) hx hb dLaw_enter_14 (by decide) ?_
    exact hE _ _ _ _ _ _ _ hS (Nat.le_of_ble_eq_true rfl) (Nat.le_of_ble_eq_true rfl) (pwf_ok hPO ho hO1 hO2 hz2 hq2) dLaw_enter_15
  · obtain ⟨⟨t9, hE9, hPB⟩, hfr⟩ := hXC
    have hO1 : OU γ o g H1 := hO.kept (hfr.2 o hO.lt ho)
    rcases hE9 with ⟨rfl, rfl⟩ | ⟨rfl, rfl⟩ | ⟨rfl, rfl⟩
    · exact absurd hPB.1 tn_enter_1
    · exact absurd hPB.1 tn_enter_2
    · refine ⟨11, ⟨⟨by decide, by decide⟩, by decide, "java/lang/IllegalStateException", hW _ qw_d3a77de564, Or.inl ⟨va_Nw.warmC hF0.1 (hw0.1 _ (in_tables_1_2 (List.mem_of_getElem? (i := 172) rfl)) rfl), rfl⟩⟩, ?_⟩
      refine lv_astore_n (lv' := [(2, .ref q), (0, .ref (γ.2.2.2 0)), (1, .ref o)]) hx hb dLaw_enter_11 rfl hl (by decide) rfl (fun ls hl => ?_)
      refine lv_iconst (v := 1) hx hb dLaw_enter_12 (by decide) ?_
      exact hE _ _ _ _ _ _ _ hS (Nat.le_of_ble_eq_true rfl) (Nat.le_of_ble_eq_true rfl) (pwf_ex hPB hO1 (by decide)) dLaw_enter_13
theorem qw_5f15f70ef5 : (Cond.methodLink R_Law 21 yTypeBook_leave) ∈ bs_W0 := bs_in (in_tables_1_3 (List.mem_of_getElem? (i := 5) rfl)) rfl
set_option maxHeartbeats 4000000 in
set_option maxRecDepth 100000 in
theorem wf_leave (l : Launch) (hst : l.stackTraces = false) (γ : gE) (A : Nat → Prop) (κ : Nat → Nat) (φ : gF) (ψ : gG) (s0 : State) (hw0 : SW s0) (hnc : NCs s0) (hA0 : ∀ q, A q → s0.heap.size ≤ q) (H0 : Heap) (o : Nat) (ho : ¬ A o) (g : Nat → Int64)  : WM l yLaw_leave bLaw_leave 3 hLaw_leave 7 102 50000 1000000 [.ref (γ.2.2.2 0), .ref o] γ (fun q => A q ∨ q = o) (PSwF s0 H0 γ A κ φ ψ o g) (mQi (fun r H => PWF γ A κ H0 o (P_TypeBook_leave κ φ ψ ) [(3, 1)] r H) (fun q => A q ∨ q = o)) := by
  refine wm_open (by decide) (Nat.le_of_ble_eq_true rfl) ?_
  intro p e s m args below meth c ls Q S htab hC hA hPS hE hl
  obtain ⟨hF0, hH0, hI, hO, hAn⟩ := hPS
  subst hH0
  obtain ⟨hx, hb, hml, hown, hW⟩ := id S
  have hS : va_S (fun q => A q ∨ q = o) s.heap s.heap [] := va_S.rf
  have hl : lv_has ls 3 [(0, .ref (γ.2.2.2 0)), (1, .ref o)] := hl
  refine lv_aload_n hx hb dLaw_leave_0 rfl (lv_at hl 1 rfl) ?_
  refine lv_iconst (v := 0) hx hb dLaw_leave_1 (by decide) ?_
  refine lv_aload_n hx hb dLaw_leave_2 rfl (lv_at hl 0 rfl) ?_
  refine tx_call (A := A) (A0 := (fun q => A q ∨ q = o)) (H0 := s.heap) (rest := [.int 0, .ref o]) S hC htab hAn (fun q h => Or.inl h) hS (xf_leave l hst γ A κ φ ψ s0 hw0 hA0 s.heap ) psxf_bl meTypeBook_leave qw_5f15f70ef5 ⟨Nat.le_of_ble_eq_true rfl, Nat.le_of_ble_eq_true rfl⟩ (rv_0 hC (inv_of hI)) (fun U hU hWU => ⟨by rw [hU]; exact hF0.warm hWU, hU, by rw [hU]; exact hI⟩) rfl hl.1 rfl (Nat.le_of_ble_eq_true rfl) dLaw_leave_3 ⟨Nat.le_of_ble_eq_true rfl, Nat.le_of_ble_eq_true rfl⟩ (fun E H1 hx9 => hx9.2) (fun r H1 locs1 hPO hS hz hk => ?_) (fun E q H1 locs1 hXC hS => ?_)
  · have hO1 : OU γ o g H1 := hO.kept (hk o hO.lt ho)
    refine lv_i2l hx hb dLaw_leave_6 rfl ?_
    refine ou_st S hC hO1 (Or.inr rfl) hS dLaw_leave_7 (fun H2 locs2 hO2 hS hz2 hq2 => ?_)
    refine lv_goto (tgt := 14) hx hb dLaw_leave_8 (by decide) ?_
    refine lv_iconst (v := 0) hx hb dLaw_leave_14 (by decide) ?_
    exact hE _ _ _ _ _ _ _ hS (Nat.le_of_ble_eq_true rfl) (Nat.le_of_ble_eq_true rfl) (pwf_ok hPO ho hO1 hO2 hz2 hq2) dLaw_leave_15
  · obtain ⟨⟨t9, hE9, hPB⟩, hfr⟩ := hXC
    have hO1 : OU γ o g H1 := hO.kept (hfr.2 o hO.lt ho)
    rcases hE9 with ⟨rfl, rfl⟩ | ⟨rfl, rfl⟩ | ⟨rfl, rfl⟩
    · exact absurd hPB.1 tn_leave_1
    · exact absurd hPB.1 tn_leave_2
    · refine ⟨11, ⟨⟨by decide, by decide⟩, by decide, "java/lang/IllegalStateException", hW _ qw_d3a77de564, Or.inl ⟨va_Nw.warmC hF0.1 (hw0.1 _ (in_tables_1_2 (List.mem_of_getElem? (i := 172) rfl)) rfl), rfl⟩⟩, ?_⟩
      refine lv_astore_n (lv' := [(2, .ref q), (0, .ref (γ.2.2.2 0)), (1, .ref o)]) hx hb dLaw_leave_11 rfl hl (by decide) rfl (fun ls hl => ?_)
      refine lv_iconst (v := 1) hx hb dLaw_leave_12 (by decide) ?_
      exact hE _ _ _ _ _ _ _ hS (Nat.le_of_ble_eq_true rfl) (Nat.le_of_ble_eq_true rfl) (pwf_ex hPB hO1 (by decide)) dLaw_leave_13
theorem qw_8b2a3c1b26 : (Cond.methodLink R_Law 24 yTypeBook_type) ∈ bs_W0 := bs_in (in_tables_1_3 (List.mem_of_getElem? (i := 18) rfl)) rfl
theorem qw_1956a2fa33 : (Cond.classLink R_Law 28 "java/lang/IndexOutOfBoundsException") ∈ bs_W0 := bs_in (in_tables_1_3 (List.mem_of_getElem? (i := 17) rfl)) rfl
set_option maxHeartbeats 4000000 in
set_option maxRecDepth 100000 in
theorem wf_type (l : Launch) (hst : l.stackTraces = false) (γ : gE) (A : Nat → Prop) (κ : Nat → Nat) (φ : gF) (ψ : gG) (s0 : State) (hw0 : SW s0) (hnc : NCs s0) (hA0 : ∀ q, A q → s0.heap.size ≤ q) (H0 : Heap) (o : Nat) (ho : ¬ A o) (g : Nat → Int64) (x1 : Int32) : WM l yLaw_type bLaw_type 4 hLaw_type 8 197 50000 1000000 [.ref (γ.2.2.2 0), .int x1, .ref o] γ (fun q => A q ∨ q = o) (PSwF s0 H0 γ A κ φ ψ o g) (mQi (fun r H => PWF γ A κ H0 o (P_TypeBook_type κ φ ψ x1) [(1, 1), (3, 2)] r H) (fun q => A q ∨ q = o)) := by
  refine wm_open (by decide) (Nat.le_of_ble_eq_true rfl) ?_
  intro p e s m args below meth c ls Q S htab hC hA hPS hE hl
  obtain ⟨hF0, hH0, hI, hO, hAn⟩ := hPS
  subst hH0
  obtain ⟨hx, hb, hml, hown, hW⟩ := id S
  have hS : va_S (fun q => A q ∨ q = o) s.heap s.heap [] := va_S.rf
  have hl : lv_has ls 4 [(0, .ref (γ.2.2.2 0)), (1, .int x1), (2, .ref o)] := hl
  refine lv_aload_n hx hb dLaw_type_0 rfl (lv_at hl 2 rfl) ?_
  refine lv_iconst (v := 0) hx hb dLaw_type_1 (by decide) ?_
  refine lv_aload_n hx hb dLaw_type_2 rfl (lv_at hl 0 rfl) ?_
  refine lv_iload_n hx hb dLaw_type_3 rfl (lv_at hl 1 rfl) ?_
  refine tx_call (A := A) (A0 := (fun q => A q ∨ q = o)) (H0 := s.heap) (rest := [.int 0, .ref o]) S hC htab hAn (fun q h => Or.inl h) hS (xf_type l hst γ A κ φ ψ s0 hw0 hA0 s.heap x1) psxf_bl meTypeBook_type qw_8b2a3c1b26 ⟨Nat.le_of_ble_eq_true rfl, Nat.le_of_ble_eq_true rfl⟩ (rv_0 hC (inv_of hI)) (fun U hU hWU => ⟨by rw [hU]; exact hF0.warm hWU, hU, by rw [hU]; exact hI⟩) rfl hl.1 rfl (Nat.le_of_ble_eq_true rfl) dLaw_type_4 ⟨Nat.le_of_ble_eq_true rfl, Nat.le_of_ble_eq_true rfl⟩ (fun E H1 hx9 => hx9.2) (fun r H1 locs1 hPO hS hz hk => ?_) (fun E q H1 locs1 hXC hS => ?_)
  · have hO1 : OU γ o g H1 := hO.kept (hk o hO.lt ho)
    refine lv_i2l hx hb dLaw_type_7 rfl ?_
    refine ou_st S hC hO1 (Or.inr rfl) hS dLaw_type_8 (fun H2 locs2 hO2 hS hz2 hq2 => ?_)
    refine lv_goto (tgt := 18) hx hb dLaw_type_9 (by decide) ?_
    refine lv_iconst (v := 0) hx hb dLaw_type_18 (by decide) ?_
    exact hE _ _ _ _ _ _ _ hS (Nat.le_of_ble_eq_true rfl) (Nat.le_of_ble_eq_true rfl) (pwf_ok hPO ho hO1 hO2 hz2 hq2) dLaw_type_19
  · obtain ⟨⟨t9, hE9, hPB⟩, hfr⟩ := hXC
    have hO1 : OU γ o g H1 := hO.kept (hfr.2 o hO.lt ho)
    rcases hE9 with ⟨rfl, rfl⟩ | ⟨rfl, rfl⟩ | ⟨rfl, rfl⟩
    · refine ⟨12, ⟨⟨by decide, by decide⟩, by decide, "java/lang/IndexOutOfBoundsException", hW _ qw_1956a2fa33, Or.inl ⟨va_Nw.warmC hF0.1 (hw0.1 _ (in_tables_1_3 (List.mem_of_getElem? (i := 25) rfl)) rfl), rfl⟩⟩, ?_⟩
      refine lv_astore_n (lv' := [(3, .ref q), (0, .ref (γ.2.2.2 0)), (1, .int x1), (2, .ref o)]) hx hb dLaw_type_12 rfl hl (by decide) rfl (fun ls hl => ?_)
      refine lv_iconst (v := 1) hx hb dLaw_type_13 (by decide) ?_
      exact hE _ _ _ _ _ _ _ hS (Nat.le_of_ble_eq_true rfl) (Nat.le_of_ble_eq_true rfl) (pwf_ex hPB hO1 (by decide)) dLaw_type_14
    · exact absurd hPB.1 tn_type_2
    · refine ⟨15, ⟨⟨by decide, by decide⟩, by decide, "java/lang/IndexOutOfBoundsException", hW _ qw_1956a2fa33, Or.inr ⟨va_Nc.moved hF0.1.alike hnc.2.1, ⟨⟨by decide, by decide⟩, by decide, "java/lang/IllegalStateException", hW _ qw_d3a77de564, Or.inl ⟨va_Nw.warmC hF0.1 (hw0.1 _ (in_tables_1_2 (List.mem_of_getElem? (i := 172) rfl)) rfl), rfl⟩⟩⟩⟩, ?_⟩
      refine lv_astore_n (lv' := [(3, .ref q), (0, .ref (γ.2.2.2 0)), (1, .int x1), (2, .ref o)]) hx hb dLaw_type_15 rfl hl (by decide) rfl (fun ls hl => ?_)
      refine lv_iconst (v := 2) hx hb dLaw_type_16 (by decide) ?_
      exact hE _ _ _ _ _ _ _ hS (Nat.le_of_ble_eq_true rfl) (Nat.le_of_ble_eq_true rfl) (pwf_ex hPB hO1 (by decide)) dLaw_type_17
theorem qw_f341ee00dd : (Cond.methodLink R_Law 30 yTypeBook_enumeration) ∈ bs_W0 := bs_in (in_tables_1_5 (List.mem_of_getElem? (i := 13) rfl)) rfl
set_option maxHeartbeats 4000000 in
set_option maxRecDepth 100000 in
theorem wf_enumeration (l : Launch) (hst : l.stackTraces = false) (γ : gE) (A : Nat → Prop) (κ : Nat → Nat) (φ : gF) (ψ : gG) (s0 : State) (hw0 : SW s0) (hnc : NCs s0) (hA0 : ∀ q, A q → s0.heap.size ≤ q) (H0 : Heap) (o : Nat) (ho : ¬ A o) (g : Nat → Int64) (x1 : Int32) : WM l yLaw_enumeration bLaw_enumeration 4 hLaw_enumeration 7 154 50000 1000000 [.ref (γ.2.2.2 0), .int x1, .ref o] γ (fun q => A q ∨ q = o) (PSwF s0 H0 γ A κ φ ψ o g) (mQi (fun r H => PWF γ A κ H0 o (P_TypeBook_enumeration κ φ ψ x1) [(1, 1), (3, 2)] r H) (fun q => A q ∨ q = o)) := by
  refine wm_open (by decide) (Nat.le_of_ble_eq_true rfl) ?_
  intro p e s m args below meth c ls Q S htab hC hA hPS hE hl
  obtain ⟨hF0, hH0, hI, hO, hAn⟩ := hPS
  subst hH0
  obtain ⟨hx, hb, hml, hown, hW⟩ := id S
  have hS : va_S (fun q => A q ∨ q = o) s.heap s.heap [] := va_S.rf
  have hl : lv_has ls 4 [(0, .ref (γ.2.2.2 0)), (1, .int x1), (2, .ref o)] := hl
  refine lv_aload_n hx hb dLaw_enumeration_0 rfl (lv_at hl 2 rfl) ?_
  refine lv_iconst (v := 0) hx hb dLaw_enumeration_1 (by decide) ?_
  refine lv_aload_n hx hb dLaw_enumeration_2 rfl (lv_at hl 0 rfl) ?_
  refine lv_iload_n hx hb dLaw_enumeration_3 rfl (lv_at hl 1 rfl) ?_
  refine tx_call (A := A) (A0 := (fun q => A q ∨ q = o)) (H0 := s.heap) (rest := [.int 0, .ref o]) S hC htab hAn (fun q h => Or.inl h) hS (xf_enumeration l hst γ A κ φ ψ s0 hw0 hA0 s.heap x1) psxf_bl meTypeBook_enumeration qw_f341ee00dd ⟨Nat.le_of_ble_eq_true rfl, Nat.le_of_ble_eq_true rfl⟩ (rv_0 hC (inv_of hI)) (fun U hU hWU => ⟨by rw [hU]; exact hF0.warm hWU, hU, by rw [hU]; exact hI⟩) rfl hl.1 rfl (Nat.le_of_ble_eq_true rfl) dLaw_enumeration_4 ⟨Nat.le_of_ble_eq_true rfl, Nat.le_of_ble_eq_true rfl⟩ (fun E H1 hx9 => hx9.2) (fun r H1 locs1 hPO hS hz hk => ?_) (fun E q H1 locs1 hXC hS => ?_)
  · have hO1 : OU γ o g H1 := hO.kept (hk o hO.lt ho)
    refine lv_i2l hx hb dLaw_enumeration_7 rfl ?_
    refine ou_st S hC hO1 (Or.inr rfl) hS dLaw_enumeration_8 (fun H2 locs2 hO2 hS hz2 hq2 => ?_)
    refine lv_goto (tgt := 18) hx hb dLaw_enumeration_9 (by decide) ?_
    refine lv_iconst (v := 0) hx hb dLaw_enumeration_18 (by decide) ?_
    exact hE _ _ _ _ _ _ _ hS (Nat.le_of_ble_eq_true rfl) (Nat.le_of_ble_eq_true rfl) (pwf_ok hPO ho hO1 hO2 hz2 hq2) dLaw_enumeration_19
  · obtain ⟨⟨t9, hE9, hPB⟩, hfr⟩ := hXC
    have hO1 : OU γ o g H1 := hO.kept (hfr.2 o hO.lt ho)
    rcases hE9 with ⟨rfl, rfl⟩ | ⟨rfl, rfl⟩ | ⟨rfl, rfl⟩
    · refine ⟨12, ⟨⟨by decide, by decide⟩, by decide, "java/lang/IndexOutOfBoundsException", hW _ qw_1956a2fa33, Or.inl ⟨va_Nw.warmC hF0.1 (hw0.1 _ (in_tables_1_3 (List.mem_of_getElem? (i := 25) rfl)) rfl), rfl⟩⟩, ?_⟩
      refine lv_astore_n (lv' := [(3, .ref q), (0, .ref (γ.2.2.2 0)), (1, .int x1), (2, .ref o)]) hx hb dLaw_enumeration_12 rfl hl (by decide) rfl (fun ls hl => ?_)
      refine lv_iconst (v := 1) hx hb dLaw_enumeration_13 (by decide) ?_
      exact hE _ _ _ _ _ _ _ hS (Nat.le_of_ble_eq_true rfl) (Nat.le_of_ble_eq_true rfl) (pwf_ex hPB hO1 (by decide)) dLaw_enumeration_14
    · exact absurd hPB.1 tn_enumeration_2
    · refine ⟨15, ⟨⟨by decide, by decide⟩, by decide, "java/lang/IndexOutOfBoundsException", hW _ qw_1956a2fa33, Or.inr ⟨va_Nc.moved hF0.1.alike hnc.2.1, ⟨⟨by decide, by decide⟩, by decide, "java/lang/IllegalStateException", hW _ qw_d3a77de564, Or.inl ⟨va_Nw.warmC hF0.1 (hw0.1 _ (in_tables_1_2 (List.mem_of_getElem? (i := 172) rfl)) rfl), rfl⟩⟩⟩⟩, ?_⟩
      refine lv_astore_n (lv' := [(3, .ref q), (0, .ref (γ.2.2.2 0)), (1, .int x1), (2, .ref o)]) hx hb dLaw_enumeration_15 rfl hl (by decide) rfl (fun ls hl => ?_)
      refine lv_iconst (v := 2) hx hb dLaw_enumeration_16 (by decide) ?_
      exact hE _ _ _ _ _ _ _ hS (Nat.le_of_ble_eq_true rfl) (Nat.le_of_ble_eq_true rfl) (pwf_ex hPB hO1 (by decide)) dLaw_enumeration_17
theorem qw_5e18194dd2 : (Cond.methodLink R_Law 33 yTypeBook_subtype) ∈ bs_W0 := bs_in (in_tables_1_5 (List.mem_of_getElem? (i := 47) rfl)) rfl
set_option maxHeartbeats 4000000 in
set_option maxRecDepth 100000 in
theorem wf_subtype (l : Launch) (hst : l.stackTraces = false) (γ : gE) (A : Nat → Prop) (κ : Nat → Nat) (φ : gF) (ψ : gG) (s0 : State) (hw0 : SW s0) (hnc : NCs s0) (hA0 : ∀ q, A q → s0.heap.size ≤ q) (H0 : Heap) (o : Nat) (ho : ¬ A o) (g : Nat → Int64) (x1 : Int32) (x2 : Int32) : WM l yLaw_subtype bLaw_subtype 5 hLaw_subtype 7 150 50000 1000000 [.ref (γ.2.2.2 0), .int x1, .int x2, .ref o] γ (fun q => A q ∨ q = o) (PSwF s0 H0 γ A κ φ ψ o g) (mQi (fun r H => PWF γ A κ H0 o (P_TypeBook_subtype κ φ ψ x1 x2) [(1, 1), (2, 2), (3, 3)] r H) (fun q => A q ∨ q = o)) := by
  refine wm_open (by decide) (Nat.le_of_ble_eq_true rfl) ?_
  intro p e s m args below meth c ls Q S htab hC hA hPS hE hl
  obtain ⟨hF0, hH0, hI, hO, hAn⟩ := hPS
  subst hH0
  obtain ⟨hx, hb, hml, hown, hW⟩ := id S
  have hS : va_S (fun q => A q ∨ q = o) s.heap s.heap [] := va_S.rf
  have hl : lv_has ls 5 [(0, .ref (γ.2.2.2 0)), (1, .int x1), (2, .int x2), (3, .ref o)] := hl
  refine lv_aload_n hx hb dLaw_subtype_0 rfl (lv_at hl 3 rfl) ?_
  refine lv_iconst (v := 0) hx hb dLaw_subtype_1 (by decide) ?_
  refine lv_aload_n hx hb dLaw_subtype_2 rfl (lv_at hl 0 rfl) ?_
  refine lv_iload_n hx hb dLaw_subtype_3 rfl (lv_at hl 1 rfl) ?_
  refine lv_iload_n hx hb dLaw_subtype_4 rfl (lv_at hl 2 rfl) ?_
  refine tx_call (A := A) (A0 := (fun q => A q ∨ q = o)) (H0 := s.heap) (rest := [.int 0, .ref o]) S hC htab hAn (fun q h => Or.inl h) hS (xf_subtype l hst γ A κ φ ψ s0 hw0 hA0 s.heap x1 x2) psxf_bl meTypeBook_subtype qw_5e18194dd2 ⟨Nat.le_of_ble_eq_true rfl, Nat.le_of_ble_eq_true rfl⟩ (rv_0 hC (inv_of hI)) (fun U hU hWU => ⟨by rw [hU]; exact hF0.warm hWU, hU, by rw [hU]; exact hI⟩) rfl hl.1 rfl (Nat.le_of_ble_eq_true rfl) dLaw_subtype_5 ⟨Nat.le_of_ble_eq_true rfl, Nat.le_of_ble_eq_true rfl⟩ (fun E H1 hx9 => hx9.2) (fun r H1 locs1 hPO hS hz hk => ?_) (fun E q H1 locs1 hXC hS => ?_)
  · have hO1 : OU γ o g H1 := hO.kept (hk o hO.lt ho)
    refine lv_i2l hx hb dLaw_subtype_8 rfl ?_
    refine ou_st S hC hO1 (Or.inr rfl) hS dLaw_subtype_9 (fun H2 locs2 hO2 hS hz2 hq2 => ?_)
    refine lv_goto (tgt := 25) hx hb dLaw_subtype_10 (by decide) ?_
    refine lv_iconst (v := 0) hx hb dLaw_subtype_25 (by decide) ?_
    exact hE _ _ _ _ _ _ _ hS (Nat.le_of_ble_eq_true rfl) (Nat.le_of_ble_eq_true rfl) (pwf_ok hPO ho hO1 hO2 hz2 hq2) dLaw_subtype_26
  · obtain ⟨⟨t9, hE9, hPB⟩, hfr⟩ := hXC
    have hO1 : OU γ o g H1 := hO.kept (hfr.2 o hO.lt ho)
    rcases hE9 with ⟨rfl, rfl⟩ | ⟨rfl, rfl⟩ | ⟨rfl, rfl⟩
    · refine ⟨13, ⟨⟨by decide, by decide⟩, by decide, "java/lang/IndexOutOfBoundsException", hW _ qw_1956a2fa33, Or.inl ⟨va_Nw.warmC hF0.1 (hw0.1 _ (in_tables_1_3 (List.mem_of_getElem? (i := 25) rfl)) rfl), rfl⟩⟩, ?_⟩
      refine lv_astore (lv' := [(4, .ref q), (0, .ref (γ.2.2.2 0)), (1, .int x1), (2, .int x2), (3, .ref o)]) hx hb dLaw_subtype_13 hl (by decide) rfl (fun ls hl => ?_)
      refine lv_iconst (v := 1) hx hb dLaw_subtype_15 (by decide) ?_
      exact hE _ _ _ _ _ _ _ hS (Nat.le_of_ble_eq_true rfl) (Nat.le_of_ble_eq_true rfl) (pwf_ex hPB hO1 (by decide)) dLaw_subtype_16
    · refine ⟨17, ⟨⟨by decide, by decide⟩, by decide, "java/lang/IndexOutOfBoundsException", hW _ qw_1956a2fa33, Or.inr ⟨va_Nc.moved hF0.1.alike hnc.2.2, ⟨⟨by decide, by decide⟩, by decide, "java/lang/IllegalArgumentException", hW _ qw_50864e5db4, Or.inl ⟨va_Nw.warmC hF0.1 (hw0.1 _ (in_tables_1_2 (List.mem_of_getElem? (i := 97) rfl)) rfl), rfl⟩⟩⟩⟩, ?_⟩
      refine lv_astore (lv' := [(4, .ref q), (0, .ref (γ.2.2.2 0)), (1, .int x1), (2, .int x2), (3, .ref o)]) hx hb dLaw_subtype_17 hl (by decide) rfl (fun ls hl => ?_)
      refine lv_iconst (v := 2) hx hb dLaw_subtype_19 (by decide) ?_
      exact hE _ _ _ _ _ _ _ hS (Nat.le_of_ble_eq_true rfl) (Nat.le_of_ble_eq_true rfl) (pwf_ex hPB hO1 (by decide)) dLaw_subtype_20
    · refine ⟨21, ⟨⟨by decide, by decide⟩, by decide, "java/lang/IndexOutOfBoundsException", hW _ qw_1956a2fa33, Or.inr ⟨va_Nc.moved hF0.1.alike hnc.2.1, ⟨⟨by decide, by decide⟩, by decide, "java/lang/IllegalArgumentException", hW _ qw_50864e5db4, Or.inr ⟨va_Nc.moved hF0.1.alike hnc.1, ⟨⟨by decide, by decide⟩, by decide, "java/lang/IllegalStateException", hW _ qw_d3a77de564, Or.inl ⟨va_Nw.warmC hF0.1 (hw0.1 _ (in_tables_1_2 (List.mem_of_getElem? (i := 172) rfl)) rfl), rfl⟩⟩⟩⟩⟩⟩, ?_⟩
      refine lv_astore (lv' := [(4, .ref q), (0, .ref (γ.2.2.2 0)), (1, .int x1), (2, .int x2), (3, .ref o)]) hx hb dLaw_subtype_21 hl (by decide) rfl (fun ls hl => ?_)
      refine lv_iconst (v := 3) hx hb dLaw_subtype_23 (by decide) ?_
      exact hE _ _ _ _ _ _ _ hS (Nat.le_of_ble_eq_true rfl) (Nat.le_of_ble_eq_true rfl) (pwf_ex hPB hO1 (by decide)) dLaw_subtype_24
theorem qw_5abb125a0b : (Cond.methodLink R_Law 37 yTypeBook_declare) ∈ bs_W0 := bs_in (in_tables_1_5 (List.mem_of_getElem? (i := 57) rfl)) rfl
set_option maxHeartbeats 4000000 in
set_option maxRecDepth 100000 in
theorem wf_declare (l : Launch) (hst : l.stackTraces = false) (γ : gE) (A : Nat → Prop) (κ : Nat → Nat) (φ : gF) (ψ : gG) (s0 : State) (hw0 : SW s0) (hnc : NCs s0) (hA0 : ∀ q, A q → s0.heap.size ≤ q) (H0 : Heap) (o : Nat) (ho : ¬ A o) (g : Nat → Int64) (x1 : Int32) (x2 : Int32) (x3 : Int32) (x4 : Int32) : WM l yLaw_declare bLaw_declare 7 hLaw_declare 8 200 50000 1000000 [.ref (γ.2.2.2 0), .int x1, .int x2, .int x3, .int x4, .ref o] γ (fun q => A q ∨ q = o) (PSwF s0 H0 γ A κ φ ψ o g) (mQi (fun r H => PWF γ A κ H0 o (P_TypeBook_declare κ φ ψ x1 x2 x3 x4) [(1, 1), (2, 2), (3, 3)] r H) (fun q => A q ∨ q = o)) := by
  refine wm_open (by decide) (Nat.le_of_ble_eq_true rfl) ?_
  intro p e s m args below meth c ls Q S htab hC hA hPS hE hl
  obtain ⟨hF0, hH0, hI, hO, hAn⟩ := hPS
  subst hH0
  obtain ⟨hx, hb, hml, hown, hW⟩ := id S
  have hS : va_S (fun q => A q ∨ q = o) s.heap s.heap [] := va_S.rf
  have hl : lv_has ls 7 [(0, .ref (γ.2.2.2 0)), (1, .int x1), (2, .int x2), (3, .int x3), (4, .int x4), (5, .ref o)] := hl
  refine lv_aload hx hb dLaw_declare_0 (lv_at hl 5 rfl) ?_
  refine lv_iconst (v := 0) hx hb dLaw_declare_2 (by decide) ?_
  refine lv_aload_n hx hb dLaw_declare_3 rfl (lv_at hl 0 rfl) ?_
  refine lv_iload_n hx hb dLaw_declare_4 rfl (lv_at hl 1 rfl) ?_
  refine lv_iload_n hx hb dLaw_declare_5 rfl (lv_at hl 2 rfl) ?_
  refine lv_iload_n hx hb dLaw_declare_6 rfl (lv_at hl 3 rfl) ?_
  refine lv_iload hx hb dLaw_declare_7 (lv_at hl 4 rfl) ?_
  refine tx_call (A := A) (A0 := (fun q => A q ∨ q = o)) (H0 := s.heap) (rest := [.int 0, .ref o]) S hC htab hAn (fun q h => Or.inl h) hS (xf_declare l hst γ A κ φ ψ s0 hw0 hA0 s.heap x1 x2 x3 x4) psxf_bl meTypeBook_declare qw_5abb125a0b ⟨Nat.le_of_ble_eq_true rfl, Nat.le_of_ble_eq_true rfl⟩ (rv_0 hC (inv_of hI)) (fun U hU hWU => ⟨by rw [hU]; exact hF0.warm hWU, hU, by rw [hU]; exact hI⟩) rfl hl.1 rfl (Nat.le_of_ble_eq_true rfl) dLaw_declare_9 ⟨Nat.le_of_ble_eq_true rfl, Nat.le_of_ble_eq_true rfl⟩ (fun E H1 hx9 => hx9.2) (fun r H1 locs1 hPO hS hz hk => ?_) (fun E q H1 locs1 hXC hS => ?_)
  · have hO1 : OU γ o g H1 := hO.kept (hk o hO.lt ho)
    refine lv_i2l hx hb dLaw_declare_12 rfl ?_
    refine ou_st S hC hO1 (Or.inr rfl) hS dLaw_declare_13 (fun H2 locs2 hO2 hS hz2 hq2 => ?_)
    refine lv_goto (tgt := 29) hx hb dLaw_declare_14 (by decide) ?_
    refine lv_iconst (v := 0) hx hb dLaw_declare_29 (by decide) ?_
    exact hE _ _ _ _ _ _ _ hS (Nat.le_of_ble_eq_true rfl) (Nat.le_of_ble_eq_true rfl) (pwf_ok hPO ho hO1 hO2 hz2 hq2) dLaw_declare_30
  · obtain ⟨⟨t9, hE9, hPB⟩, hfr⟩ := hXC
    have hO1 : OU γ o g H1 := hO.kept (hfr.2 o hO.lt ho)
    rcases hE9 with ⟨rfl, rfl⟩ | ⟨rfl, rfl⟩ | ⟨rfl, rfl⟩
    · refine ⟨17, ⟨⟨by decide, by decide⟩, by decide, "java/lang/IndexOutOfBoundsException", hW _ qw_1956a2fa33, Or.inl ⟨va_Nw.warmC hF0.1 (hw0.1 _ (in_tables_1_3 (List.mem_of_getElem? (i := 25) rfl)) rfl), rfl⟩⟩, ?_⟩
      refine lv_astore (lv' := [(6, .ref q), (0, .ref (γ.2.2.2 0)), (1, .int x1), (2, .int x2), (3, .int x3), (4, .int x4), (5, .ref o)]) hx hb dLaw_declare_17 hl (by decide) rfl (fun ls hl => ?_)
      refine lv_iconst (v := 1) hx hb dLaw_declare_19 (by decide) ?_
      exact hE _ _ _ _ _ _ _ hS (Nat.le_of_ble_eq_true rfl) (Nat.le_of_ble_eq_true rfl) (pwf_ex hPB hO1 (by decide)) dLaw_declare_20
    · refine ⟨21, ⟨⟨by decide, by decide⟩, by decide, "java/lang/IndexOutOfBoundsException", hW _ qw_1956a2fa33, Or.inr ⟨va_Nc.moved hF0.1.alike hnc.2.2, ⟨⟨by decide, by decide⟩, by decide, "java/lang/IllegalArgumentException", hW _ qw_50864e5db4, Or.inl ⟨va_Nw.warmC hF0.1 (hw0.1 _ (in_tables_1_2 (List.mem_of_getElem? (i := 97) rfl)) rfl), rfl⟩⟩⟩⟩, ?_⟩
      refine lv_astore (lv' := [(6, .ref q), (0, .ref (γ.2.2.2 0)), (1, .int x1), (2, .int x2), (3, .int x3), (4, .int x4), (5, .ref o)]) hx hb dLaw_declare_21 hl (by decide) rfl (fun ls hl => ?_)
      refine lv_iconst (v := 2) hx hb dLaw_declare_23 (by decide) ?_
      exact hE _ _ _ _ _ _ _ hS (Nat.le_of_ble_eq_true rfl) (Nat.le_of_ble_eq_true rfl) (pwf_ex hPB hO1 (by decide)) dLaw_declare_24
    · refine ⟨25, ⟨⟨by decide, by decide⟩, by decide, "java/lang/IndexOutOfBoundsException", hW _ qw_1956a2fa33, Or.inr ⟨va_Nc.moved hF0.1.alike hnc.2.1, ⟨⟨by decide, by decide⟩, by decide, "java/lang/IllegalArgumentException", hW _ qw_50864e5db4, Or.inr ⟨va_Nc.moved hF0.1.alike hnc.1, ⟨⟨by decide, by decide⟩, by decide, "java/lang/IllegalStateException", hW _ qw_d3a77de564, Or.inl ⟨va_Nw.warmC hF0.1 (hw0.1 _ (in_tables_1_2 (List.mem_of_getElem? (i := 172) rfl)) rfl), rfl⟩⟩⟩⟩⟩⟩, ?_⟩
      refine lv_astore (lv' := [(6, .ref q), (0, .ref (γ.2.2.2 0)), (1, .int x1), (2, .int x2), (3, .int x3), (4, .int x4), (5, .ref o)]) hx hb dLaw_declare_25 hl (by decide) rfl (fun ls hl => ?_)
      refine lv_iconst (v := 3) hx hb dLaw_declare_27 (by decide) ?_
      exact hE _ _ _ _ _ _ _ hS (Nat.le_of_ble_eq_true rfl) (Nat.le_of_ble_eq_true rfl) (pwf_ex hPB hO1 (by decide)) dLaw_declare_28
theorem qw_ebaba4f48b : (Cond.methodLink R_Law 41 yTypeBook_check) ∈ bs_W0 := bs_in (in_tables_1_5 (List.mem_of_getElem? (i := 99) rfl)) rfl
set_option maxHeartbeats 4000000 in
set_option maxRecDepth 100000 in
theorem wf_check (l : Launch) (hst : l.stackTraces = false) (γ : gE) (A : Nat → Prop) (κ : Nat → Nat) (φ : gF) (ψ : gG) (s0 : State) (hw0 : SW s0) (hnc : NCs s0) (hA0 : ∀ q, A q → s0.heap.size ≤ q) (H0 : Heap) (o : Nat) (ho : ¬ A o) (g : Nat → Int64) (x1 : Int32) (x2 : Int32) : WM l yLaw_check bLaw_check 5 hLaw_check 8 197 50000 1000000 [.ref (γ.2.2.2 0), .int x1, .int x2, .ref o] γ (fun q => A q ∨ q = o) (PSwF s0 H0 γ A κ φ ψ o g) (mQi (fun r H => PWF γ A κ H0 o (P_TypeBook_check κ φ ψ x1 x2) [(1, 1)] r H) (fun q => A q ∨ q = o)) := by
  refine wm_open (by decide) (Nat.le_of_ble_eq_true rfl) ?_
  intro p e s m args below meth c ls Q S htab hC hA hPS hE hl
  obtain ⟨hF0, hH0, hI, hO, hAn⟩ := hPS
  subst hH0
  obtain ⟨hx, hb, hml, hown, hW⟩ := id S
  have hS : va_S (fun q => A q ∨ q = o) s.heap s.heap [] := va_S.rf
  have hl : lv_has ls 5 [(0, .ref (γ.2.2.2 0)), (1, .int x1), (2, .int x2), (3, .ref o)] := hl
  refine lv_aload_n hx hb dLaw_check_0 rfl (lv_at hl 3 rfl) ?_
  refine lv_iconst (v := 0) hx hb dLaw_check_1 (by decide) ?_
  refine lv_aload_n hx hb dLaw_check_2 rfl (lv_at hl 0 rfl) ?_
  refine lv_iload_n hx hb dLaw_check_3 rfl (lv_at hl 1 rfl) ?_
  refine lv_iload_n hx hb dLaw_check_4 rfl (lv_at hl 2 rfl) ?_
  refine tx_call (A := A) (A0 := (fun q => A q ∨ q = o)) (H0 := s.heap) (rest := [.int 0, .ref o]) S hC htab hAn (fun q h => Or.inl h) hS (xf_check l hst γ A κ φ ψ s0 hw0 hA0 s.heap x1 x2) psxf_bl meTypeBook_check qw_ebaba4f48b ⟨Nat.le_of_ble_eq_true rfl, Nat.le_of_ble_eq_true rfl⟩ (rv_0 hC (inv_of hI)) (fun U hU hWU => ⟨by rw [hU]; exact hF0.warm hWU, hU, by rw [hU]; exact hI⟩) rfl hl.1 rfl (Nat.le_of_ble_eq_true rfl) dLaw_check_5 ⟨Nat.le_of_ble_eq_true rfl, Nat.le_of_ble_eq_true rfl⟩ (fun E H1 hx9 => hx9.2) (fun r H1 locs1 hPO hS hz hk => ?_) (fun E q H1 locs1 hXC hS => ?_)
  · have hO1 : OU γ o g H1 := hO.kept (hk o hO.lt ho)
    refine lv_i2l hx hb dLaw_check_8 rfl ?_
    refine ou_st S hC hO1 (Or.inr rfl) hS dLaw_check_9 (fun H2 locs2 hO2 hS hz2 hq2 => ?_)
    refine lv_goto (tgt := 17) hx hb dLaw_check_10 (by decide) ?_
    refine lv_iconst (v := 0) hx hb dLaw_check_17 (by decide) ?_
    exact hE _ _ _ _ _ _ _ hS (Nat.le_of_ble_eq_true rfl) (Nat.le_of_ble_eq_true rfl) (pwf_ok hPO ho hO1 hO2 hz2 hq2) dLaw_check_18
  · obtain ⟨⟨t9, hE9, hPB⟩, hfr⟩ := hXC
    have hO1 : OU γ o g H1 := hO.kept (hfr.2 o hO.lt ho)
    rcases hE9 with ⟨rfl, rfl⟩ | ⟨rfl, rfl⟩ | ⟨rfl, rfl⟩
    · refine ⟨13, ⟨⟨by decide, by decide⟩, by decide, "java/lang/IndexOutOfBoundsException", hW _ qw_1956a2fa33, Or.inl ⟨va_Nw.warmC hF0.1 (hw0.1 _ (in_tables_1_3 (List.mem_of_getElem? (i := 25) rfl)) rfl), rfl⟩⟩, ?_⟩
      refine lv_astore (lv' := [(4, .ref q), (0, .ref (γ.2.2.2 0)), (1, .int x1), (2, .int x2), (3, .ref o)]) hx hb dLaw_check_13 hl (by decide) rfl (fun ls hl => ?_)
      refine lv_iconst (v := 1) hx hb dLaw_check_15 (by decide) ?_
      exact hE _ _ _ _ _ _ _ hS (Nat.le_of_ble_eq_true rfl) (Nat.le_of_ble_eq_true rfl) (pwf_ex hPB hO1 (by decide)) dLaw_check_16
    · exact absurd hPB.1 tn_check_2
    · exact absurd hPB.1 tn_check_3
theorem qw_c5b27407b8 : (Cond.methodLink R_Law 44 yTypeBook_typeOf) ∈ bs_W0 := bs_in (in_tables_1_5 (List.mem_of_getElem? (i := 107) rfl)) rfl
set_option maxHeartbeats 4000000 in
set_option maxRecDepth 100000 in
theorem wf_typeOf (l : Launch) (hst : l.stackTraces = false) (γ : gE) (A : Nat → Prop) (κ : Nat → Nat) (φ : gF) (ψ : gG) (s0 : State) (hw0 : SW s0) (hnc : NCs s0) (hA0 : ∀ q, A q → s0.heap.size ≤ q) (H0 : Heap) (o : Nat) (ho : ¬ A o) (g : Nat → Int64) (x1 : Int32) (x2 : Int32) : WM l yLaw_typeOf bLaw_typeOf 5 hLaw_typeOf 7 104 50000 1000000 [.ref (γ.2.2.2 0), .int x1, .int x2, .ref o] γ (fun q => A q ∨ q = o) (PSwF s0 H0 γ A κ φ ψ o g) (mQi (fun r H => PWF γ A κ H0 o (P_TypeBook_typeOf κ φ ψ x1 x2) [(1, 1)] r H) (fun q => A q ∨ q = o)) := by
  refine wm_open (by decide) (Nat.le_of_ble_eq_true rfl) ?_
  intro p e s m args below meth c ls Q S htab hC hA hPS hE hl
  obtain ⟨hF0, hH0, hI, hO, hAn⟩ := hPS
  subst hH0
  obtain ⟨hx, hb, hml, hown, hW⟩ := id S
  have hS : va_S (fun q => A q ∨ q = o) s.heap s.heap [] := va_S.rf
  have hl : lv_has ls 5 [(0, .ref (γ.2.2.2 0)), (1, .int x1), (2, .int x2), (3, .ref o)] := hl
  refine lv_aload_n hx hb dLaw_typeOf_0 rfl (lv_at hl 3 rfl) ?_
  refine lv_iconst (v := 0) hx hb dLaw_typeOf_1 (by decide) ?_
  refine lv_aload_n hx hb dLaw_typeOf_2 rfl (lv_at hl 0 rfl) ?_
  refine lv_iload_n hx hb dLaw_typeOf_3 rfl (lv_at hl 1 rfl) ?_
  refine lv_iload_n hx hb dLaw_typeOf_4 rfl (lv_at hl 2 rfl) ?_
  refine tx_call (A := A) (A0 := (fun q => A q ∨ q = o)) (H0 := s.heap) (rest := [.int 0, .ref o]) S hC htab hAn (fun q h => Or.inl h) hS (xf_typeOf l hst γ A κ φ ψ s0 hw0 hA0 s.heap x1 x2) psxf_bl meTypeBook_typeOf qw_c5b27407b8 ⟨Nat.le_of_ble_eq_true rfl, Nat.le_of_ble_eq_true rfl⟩ (rv_0 hC (inv_of hI)) (fun U hU hWU => ⟨by rw [hU]; exact hF0.warm hWU, hU, by rw [hU]; exact hI⟩) rfl hl.1 rfl (Nat.le_of_ble_eq_true rfl) dLaw_typeOf_5 ⟨Nat.le_of_ble_eq_true rfl, Nat.le_of_ble_eq_true rfl⟩ (fun E H1 hx9 => hx9.2) (fun r H1 locs1 hPO hS hz hk => ?_) (fun E q H1 locs1 hXC hS => ?_)
  · have hO1 : OU γ o g H1 := hO.kept (hk o hO.lt ho)
    refine lv_i2l hx hb dLaw_typeOf_8 rfl ?_
    refine ou_st S hC hO1 (Or.inr rfl) hS dLaw_typeOf_9 (fun H2 locs2 hO2 hS hz2 hq2 => ?_)
    refine lv_goto (tgt := 17) hx hb dLaw_typeOf_10 (by decide) ?_
    refine lv_iconst (v := 0) hx hb dLaw_typeOf_17 (by decide) ?_
    exact hE _ _ _ _ _ _ _ hS (Nat.le_of_ble_eq_true rfl) (Nat.le_of_ble_eq_true rfl) (pwf_ok hPO ho hO1 hO2 hz2 hq2) dLaw_typeOf_18
  · obtain ⟨⟨t9, hE9, hPB⟩, hfr⟩ := hXC
    have hO1 : OU γ o g H1 := hO.kept (hfr.2 o hO.lt ho)
    rcases hE9 with ⟨rfl, rfl⟩ | ⟨rfl, rfl⟩ | ⟨rfl, rfl⟩
    · refine ⟨13, ⟨⟨by decide, by decide⟩, by decide, "java/lang/IndexOutOfBoundsException", hW _ qw_1956a2fa33, Or.inl ⟨va_Nw.warmC hF0.1 (hw0.1 _ (in_tables_1_3 (List.mem_of_getElem? (i := 25) rfl)) rfl), rfl⟩⟩, ?_⟩
      refine lv_astore (lv' := [(4, .ref q), (0, .ref (γ.2.2.2 0)), (1, .int x1), (2, .int x2), (3, .ref o)]) hx hb dLaw_typeOf_13 hl (by decide) rfl (fun ls hl => ?_)
      refine lv_iconst (v := 1) hx hb dLaw_typeOf_15 (by decide) ?_
      exact hE _ _ _ _ _ _ _ hS (Nat.le_of_ble_eq_true rfl) (Nat.le_of_ble_eq_true rfl) (pwf_ex hPB hO1 (by decide)) dLaw_typeOf_16
    · exact absurd hPB.1 tn_typeOf_2
    · exact absurd hPB.1 tn_typeOf_3
theorem qw_143124cfbe : (Cond.methodLink R_Law 47 yTypeBook_about) ∈ bs_W0 := bs_in (in_tables_1_5 (List.mem_of_getElem? (i := 120) rfl)) rfl
set_option maxHeartbeats 4000000 in
set_option maxRecDepth 100000 in
theorem wf_about (l : Launch) (hst : l.stackTraces = false) (γ : gE) (A : Nat → Prop) (κ : Nat → Nat) (φ : gF) (ψ : gG) (s0 : State) (hw0 : SW s0) (hnc : NCs s0) (hA0 : ∀ q, A q → s0.heap.size ≤ q) (H0 : Heap) (o : Nat) (ho : ¬ A o) (g : Nat → Int64) (x1 : Int32) (x2 : Int32) : WM l yLaw_about bLaw_about 5 hLaw_about 7 104 50000 1000000 [.ref (γ.2.2.2 0), .int x1, .int x2, .ref o] γ (fun q => A q ∨ q = o) (PSwF s0 H0 γ A κ φ ψ o g) (mQi (fun r H => PWF γ A κ H0 o (P_TypeBook_about κ φ ψ x1 x2) [(1, 1)] r H) (fun q => A q ∨ q = o)) := by
  refine wm_open (by decide) (Nat.le_of_ble_eq_true rfl) ?_
  intro p e s m args below meth c ls Q S htab hC hA hPS hE hl
  obtain ⟨hF0, hH0, hI, hO, hAn⟩ := hPS
  subst hH0
  obtain ⟨hx, hb, hml, hown, hW⟩ := id S
  have hS : va_S (fun q => A q ∨ q = o) s.heap s.heap [] := va_S.rf
  have hl : lv_has ls 5 [(0, .ref (γ.2.2.2 0)), (1, .int x1), (2, .int x2), (3, .ref o)] := hl
  refine lv_aload_n hx hb dLaw_about_0 rfl (lv_at hl 3 rfl) ?_
  refine lv_iconst (v := 0) hx hb dLaw_about_1 (by decide) ?_
  refine lv_aload_n hx hb dLaw_about_2 rfl (lv_at hl 0 rfl) ?_
  refine lv_iload_n hx hb dLaw_about_3 rfl (lv_at hl 1 rfl) ?_
  refine lv_iload_n hx hb dLaw_about_4 rfl (lv_at hl 2 rfl) ?_
  refine tx_call (A := A) (A0 := (fun q => A q ∨ q = o)) (H0 := s.heap) (rest := [.int 0, .ref o]) S hC htab hAn (fun q h => Or.inl h) hS (xf_about l hst γ A κ φ ψ s0 hw0 hA0 s.heap x1 x2) psxf_bl meTypeBook_about qw_143124cfbe ⟨Nat.le_of_ble_eq_true rfl, Nat.le_of_ble_eq_true rfl⟩ (rv_0 hC (inv_of hI)) (fun U hU hWU => ⟨by rw [hU]; exact hF0.warm hWU, hU, by rw [hU]; exact hI⟩) rfl hl.1 rfl (Nat.le_of_ble_eq_true rfl) dLaw_about_5 ⟨Nat.le_of_ble_eq_true rfl, Nat.le_of_ble_eq_true rfl⟩ (fun E H1 hx9 => hx9.2) (fun r H1 locs1 hPO hS hz hk => ?_) (fun E q H1 locs1 hXC hS => ?_)
  · have hO1 : OU γ o g H1 := hO.kept (hk o hO.lt ho)
    refine lv_i2l hx hb dLaw_about_8 rfl ?_
    refine ou_st S hC hO1 (Or.inr rfl) hS dLaw_about_9 (fun H2 locs2 hO2 hS hz2 hq2 => ?_)
    refine lv_goto (tgt := 17) hx hb dLaw_about_10 (by decide) ?_
    refine lv_iconst (v := 0) hx hb dLaw_about_17 (by decide) ?_
    exact hE _ _ _ _ _ _ _ hS (Nat.le_of_ble_eq_true rfl) (Nat.le_of_ble_eq_true rfl) (pwf_ok hPO ho hO1 hO2 hz2 hq2) dLaw_about_18
  · obtain ⟨⟨t9, hE9, hPB⟩, hfr⟩ := hXC
    have hO1 : OU γ o g H1 := hO.kept (hfr.2 o hO.lt ho)
    rcases hE9 with ⟨rfl, rfl⟩ | ⟨rfl, rfl⟩ | ⟨rfl, rfl⟩
    · refine ⟨13, ⟨⟨by decide, by decide⟩, by decide, "java/lang/IndexOutOfBoundsException", hW _ qw_1956a2fa33, Or.inl ⟨va_Nw.warmC hF0.1 (hw0.1 _ (in_tables_1_3 (List.mem_of_getElem? (i := 25) rfl)) rfl), rfl⟩⟩, ?_⟩
      refine lv_astore (lv' := [(4, .ref q), (0, .ref (γ.2.2.2 0)), (1, .int x1), (2, .int x2), (3, .ref o)]) hx hb dLaw_about_13 hl (by decide) rfl (fun ls hl => ?_)
      refine lv_iconst (v := 1) hx hb dLaw_about_15 (by decide) ?_
      exact hE _ _ _ _ _ _ _ hS (Nat.le_of_ble_eq_true rfl) (Nat.le_of_ble_eq_true rfl) (pwf_ex hPB hO1 (by decide)) dLaw_about_16
    · exact absurd hPB.1 tn_about_2
    · exact absurd hPB.1 tn_about_3
theorem qw_31b80ca6b2 : (Cond.methodLink R_Law 50 yTypeBook_value) ∈ bs_W0 := bs_in (in_tables_1_5 (List.mem_of_getElem? (i := 132) rfl)) rfl
set_option maxHeartbeats 4000000 in
set_option maxRecDepth 100000 in
theorem wf_value (l : Launch) (hst : l.stackTraces = false) (γ : gE) (A : Nat → Prop) (κ : Nat → Nat) (φ : gF) (ψ : gG) (s0 : State) (hw0 : SW s0) (hnc : NCs s0) (hA0 : ∀ q, A q → s0.heap.size ≤ q) (H0 : Heap) (o : Nat) (ho : ¬ A o) (g : Nat → Int64) (x1 : Int32) (x2 : Int32) : WM l yLaw_value bLaw_value 5 hLaw_value 7 104 50000 1000000 [.ref (γ.2.2.2 0), .int x1, .int x2, .ref o] γ (fun q => A q ∨ q = o) (PSwF s0 H0 γ A κ φ ψ o g) (mQi (fun r H => PWF γ A κ H0 o (P_TypeBook_value κ φ ψ x1 x2) [(1, 1), (3, 2)] r H) (fun q => A q ∨ q = o)) := by
  refine wm_open (by decide) (Nat.le_of_ble_eq_true rfl) ?_
  intro p e s m args below meth c ls Q S htab hC hA hPS hE hl
  obtain ⟨hF0, hH0, hI, hO, hAn⟩ := hPS
  subst hH0
  obtain ⟨hx, hb, hml, hown, hW⟩ := id S
  have hS : va_S (fun q => A q ∨ q = o) s.heap s.heap [] := va_S.rf
  have hl : lv_has ls 5 [(0, .ref (γ.2.2.2 0)), (1, .int x1), (2, .int x2), (3, .ref o)] := hl
  refine lv_aload_n hx hb dLaw_value_0 rfl (lv_at hl 3 rfl) ?_
  refine lv_iconst (v := 0) hx hb dLaw_value_1 (by decide) ?_
  refine lv_aload_n hx hb dLaw_value_2 rfl (lv_at hl 0 rfl) ?_
  refine lv_iload_n hx hb dLaw_value_3 rfl (lv_at hl 1 rfl) ?_
  refine lv_iload_n hx hb dLaw_value_4 rfl (lv_at hl 2 rfl) ?_
  refine tx_call (A := A) (A0 := (fun q => A q ∨ q = o)) (H0 := s.heap) (rest := [.int 0, .ref o]) S hC htab hAn (fun q h => Or.inl h) hS (xf_value l hst γ A κ φ ψ s0 hw0 hA0 s.heap x1 x2) psxf_bl meTypeBook_value qw_31b80ca6b2 ⟨Nat.le_of_ble_eq_true rfl, Nat.le_of_ble_eq_true rfl⟩ (rv_0 hC (inv_of hI)) (fun U hU hWU => ⟨by rw [hU]; exact hF0.warm hWU, hU, by rw [hU]; exact hI⟩) rfl hl.1 rfl (Nat.le_of_ble_eq_true rfl) dLaw_value_5 ⟨Nat.le_of_ble_eq_true rfl, Nat.le_of_ble_eq_true rfl⟩ (fun E H1 hx9 => hx9.2) (fun r H1 locs1 hPO hS hz hk => ?_) (fun E q H1 locs1 hXC hS => ?_)
  · have hO1 : OU γ o g H1 := hO.kept (hk o hO.lt ho)
    refine lv_i2l hx hb dLaw_value_8 rfl ?_
    refine ou_st S hC hO1 (Or.inr rfl) hS dLaw_value_9 (fun H2 locs2 hO2 hS hz2 hq2 => ?_)
    refine lv_goto (tgt := 21) hx hb dLaw_value_10 (by decide) ?_
    refine lv_iconst (v := 0) hx hb dLaw_value_21 (by decide) ?_
    exact hE _ _ _ _ _ _ _ hS (Nat.le_of_ble_eq_true rfl) (Nat.le_of_ble_eq_true rfl) (pwf_ok hPO ho hO1 hO2 hz2 hq2) dLaw_value_22
  · obtain ⟨⟨t9, hE9, hPB⟩, hfr⟩ := hXC
    have hO1 : OU γ o g H1 := hO.kept (hfr.2 o hO.lt ho)
    rcases hE9 with ⟨rfl, rfl⟩ | ⟨rfl, rfl⟩ | ⟨rfl, rfl⟩
    · refine ⟨13, ⟨⟨by decide, by decide⟩, by decide, "java/lang/IndexOutOfBoundsException", hW _ qw_1956a2fa33, Or.inl ⟨va_Nw.warmC hF0.1 (hw0.1 _ (in_tables_1_3 (List.mem_of_getElem? (i := 25) rfl)) rfl), rfl⟩⟩, ?_⟩
      refine lv_astore (lv' := [(4, .ref q), (0, .ref (γ.2.2.2 0)), (1, .int x1), (2, .int x2), (3, .ref o)]) hx hb dLaw_value_13 hl (by decide) rfl (fun ls hl => ?_)
      refine lv_iconst (v := 1) hx hb dLaw_value_15 (by decide) ?_
      exact hE _ _ _ _ _ _ _ hS (Nat.le_of_ble_eq_true rfl) (Nat.le_of_ble_eq_true rfl) (pwf_ex hPB hO1 (by decide)) dLaw_value_16
    · exact absurd hPB.1 tn_value_2
    · refine ⟨17, ⟨⟨by decide, by decide⟩, by decide, "java/lang/IndexOutOfBoundsException", hW _ qw_1956a2fa33, Or.inr ⟨va_Nc.moved hF0.1.alike hnc.2.1, ⟨⟨by decide, by decide⟩, by decide, "java/lang/IllegalStateException", hW _ qw_d3a77de564, Or.inl ⟨va_Nw.warmC hF0.1 (hw0.1 _ (in_tables_1_2 (List.mem_of_getElem? (i := 172) rfl)) rfl), rfl⟩⟩⟩⟩, ?_⟩
      refine lv_astore (lv' := [(4, .ref q), (0, .ref (γ.2.2.2 0)), (1, .int x1), (2, .int x2), (3, .ref o)]) hx hb dLaw_value_17 hl (by decide) rfl (fun ls hl => ?_)
      refine lv_iconst (v := 2) hx hb dLaw_value_19 (by decide) ?_
      exact hE _ _ _ _ _ _ _ hS (Nat.le_of_ble_eq_true rfl) (Nat.le_of_ble_eq_true rfl) (pwf_ex hPB hO1 (by decide)) dLaw_value_20
