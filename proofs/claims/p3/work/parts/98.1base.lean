-- ===== end of PART A; then your names; then what follows =====
/-! THE CLAIM OUT OF ONE WALK OF THE LAW'S BODY. Your part is whole_start (and what it stands on); all else here is the same for every law, but numbers. -/
def R_law : String := "TypeBookLaw"
def lw_P (b : Addr) (xs : List Int32) (args : Array Value) (s : State) : Prop := args = #[.ref b] ∧ s.IntsAt b xs ∧ xs.length ≤ 2560 ∧ (Jvm.Cond.and given_1 narrow_1).before args s = true
def lw_Q (_ : Array Value) (s : State) (o : Outcome) (t : State) : Prop := o = .returned (some (.int 1)) ∧ Framed s o t [] 601024 7293034
def lw_Z (below : List Frame) (a : Array Value) (s : State) : State → Prop := fun t => ∃ o, t.status = .running ∧ Ended t below o ∧ lw_Q a s o t
/-- the law's own end, with 1 on the stack, nothing written that was there before, its room as the claim has it -/
theorem lw_ret {p : Program} {l : Launch} {e : Env} {s : State} {m : MethodId} {below : List Frame} {meth : Method} {c : Code} {b : Nat} (hx : p.tables.exec = Jvm.exec) (hb : c.code = code) (hr : meth.sig.returnType = ret) (hlocks : meth.locks = false) {pc : Nat} {H : Heap} {ls : Array Slot} (hdg : decode code pc = .ok (.ireturn, 1)) : W p l e room_1 s m #[Value.ref b] below meth c H [] 601024 7293034 (lw_Z below #[Value.ref b] s) (F0 m pc ls [.int 1]) := by
  intro T hT X
  obtain ⟨fs, hret, hrun, hended, hW, hframe⟩ := X.leave (v := some (.int 1)) (hlocks := hlocks) (fun h => by rw [hr] at h; cases h)
  have hmeth' : T.vm.method? m = some meth := X.method'
  refine ⟨T.setFrames fs, ?_, .returned (some (.int 1)), hrun, hended, rfl, ⟨_, rfl⟩, hW, hframe⟩
  jvm_step X.here [X.here.top, hx, hb, hdg, hmeth', hr, ret, narrow_b1]
  (try refine ⟨rfl, ?_⟩); (try refine ⟨rfl, ?_⟩)
  first | (intro acts; rw [hret _ acts rfl rfl rfl]) | rw [hret _ _ rfl rfl rfl]
  exact Steps.refl _
/-- what holds at the law's entry: the machine, the code, the tables' words (any of lw_tbl by 'hts w (by decide +kernel)'), the script of L ints xs at the cell b, what the Statement gives of the start (any of its parts by flat_of_before) -/
def lw_At (p : Program) (s : State) (m : MethodId) (meth : Method) (c : Code) (b L : Nat) (xs : Nat → Int32) : Prop :=
  p.tables.exec = Jvm.exec ∧ c.code = code ∧ meth.sig.returnType = ret ∧ c.maxLocals = 7 ∧ s.vm.findClass R_law = some m.cls ∧ (∀ w ∈ lw_tbl, w.before #[Value.ref b] s = true) ∧ va_X b L xs s s.heap ∧ b < s.heap.size ∧ meth.locks = false ∧ (Jvm.Cond.and given_1 narrow_1).before #[Value.ref b] s = true
-- THE LAW's own methods: they have tables
abbrev R_Law : String := R_law
abbrev WM (l : Launch) (y : MethodName) (bytes : ByteArray) (maxL : Nat) (hh : List (Nat × Nat × Nat × Nat)) (fr lo mc ms : Nat) (av : List Value) (γ : gE) (A : Nat → Prop) (PS : State → Prop) (Qc : Array Value → State → Outcome → State → Prop) : Prop :=
  Met l y (Cond.codeWith y bytes maxL (some .int) hh :: bs_W0) (bs_rm fr mc ms lo) (va_Pc av (fun U => CX γ U ∧ (∀ q, U.heap.size ≤ q → A q) ∧ PS U)) Qc mc ms A
def bs_Mw (y : MethodName) (bytes : ByteArray) (maxL : Nat) (hh : List (Nat × Nat × Nat × Nat)) (n : Nat) : Prop :=
  Cond.static y ∈ bs_W0 ∧ Cond.initialized y.cls ∈ bs_W0 ∧ Cond.codeWith y bytes maxL (some .int) hh ∈ bs_W0 ∧ (y.cls ≠ "java/lang/invoke/MethodHandle" ∧ y.cls ≠ "java/lang/invoke/VarHandle" ∧ (parseMethodDescriptor y.desc).map (fun d => d.parameters.length) = some n)
/-- the law's row of one long -/
def OU (γ : gE) (o : Nat) (g : Nat → Int64) (H : Heap) : Prop := va_P γ.1 vwCl [(o, .inl (γ.2.2.1, 1, .inr (.inl g)))] H
theorem OU.lt {γ : gE} {o : Nat} {g : Nat → Int64} {H : Heap} (h : OU γ o g H) : o < H.size := (h 0 _ rfl).lt
theorem OU.kept {γ : gE} {o : Nat} {g : Nat → Int64} {H H1 : Heap} (h : OU γ o g H) (hq : H1[o]? = H[o]?) : OU γ o g H1 := va_P.kept h (fun k x hx => by
  have hz : k < 1 := (List.getElem?_eq_some_iff.mp hx).1
  rw [show k = 0 by omega] at hx
  cases hx
  exact hq)
section LWB
variable {p : Program} {l : Launch} {e : Env} {R : Room} {s : State} {m : MethodId} {args : Array Value} {below : List Frame} {meth : Method} {c : Code} {H H0 : Heap} {locs : List Loc} {cells slots : Nat} {Q : State → Prop} {T : State}
variable {y : MethodName} {bytes cc : ByteArray} {maxL nL mc ms n index fr lo : Nat} {own : String} {As rest st0 av : List Value} {pc : Nat} {ls : Array Slot} {γ : gE} {PS : State → Prop} {A A0 : Nat → Prop} {hh : List (Nat × Nat × Nat × Nat)}
theorem wm_open {PO : Int32 → Heap → Prop} (hy : plainName y.cls = true) (hn : (lg_sl av).length ≤ maxL)
    (body : ∀ (p : Program) (e : Env) (s : State) (m : MethodId) (args : Array Value) (below : List Frame) (meth : Method) (c : Code) (ls : Array Slot) (Q : State → Prop), bs_F p s m args c bytes maxL y.cls → c.exceptionTable.toList.map (fun h => (h.startPc, h.endPc, h.handlerPc, h.catchType)) = hh → CX γ s → (∀ q, s.heap.size ≤ q → A q) → PS s → (∀ (H : Heap) (locs : List Loc) (cells slots : Nat) (v : Int32) (pc : Nat) (ls : Array Slot), va_S A s.heap H locs → cells ≤ mc → slots ≤ ms → PO v H → decode bytes pc = .ok (.ireturn, 1) → W p l e (bs_rm fr mc ms lo) s m args below meth c H locs cells slots Q (F0 m pc ls [.int v])) → lv_has ls maxL (lv_args 0 av) → W p l e (bs_rm fr mc ms lo) s m args below meth c s.heap [] 0 0 Q (F0 m 0 ls [])) : WM l y bytes maxL hh fr lo mc ms av γ A PS (mQi PO A) := by
  refine va_MetW (cc := bytes) (maxL := maxL) (ret := some .int) (hh := hh) hy rfl ?_
  intro p e s m args below meth c s₁ B hml hv
  obtain ⟨rfl, hC, hA, hP⟩ := hv
  have hall := atoms_spec (ws := Cond.codeWith y bytes maxL (some .int) hh :: bs_W0) B.pre
  have hts := bs_hts hall
  obtain ⟨m9, meth9, c9, hn9, h1, h2, -, -, h5, -⟩ := Cond.codeWith_spec (hall _ List.mem_cons_self)
  have X := Stand.of_body B
  have hX : c.exceptionTable.toList.map (fun h => (h.startPc, h.endPc, h.handlerPc, h.catchType)) = hh := by
    cases Option.some.inj (B.named.symm.trans hn9)
    cases Option.some.inj (B.method.symm.trans h1)
    cases Option.some.inj (X.code.symm.trans h2)
    exact h5
  have hl := lv_entry av (n := maxL) hn
  rw [lg_entry_eq]
  refine body p e s m _ below meth c _ _ ⟨B.exec, B.bytes, hml, findClass_of_methodNamed B.named, hts⟩ hX hC hA hP (fun H locs cells slots v pc ls hS k1 k2 hp hdg => ?_) hl
  refine W.up k1 k2 ?_
  exact W.iret B.exec B.bytes B.returns (fun t ht _ => ⟨⟨v, v, rfl, rfl, by show PO v t.heap; rw [ht]; exact hp⟩, hS.F ht⟩) hS.2.2 hdg B.notSynchronized
theorem callSW (X : Stand p l e R s m args below meth c T locs cells slots) (hexec : p.tables.exec = Jvm.exec) {ret : Option FieldType}
    (hown : s.vm.findClass own = some m.cls) (hlink : (Cond.methodLink own index y).before args s = true) (hstat : (Cond.static y).before args s = true) (hinit : (Cond.initialized y.cls).before args s = true)
    (hcode : (Cond.codeWith y bytes maxL ret hh).before args s = true) (hy : y.cls ≠ "java/lang/invoke/MethodHandle" ∧ y.cls ≠ "java/lang/invoke/VarHandle")
    {W : Nat} {Pre : Pt → Array Value → Prop} {Post : Pt → Array Value → Option Value → Pt → Prop} (hK : Back l R p e below s args y 3 W Pre Post)
    {g : JFrame} (hg : g.method = m) (hsize : g.locals.size = c.maxLocals) {argsL rest : List Value} (hlen : ∀ sig, parseMethodDescriptor y.desc = some sig → argsL.length = sig.parameters.length)
    (hstack : g.stack = argsL.reverse ++ rest) (hW : 2 * g.monitorRoom + (rest.map fun v => v.category).sum ≤ W) (hdg : decode c.code g.pc = .ok (.invokestatic index, 3))
    (hpre : ∀ vm₁, s.WarmedH vm₁ → Pre ⟨T.setVm vm₁, locs, cells, slots⟩ argsL.toArray) :
    ∃ (v : Option Value) (vm₁ : Vm) (B : Pt), s.WarmedH vm₁ ∧ Stand p l e R s m args below meth c B.U B.locs B.cells B.slots ∧ Post ⟨T.setVm vm₁, locs, cells, slots⟩ argsL.toArray v B ∧
      ∀ target, Steps p.tables e below (B.U.setTop { g with pc := g.pc + 3, stack := v.toList ++ rest }) target → Steps p.tables e below (T.setTop g) target := by
  obtain ⟨mk, methM, cM, hnamed, hmethM, -, -, -, -, -, -, hsigM⟩ := Cond.codeWith_spec hcode
  have hstatic : methM.isStatic = true := Cond.static_spec hnamed hmethM hstat
  obtain ⟨kP, hkP, -⟩ := className_of_methodNamed hnamed
  have hinitP : kP.init = .initialized := Cond.initialized_spec (findClass_of_methodNamed hnamed) hkP hinit
  obtain ⟨vm₁, X₁, hstep₁⟩ := X.invokestatic hexec hown hlink hnamed hmethM hstatic hkP hinitP hy (g := g) hg (argsL := argsL) (rest := rest) (hlen _ hsigM) hstack hdg
  obtain ⟨v, B, X', hpost, hsteps⟩ := hK m meth c ⟨T.setVm vm₁, locs, cells, slots⟩ { g with stack := rest } (.invokestatic index) mk argsL.toArray X₁ hg hsize hdg hW (X₁.named hnamed) (hpre vm₁ X₁.warmed)
  exact ⟨v, vm₁, B, X₁.warmed, X', hpost, fun target h => hstep₁ _ fun acts => by rw [doInvoke_state]; exact hsteps.trans h⟩
theorem wm_Si {PO : Int32 → Heap → Prop} (S : bs_F p s m args c cc nL own) (hC : CX γ s) (hA : ∀ q, H.size ≤ q → A q) (hAA : ∀ q, A q → A0 q) (hS : va_S A0 H0 H locs) (hM : WM l y bytes maxL hh fr lo mc ms As γ A PS (mQi PO A)) (hbl : ∀ u U : State, u.vm = U.vm → u.heap = U.heap → PS u → PS U) (me : bs_Mw y bytes maxL hh n) (lk : Cond.methodLink own index y ∈ bs_W0) (hR : fr + 1 ≤ R.frames ∧ 8 + (maxL + 11) + lo ≤ R.locals) (hPS : ∀ U : State, U.heap = H → s.WarmedH U.vm → PS U) (hn : As.length = n) (hsz : ls.size = nL) (hst : st0 = As.reverse ++ rest) (hrm : (rest.map fun v => v.category).sum ≤ 8) (hdg : decode cc pc = .ok (.invokestatic index, 3)) (hf : cells + mc ≤ R.cells ∧ slots + ms ≤ R.slots)
    (kk : ∀ (r : Int32) (H1 : Heap) (locs1 : List Loc), PO r H1 → va_S A0 H0 H1 locs1 → H.size ≤ H1.size → (∀ q : Nat, q < H.size → ¬ A q → H1[q]? = H[q]?) → W p l e R s m args below meth c H1 locs1 (cells + mc) (slots + ms) Q (F0 m (pc + 3) ls (.int r :: rest))) : W p l e R s m args below meth c H locs cells slots Q (F0 m pc ls st0) := by
  obtain ⟨m1, m3, m4, m5, m6, m7⟩ := me
  have hW := S.2.2.2.2
  have hws : ∀ w ∈ Cond.codeWith y bytes maxL (some .int) hh :: bs_W0, ∀ (a' : Array Value) (U : State), s.WarmedH U.vm → w.before a' U = true := fun w hw a' U hWU => by
    rcases List.mem_cons.mp hw with rfl | hw
    · exact word_at hWU (good_of_word (List.mem_filter.mp m4).2) (hW _ m4)
    · exact word_at hWU (good_of_word (List.mem_filter.mp hw).2) (hW _ hw)
  have hK : Back l R p e below s args y 3 8 (PreOf R mc ms _) (PostOf (mQi PO A) mc ms A) := va_backW (hh := hh) (bytes := bytes) (maxL := maxL) (ret := some .int) hM (tx_blind hbl) rfl rfl hR.1 hR.2 hws List.mem_cons_self (fun a' U hWU => word_at hWU (good_of_word (List.mem_filter.mp m3).2) (hW _ m3))
  have hRun : va_Run p l e R s m args below meth c H locs cells slots mc ms (F0 m pc ls st0) rest (mQi PO A As.toArray) A := by
    obtain ⟨hx, hb, hml, ho, -⟩ := S
    intro T hT X
    obtain ⟨v, vm₁, ⟨U', l2, c2, s2⟩, hW₁, X', ⟨g', mk, t, L, e1, e2, hq, h1, hL, h2, h3⟩, st⟩ := callSW X hx (bytes := bytes) (maxL := maxL) (ret := some .int) (hh := hh) ho (hW _ lk) (hW _ m1) (hW _ m3) (hW _ m4) ⟨m5, m6⟩ hK (g := F0 m pc ls st0) rfl (hsz.trans hml.symm) (argsL := As) (rest := rest) (fun sig h => by
      rw [h] at m7
      exact hn.trans (Option.some.inj m7).symm) hst (lv_room hrm) (by rw [hb]; exact hdg)
      (fun vm₁ hW₁ => ⟨hf.1, hf.2, rfl, hC.warm hW₁, by show ∀ q, T.heap.size ≤ q → A q; rw [hT]; exact hA, hPS (T.setVm vm₁) hT hW₁⟩)
    dsimp only [Pt.U, Pt.locs, Pt.cells, Pt.slots] at X' e1 e2 h1 h2 h3 st
    subst h1; subst h2; subst h3
    exact ⟨v, (T.setVm vm₁).calling g' mk As.toArray, t, U', L, hT, X', hL, e1, e2, hq, st⟩
  exact va_calli hRun hS (fun q _ h => hAA q h) hAA (fun r u t H1 locs1 ht _ hw hB hz hk hS1 => kk r H1 locs1 (by cases hw; rw [← ht]; exact hB) hS1 hz hk)
theorem ou_st {o : Nat} {g : Nat → Int64} (S : bs_F p s m args c cc nL own) (hC : CX γ s) (hO : OU γ o g H) (ho : A o) (hS : va_S A H0 H locs) {x : Int64} (hdg : decode cc pc = .ok (.lastore, 1))
    (kk : ∀ (H1 : Heap) (locs1 : List Loc), OU γ o (vp_updL g 0 x) H1 → va_S A H0 H1 locs1 → H1.size = H.size → (∀ q, q ≠ o → H1[q]? = H[q]?) → W p l e R s m args below meth c H1 locs1 cells slots Q (F0 m (pc + 1) ls rest)) : W p l e R s m args below meth c H locs cells slots Q (F0 m pc ls (.long x :: .int 0 :: .ref o :: rest)) := by
  refine W.last S.1 S.2.1 (hO 0 _ rfl) ((hC.1.2 1 _ rfl).1 1 (fun j => .long (g j))) (fun q => by cases q) (by show ¬ ((0 : Int32) < 0 ∨ (arrV _ _ _).slots.size ≤ _); rw [arrV_size]; exact (vp_in_nI (n := 0) (N := 1) (by omega) (by omega))) rfl rfl hdg fun H1 e z oq => ?_
  refine kk H1 _ ?_ (hS.put z oq ho) z oq
  intro k x9 hx9
  have hz : k < 1 := (List.getElem?_eq_some_iff.mp hx9).1
  rw [show k = 0 by omega] at hx9
  cases hx9
  show H1[o]? = some (vp_cell _ _)
  rw [e]
  show some ((vp_cell γ.2.2.1 (1, .inr (.inl g))).setSlot _ _) = _
  rw [vp_cell_l, vp_cell_l, arrV_store]
  congr 2
  funext q
  by_cases hq : q = 0
  · subst hq
    simp [updV, vp_updL]
  · simp [updV, vp_updL, hq]
theorem ou_ld {o : Nat} {g : Nat → Int64} (S : bs_F p s m args c cc nL own) (hC : CX γ s) (hO : OU γ o g H) (hdg : decode cc pc = .ok (.laload, 1))
    (kk : W p l e R s m args below meth c H locs cells slots Q (F0 m (pc + 1) ls (.long (g 0) :: rest))) : W p l e R s m args below meth c H locs cells slots Q (F0 m pc ls (.int 0 :: .ref o :: rest)) :=
  va_lald S.1 S.2.1 hC.1 hO 0 1 rfl rfl (i := 0) (vp_in_nI (n := 0) (N := 1) (by omega) (by omega)) hdg kk
end LWB
theorem gr_st {γ : gE} {o k n : Nat} {g g' : Nat → Int64} {H0 H H1 : Heap} (h : GR H0 H k n) (hO : OU γ o g H) (hO1 : OU γ o g' H1) (hz : H1.size = H.size) (hq : ∀ q, q ≠ o → H1[q]? = H[q]?) : GR H0 H1 k n := by
  have h1 : GR H H1 0 0 := by
    refine ⟨Nat.le_of_eq hz.symm, by omega, ?_, fun a c hc => ?_⟩
    · unfold gsum
      rw [List.drop_eq_nil_of_le (Nat.le_of_eq (by simp [hz]))]
      exact Nat.le_refl _
    · by_cases ha : a = o
      · subst ha
        have e1 : H[a]? = some (vp_cell γ.2.2.1 (1, .inr (.inl g))) := hO 0 _ rfl
        have e2 : H1[a]? = some (vp_cell γ.2.2.1 (1, .inr (.inl g'))) := hO1 0 _ rfl
        cases Option.some.inj (e1.symm.trans hc)
        exact ⟨_, e2, by rw [vp_cell_l, vp_cell_l, arrV_size, arrV_size]⟩
      · exact ⟨c, (hq a ha).trans hc, rfl⟩
  exact h.trans h1
theorem inv_off {γ : gE} {A : Nat → Prop} {κ : Nat → Nat} {H H1 : Heap} (hI : INV γ A κ H) (hk : ∀ q : Nat, A q → q < H.size → H1[q]? = H[q]?) : INV γ A κ H1 := by
  obtain ⟨ρ, hρ, hc⟩ := hI
  exact ⟨ρ, hρ, fun i h1 h2 => cmp_kept (hc i h1 h2) (fun q hq h => hk q (hρ q (by rw [hq]; omega)) h) (fun q h _ => h)⟩
theorem pb_st {γ : gE} {A : Nat → Prop} {κ : Nat → Nat} {H0 H H1 : Heap} {rel : (Nat → Nat) → Prop} {o : Nat} {g g' : Nat → Int64} (h : PB γ A κ H0 rel H) (ho : ¬ A o) (hO : OU γ o g H) (hO1 : OU γ o g' H1) (hz : H1.size = H.size) (hq : ∀ q, q ≠ o → H1[q]? = H[q]?) : PB γ A κ H0 rel H1 := by
  obtain ⟨κ', hI, hr, hp, hG⟩ := h
  exact ⟨κ', inv_off hI (fun q h1 _ => hq q (fun e => ho (by rw [← e]; exact h1))), hr, hp, gr_st hG hO hO1 hz hq⟩
theorem PB.mono {γ : gE} {A : Nat → Prop} {κ : Nat → Nat} {H0 H : Heap} {rel rel' : (Nat → Nat) → Prop} (h : PB γ A κ H0 rel H) (hr : ∀ k, rel k → rel' k) : PB γ A κ H0 rel' H := by
  obtain ⟨κ', hI, h1, h2⟩ := h
  exact ⟨κ', hI, hr _ h1, h2⟩
abbrev xIAE : String := "java/lang/IllegalArgumentException"
abbrev xISE : String := "java/lang/IllegalStateException"
abbrev xIOB : String := "java/lang/IndexOutOfBoundsException"
def NCs (s0 : State) : Prop := va_Nc xISE xIAE s0 ∧ va_Nc xISE xIOB s0 ∧ va_Nc xIAE xIOB s0
def PSx (s0 : State) (H0 : Heap) (γ : gE) (A : Nat → Prop) (κ : Nat → Nat) (U : State) : Prop := FB s0 U U.heap ∧ U.heap = H0 ∧ INV γ A κ U.heap
theorem psx_bl {s0 : State} {H0 : Heap} {γ : gE} {A : Nat → Prop} {κ : Nat → Nat} : ∀ u U : State, u.vm = U.vm → u.heap = U.heap → (FB s0 u u.heap ∧ u.heap = H0 ∧ INV γ A κ u.heap) → (FB s0 U U.heap ∧ U.heap = H0 ∧ INV γ A κ U.heap) := fun u U hv hh h => ⟨by rw [← hh]; exact h.1.same hv, by rw [← hh]; exact h.2.1, by rw [← hh]; exact h.2.2⟩
/-- what a wrapping method asks -/
def PSw (s0 : State) (H0 : Heap) (γ : gE) (A : Nat → Prop) (κ : Nat → Nat) (o : Nat) (g : Nat → Int64) (U : State) : Prop := FB s0 U U.heap ∧ U.heap = H0 ∧ INV γ A κ U.heap ∧ OU γ o g U.heap ∧ ∀ q, U.heap.size ≤ q → A q
theorem psw_bl {s0 : State} {H0 : Heap} {γ : gE} {A : Nat → Prop} {κ : Nat → Nat} {o : Nat} {g : Nat → Int64} : ∀ u U : State, u.vm = U.vm → u.heap = U.heap → PSw s0 H0 γ A κ o g u → PSw s0 H0 γ A κ o g U := fun u U hv hh h => ⟨by rw [← hh]; exact h.1.same hv, by rw [← hh]; exact h.2.1, by rw [← hh]; exact h.2.2.1, by rw [← hh]; exact h.2.2.2.1, by rw [← hh]; exact h.2.2.2.2⟩
