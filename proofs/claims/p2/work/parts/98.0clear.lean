theorem qw_a8607651af : (Cond.methodLink R_TypeBook 96 yTrees_fell) ∈ bs_W0 := bs_in (in_tables_1_2 (List.mem_of_getElem? (i := 78) rfl)) rfl
set_option maxHeartbeats 4000000 in
set_option maxRecDepth 100000 in
theorem k_TypeBook_clear (l : Launch) (γ : gE) (A : Nat → Prop) (κ : Nat → Nat)   : MU l yTypeBook_clear bTypeBook_clear 2 (some .int) 1 20 0 0 [.ref (γ.2.2.2 0)] γ A (INV γ A κ) (mQi (fun r H => r = nI (κ 0) ∧ INV γ A (ku (ku κ 0 (0)) 1 (0)) H) A) := by
  refine mu_openI (by decide) (Nat.le_of_ble_eq_true rfl) ?_
  intro p e s m args below meth c ls Q S hnm hC hA hI hE hl
  obtain ⟨hx, hb, hml, hown, hW⟩ := id S
  have hS : va_S A s.heap s.heap [] := va_S.rf
  have hl : lv_has ls 2 [(0, .ref (γ.2.2.2 0))] := hl
  refine lv_aload_n hx hb dTypeBook_clear_0 rfl (lv_at hl 0 rfl) ?_
  refine of_get S hC (of_0_0 hI) in_TypeBook rfl (by decide) qw_6151ee7924 dTypeBook_clear_1 ?_
  refine of_getN S hC (of_1_4 hI) in_Trees rfl (by decide) qn_307125c060 dTypeBook_clear_4 ?_
  refine lv_topi (fun v3 ev3 => ?_)
  have ev3 : v3 = nI (κ 0) := ev3
  refine lv_istore_n (lv' := [(1, .int v3), (0, .ref (γ.2.2.2 0))]) hx hb dTypeBook_clear_7 rfl hl (by decide) rfl (fun ls hl => ?_)
  refine lv_aload_n hx hb dTypeBook_clear_8 rfl (lv_at hl 1 rfl) ?_
  refine of_get S hC (of_0_0 hI) in_TypeBook rfl (by decide) qw_6151ee7924 dTypeBook_clear_9 ?_
  refine mu_Vv (rest := []) S hC (fun q h => hA q (Nat.le_trans hS.1 h)) (fun q h => h) hS (k1_Trees_fell l γ A κ ) meTrees_fell qw_a8607651af ⟨Nat.le_of_ble_eq_true rfl, Nat.le_of_ble_eq_true rfl⟩ (rv_1 hC hI) hI rfl hl.1 rfl (Nat.le_of_ble_eq_true rfl) dTypeBook_clear_12 ⟨(by show 0 + 0 ≤ 0; omega), (by show 0 + 0 ≤ 0; omega)⟩ (fun H locs hI hS _ _ => ?_)
  have hI : INV γ A (ku (ku κ 0 (0)) 1 (0)) _ := hI
  refine lv_iload_n hx hb dTypeBook_clear_15 rfl (lv_at hl 0 rfl) ?_
  exact hE _ _ v3 16 ls hS ⟨by assumption, hI⟩ dTypeBook_clear_16
-- ===== end of PART A; then your names; then what follows =====
/-! THE CLAIM OUT OF ONE WALK OF THE LAW'S BODY. Your part is whole_start (and what it stands on); all else here is the same for every law, but numbers. -/
def R_law : String := "TypeBookLaw"
def lw_P (b : Addr) (xs : List Int32) (args : Array Value) (s : State) : Prop := args = #[.ref b] ∧ s.IntsAt b xs ∧ xs.length ≤ 2560 ∧ (Jvm.Cond.and given_1 narrow_1).before args s = true
def lw_Q (_ : Array Value) (s : State) (o : Outcome) (t : State) : Prop := o = .returned (some (.int 1)) ∧ Framed s o t [] 601024 7293034
def lw_Z (below : List Frame) (a : Array Value) (s : State) : State → Prop := fun t => ∃ o, t.status = .running ∧ Ended t below o ∧ lw_Q a s o t
/-- the law's own end, with 1 on the stack, nothing written that was there before, its room as the claim has it -/
theorem lw_ret {p : Program} {l : Launch} {e : Env} {s : State} {m : MethodId} {below : List Frame} {meth : Method} {c : Code} {b : Nat} (hx : p.tables.exec = Jvm.exec) (hb : c.code = code) (hr : meth.sig.returnType = ret) (hlocks : meth.locks = false) {pc : Nat} {H : Heap} {ls : Array Slot} (hdg : decode code pc = .ok (.ireturn, 1)) : W p l e room_1 s m #[Value.ref b] below meth c H [] 601024 7293034 (lw_Z below #[Value.ref b] s) (F0 m pc ls [.int 1]) := by
  intro T hT X
  obtain ⟨fs, hret, hrun, hended, hW, hframe⟩ := X.leave (v := some (.int 1)) (hlocks := hlocks) (fun h => by rw [hr] at h; cases h)
  have hmeth' : T.vm.method? m = some meth := X.method'
  refine ⟨T.setFrames fs, ?_, .returned (some (.int 1)), hrun, hended, rfl, ⟨_, rfl⟩, hW, hframe⟩
  jvm_step X.here [X.here.top, hx, hb, hdg, hmeth', hr, ret, narrow_b1]
  (try refine ⟨rfl, ?_⟩); (try refine ⟨rfl, ?_⟩)
  first | (intro acts; rw [hret _ acts rfl rfl rfl]) | rw [hret _ _ rfl rfl rfl]
  exact Steps.refl _
/-- what holds at the law's entry: the machine, the code, the tables' words (any of lw_tbl by 'hts w (by decide +kernel)'), the script of L ints xs at the cell b, what the Statement gives of the start (any of its parts by flat_of_before) -/
def lw_At (p : Program) (s : State) (m : MethodId) (meth : Method) (c : Code) (b L : Nat) (xs : Nat → Int32) : Prop :=
  p.tables.exec = Jvm.exec ∧ c.code = code ∧ meth.sig.returnType = ret ∧ c.maxLocals = 7 ∧ s.vm.findClass R_law = some m.cls ∧ (∀ w ∈ lw_tbl, w.before #[Value.ref b] s = true) ∧ va_X b L xs s s.heap ∧ b < s.heap.size ∧ meth.locks = false ∧ (Jvm.Cond.and given_1 narrow_1).before #[Value.ref b] s = true
-- THE LAW's own methods: they have tables
abbrev R_Law : String := R_law
abbrev WM (l : Launch) (y : MethodName) (bytes : ByteArray) (maxL : Nat) (hh : List (Nat × Nat × Nat × Nat)) (fr lo mc ms : Nat) (av : List Value) (γ : gE) (A : Nat → Prop) (PS : State → Prop) (Qc : Array Value → State → Outcome → State → Prop) : Prop :=
  Met l y (Cond.codeWith y bytes maxL (some .int) hh :: bs_W0) (bs_rm fr mc ms lo) (va_Pc av (fun U => CX γ U ∧ (∀ q, U.heap.size ≤ q → A q) ∧ PS U)) Qc mc ms A
def bs_Mw (y : MethodName) (bytes : ByteArray) (maxL : Nat) (hh : List (Nat × Nat × Nat × Nat)) (n : Nat) : Prop :=
  Cond.static y ∈ bs_W0 ∧ Cond.initialized y.cls ∈ bs_W0 ∧ Cond.codeWith y bytes maxL (some .int) hh ∈ bs_W0 ∧ (y.cls ≠ "java/lang/invoke/MethodHandle" ∧ y.cls ≠ "java/lang/invoke/VarHandle" ∧ (parseMethodDescriptor y.desc).map (fun d => d.parameters.length) = some n)
/-- the law's row of one long -/
def OU (γ : gE) (o : Nat) (g : Nat → Int64) (H : Heap) : Prop := va_P γ.1 vwCl [(o, .inl (γ.2.2.1, 1, .inr (.inl g)))] H
theorem OU.lt {γ : gE} {o : Nat} {g : Nat → Int64} {H : Heap} (h : OU γ o g H) : o < H.size := (h 0 _ rfl).lt
theorem OU.kept {γ : gE} {o : Nat} {g : Nat → Int64} {H H1 : Heap} (h : OU γ o g H) (hq : H1[o]? = H[o]?) : OU γ o g H1 := va_P.kept h (fun k x hx => by
  have hz : k < 1 := (List.getElem?_eq_some_iff.mp hx).1
  rw [show k = 0 by omega] at hx
  cases hx
  exact hq)
section LWB
variable {p : Program} {l : Launch} {e : Env} {R : Room} {s : State} {m : MethodId} {args : Array Value} {below : List Frame} {meth : Method} {c : Code} {H H0 : Heap} {locs : List Loc} {cells slots : Nat} {Q : State → Prop} {T : State}
variable {y : MethodName} {bytes cc : ByteArray} {maxL nL mc ms n index fr lo : Nat} {own : String} {As rest st0 av : List Value} {pc : Nat} {ls : Array Slot} {γ : gE} {PS : State → Prop} {A A0 : Nat → Prop} {hh : List (Nat × Nat × Nat × Nat)}
theorem wm_open {PO : Int32 → Heap → Prop} (hy : plainName y.cls = true) (hn : (lg_sl av).length ≤ maxL)
    (body : ∀ (p : Program) (e : Env) (s : State) (m : MethodId) (args : Array Value) (below : List Frame) (meth : Method) (c : Code) (ls : Array Slot) (Q : State → Prop), bs_F p s m args c bytes maxL y.cls → c.exceptionTable.toList.map (fun h => (h.startPc, h.endPc, h.handlerPc, h.catchType)) = hh → CX γ s → (∀ q, s.heap.size ≤ q → A q) → PS s → (∀ (H : Heap) (locs : List Loc) (cells slots : Nat) (v : Int32) (pc : Nat) (ls : Array Slot), va_S A s.heap H locs → cells ≤ mc → slots ≤ ms → PO v H → decode bytes pc = .ok (.ireturn, 1) → W p l e (bs_rm fr mc ms lo) s m args below meth c H locs cells slots Q (F0 m pc ls [.int v])) → lv_has ls maxL (lv_args 0 av) → W p l e (bs_rm fr mc ms lo) s m args below meth c s.heap [] 0 0 Q (F0 m 0 ls [])) : WM l y bytes maxL hh fr lo mc ms av γ A PS (mQi PO A) := by
  refine va_MetW (cc := bytes) (maxL := maxL) (ret := some .int) (hh := hh) hy rfl ?_
  intro p e s m args below meth c s₁ B hml hv
  obtain ⟨rfl, hC, hA, hP⟩ := hv
  have hall := atoms_spec (ws := Cond.codeWith y bytes maxL (some .int) hh :: bs_W0) B.pre
  have hts := bs_hts hall
  obtain ⟨m9, meth9, c9, hn9, h1, h2, -, -, h5, -⟩ := Cond.codeWith_spec (hall _ List.mem_cons_self)
  have X := Stand.of_body B
  have hX : c.exceptionTable.toList.map (fun h => (h.startPc, h.endPc, h.handlerPc, h.catchType)) = hh := by
    cases Option.some.inj (B.named.symm.trans hn9)
    cases Option.some.inj (B.method.symm.trans h1)
    cases Option.some.inj (X.code.symm.trans h2)
    exact h5
  have hl := lv_entry av (n := maxL) hn
  rw [lg_entry_eq]
  refine body p e s m _ below meth c _ _ ⟨B.exec, B.bytes, hml, findClass_of_methodNamed B.named, hts⟩ hX hC hA hP (fun H locs cells slots v pc ls hS k1 k2 hp hdg => ?_) hl
  refine W.up k1 k2 ?_
  exact W.iret B.exec B.bytes B.returns (fun t ht _ => ⟨⟨v, v, rfl, rfl, by show PO v t.heap; rw [ht]; exact hp⟩, hS.F ht⟩) hS.2.2 hdg B.notSynchronized
theorem callSW (X : Stand p l e R s m args below meth c T locs cells slots) (hexec : p.tables.exec = Jvm.exec) {ret : Option FieldType}
    (hown : s.vm.findClass own = some m.cls) (hlink : (Cond.methodLink own index y).before args s = true) (hstat : (Cond.static y).before args s = true) (hinit : (Cond.initialized y.cls).before args s = true)
    (hcode : (Cond.codeWith y bytes maxL ret hh).before args s = true) (hy : y.cls ≠ "java/lang/invoke/MethodHandle" ∧ y.cls ≠ "java/lang/invoke/VarHandle")
    {W : Nat} {Pre : Pt → Array Value → Prop} {Post : Pt → Array Value → Option Value → Pt → Prop} (hK : Back l R p e below s args y 3 W Pre Post)
    {g : JFrame} (hg : g.method = m) (hsize : g.locals.size = c.maxLocals) {argsL rest : List Value} (hlen : ∀ sig, parseMethodDescriptor y.desc = some sig → argsL.length = sig.parameters.length)
    (hstack : g.stack = argsL.reverse ++ rest) (hW : 2 * g.monitorRoom + (rest.map fun v => v.category).sum ≤ W) (hdg : decode c.code g.pc = .ok (.invokestatic index, 3))
    (hpre : ∀ vm₁, s.WarmedH vm₁ → Pre ⟨T.setVm vm₁, locs, cells, slots⟩ argsL.toArray) :
    ∃ (v : Option Value) (vm₁ : Vm) (B : Pt), s.WarmedH vm₁ ∧ Stand p l e R s m args below meth c B.U B.locs B.cells B.slots ∧ Post ⟨T.setVm vm₁, locs, cells, slots⟩ argsL.toArray v B ∧
      ∀ target, Steps p.tables e below (B.U.setTop { g with pc := g.pc + 3, stack := v.toList ++ rest }) target → Steps p.tables e below (T.setTop g) target := by
  obtain ⟨mk, methM, cM, hnamed, hmethM, -, -, -, -, -, -, hsigM⟩ := Cond.codeWith_spec hcode
  have hstatic : methM.isStatic = true := Cond.static_spec hnamed hmethM hstat
  obtain ⟨kP, hkP, -⟩ := className_of_methodNamed hnamed
  have hinitP : kP.init = .initialized := Cond.initialized_spec (findClass_of_methodNamed hnamed) hkP hinit
  obtain ⟨vm₁, X₁, hstep₁⟩ := X.invokestatic hexec hown hlink hnamed hmethM hstatic hkP hinitP hy (g := g) hg (argsL := argsL) (rest := rest) (hlen _ hsigM) hstack hdg
  obtain ⟨v, B, X', hpost, hsteps⟩ := hK m meth c ⟨T.setVm vm₁, locs, cells, slots⟩ { g with stack := rest } (.invokestatic index) mk argsL.toArray X₁ hg hsize hdg hW (X₁.named hnamed) (hpre vm₁ X₁.warmed)
  exact ⟨v, vm₁, B, X₁.warmed, X', hpost, fun target h => hstep₁ _ fun acts => by rw [doInvoke_state]; exact hsteps.trans h⟩
theorem wm_Si {PO : Int32 → Heap → Prop} (S : bs_F p s m args c cc nL own) (hC : CX γ s) (hA : ∀ q, H.size ≤ q → A q) (hAA : ∀ q, A q → A0 q) (hS : va_S A0 H0 H locs) (hM : WM l y bytes maxL hh fr lo mc ms As γ A PS (mQi PO A)) (hbl : ∀ u U : State, u.vm = U.vm → u.heap = U.heap → PS u → PS U) (me : bs_Mw y bytes maxL hh n) (lk : Cond.methodLink own index y ∈ bs_W0) (hR : fr + 1 ≤ R.frames ∧ 8 + (maxL + 11) + lo ≤ R.locals) (hPS : ∀ U : State, U.heap = H → s.WarmedH U.vm → PS U) (hn : As.length = n) (hsz : ls.size = nL) (hst : st0 = As.reverse ++ rest) (hrm : (rest.map fun v => v.category).sum ≤ 8) (hdg : decode cc pc = .ok (.invokestatic index, 3)) (hf : cells + mc ≤ R.cells ∧ slots + ms ≤ R.slots)
    (kk : ∀ (r : Int32) (H1 : Heap) (locs1 : List Loc), PO r H1 → va_S A0 H0 H1 locs1 → H.size ≤ H1.size → (∀ q : Nat, q < H.size → ¬ A q → H1[q]? = H[q]?) → W p l e R s m args below meth c H1 locs1 (cells + mc) (slots + ms) Q (F0 m (pc + 3) ls (.int r :: rest))) : W p l e R s m args below meth c H locs cells slots Q (F0 m pc ls st0) := by
  obtain ⟨m1, m3, m4, m5, m6, m7⟩ := me
  have hW := S.2.2.2.2
  have hws : ∀ w ∈ Cond.codeWith y bytes maxL (some .int) hh :: bs_W0, ∀ (a' : Array Value) (U : State), s.WarmedH U.vm → w.before a' U = true := fun w hw a' U hWU => by
    rcases List.mem_cons.mp hw with rfl | hw
    · exact word_at hWU (good_of_word (List.mem_filter.mp m4).2) (hW _ m4)
    · exact word_at hWU (good_of_word (List.mem_filter.mp hw).2) (hW _ hw)
  have hK : Back l R p e below s args y 3 8 (PreOf R mc ms _) (PostOf (mQi PO A) mc ms A) := va_backW (hh := hh) (bytes := bytes) (maxL := maxL) (ret := some .int) hM (tx_blind hbl) rfl rfl hR.1 hR.2 hws List.mem_cons_self (fun a' U hWU => word_at hWU (good_of_word (List.mem_filter.mp m3).2) (hW _ m3))
  have hRun : va_Run p l e R s m args below meth c H locs cells slots mc ms (F0 m pc ls st0) rest (mQi PO A As.toArray) A := by
    obtain ⟨hx, hb, hml, ho, -⟩ := S
    intro T hT X
    obtain ⟨v, vm₁, ⟨U', l2, c2, s2⟩, hW₁, X', ⟨g', mk, t, L, e1, e2, hq, h1, hL, h2, h3⟩, st⟩ := callSW X hx (bytes := bytes) (maxL := maxL) (ret := some .int) (hh := hh) ho (hW _ lk) (hW _ m1) (hW _ m3) (hW _ m4) ⟨m5, m6⟩ hK (g := F0 m pc ls st0) rfl (hsz.trans hml.symm) (argsL := As) (rest := rest) (fun sig h => by
      rw [h] at m7
      exact hn.trans (Option.some.inj m7).symm) hst (lv_room hrm) (by rw [hb]; exact hdg)
      (fun vm₁ hW₁ => ⟨hf.1, hf.2, rfl, hC.warm hW₁, by show ∀ q, T.heap.size ≤ q → A q; rw [hT]; exact hA, hPS (T.setVm vm₁) hT hW₁⟩)
    dsimp only [Pt.U, Pt.locs, Pt.cells, Pt.slots] at X' e1 e2 h1 h2 h3 st
    subst h1; subst h2; subst h3
    exact ⟨v, (T.setVm vm₁).calling g' mk As.toArray, t, U', L, hT, X', hL, e1, e2, hq, st⟩
  exact va_calli hRun hS (fun q _ h => hAA q h) hAA (fun r u t H1 locs1 ht _ hw hB hz hk hS1 => kk r H1 locs1 (by cases hw; rw [← ht]; exact hB) hS1 hz hk)
theorem ou_st {o : Nat} {g : Nat → Int64} (S : bs_F p s m args c cc nL own) (hC : CX γ s) (hO : OU γ o g H) (ho : A o) (hS : va_S A H0 H locs) {x : Int64} (hdg : decode cc pc = .ok (.lastore, 1))
    (kk : ∀ (H1 : Heap) (locs1 : List Loc), OU γ o (vp_updL g 0 x) H1 → va_S A H0 H1 locs1 → H1.size = H.size → (∀ q, q ≠ o → H1[q]? = H[q]?) → W p l e R s m args below meth c H1 locs1 cells slots Q (F0 m (pc + 1) ls rest)) : W p l e R s m args below meth c H locs cells slots Q (F0 m pc ls (.long x :: .int 0 :: .ref o :: rest)) := by
  refine W.last S.1 S.2.1 (hO 0 _ rfl) ((hC.1.2 1 _ rfl).1 1 (fun j => .long (g j))) (fun q => by cases q) (by show ¬ ((0 : Int32) < 0 ∨ (arrV _ _ _).slots.size ≤ _); rw [arrV_size]; exact (vp_in_nI (n := 0) (N := 1) (by omega) (by omega))) rfl rfl hdg fun H1 e z oq => ?_
  refine kk H1 _ ?_ (hS.put z oq ho) z oq
  intro k x9 hx9
  have hz : k < 1 := (List.getElem?_eq_some_iff.mp hx9).1
  rw [show k = 0 by omega] at hx9
  cases hx9
  show H1[o]? = some (vp_cell _ _)
  rw [e]
  show some ((vp_cell γ.2.2.1 (1, .inr (.inl g))).setSlot _ _) = _
  rw [vp_cell_l, vp_cell_l, arrV_store]
  congr 2
  funext q
  by_cases hq : q = 0
  · subst hq
    simp [updV, vp_updL]
  · simp [updV, vp_updL, hq]
theorem ou_ld {o : Nat} {g : Nat → Int64} (S : bs_F p s m args c cc nL own) (hC : CX γ s) (hO : OU γ o g H) (hdg : decode cc pc = .ok (.laload, 1))
    (kk : W p l e R s m args below meth c H locs cells slots Q (F0 m (pc + 1) ls (.long (g 0) :: rest))) : W p l e R s m args below meth c H locs cells slots Q (F0 m pc ls (.int 0 :: .ref o :: rest)) :=
  va_lald S.1 S.2.1 hC.1 hO 0 1 rfl rfl (i := 0) (vp_in_nI (n := 0) (N := 1) (by omega) (by omega)) hdg kk
end LWB
theorem gr_st {γ : gE} {o k n : Nat} {g g' : Nat → Int64} {H0 H H1 : Heap} (h : GR H0 H k n) (hO : OU γ o g H) (hO1 : OU γ o g' H1) (hz : H1.size = H.size) (hq : ∀ q, q ≠ o → H1[q]? = H[q]?) : GR H0 H1 k n := by
  have h1 : GR H H1 0 0 := by
    refine ⟨Nat.le_of_eq hz.symm, by omega, ?_, fun a c hc => ?_⟩
    · unfold gsum
      rw [List.drop_eq_nil_of_le (Nat.le_of_eq (by simp [hz]))]
      exact Nat.le_refl _
    · by_cases ha : a = o
      · subst ha
        have e1 : H[a]? = some (vp_cell γ.2.2.1 (1, .inr (.inl g))) := hO 0 _ rfl
        have e2 : H1[a]? = some (vp_cell γ.2.2.1 (1, .inr (.inl g'))) := hO1 0 _ rfl
        cases Option.some.inj (e1.symm.trans hc)
        exact ⟨_, e2, by rw [vp_cell_l, vp_cell_l, arrV_size, arrV_size]⟩
      · exact ⟨c, (hq a ha).trans hc, rfl⟩
  exact h.trans h1
theorem inv_off {γ : gE} {A : Nat → Prop} {κ : Nat → Nat} {H H1 : Heap} (hI : INV γ A κ H) (hk : ∀ q : Nat, A q → q < H.size → H1[q]? = H[q]?) : INV γ A κ H1 := by
  obtain ⟨ρ, hρ, hc⟩ := hI
  exact ⟨ρ, hρ, fun i h1 h2 => cmp_kept (hc i h1 h2) (fun q hq h => hk q (hρ q (by rw [hq]; omega)) h) (fun q h _ => h)⟩
theorem pb_st {γ : gE} {A : Nat → Prop} {κ : Nat → Nat} {H0 H H1 : Heap} {rel : (Nat → Nat) → Prop} {o : Nat} {g g' : Nat → Int64} (h : PB γ A κ H0 rel H) (ho : ¬ A o) (hO : OU γ o g H) (hO1 : OU γ o g' H1) (hz : H1.size = H.size) (hq : ∀ q, q ≠ o → H1[q]? = H[q]?) : PB γ A κ H0 rel H1 := by
  obtain ⟨κ', hI, hr, hp, hG⟩ := h
  exact ⟨κ', inv_off hI (fun q h1 _ => hq q (fun e => ho (by rw [← e]; exact h1))), hr, hp, gr_st hG hO hO1 hz hq⟩
theorem PB.mono {γ : gE} {A : Nat → Prop} {κ : Nat → Nat} {H0 H : Heap} {rel rel' : (Nat → Nat) → Prop} (h : PB γ A κ H0 rel H) (hr : ∀ k, rel k → rel' k) : PB γ A κ H0 rel' H := by
  obtain ⟨κ', hI, h1, h2⟩ := h
  exact ⟨κ', hI, hr _ h1, h2⟩
abbrev xIAE : String := "java/lang/IllegalArgumentException"
abbrev xISE : String := "java/lang/IllegalStateException"
abbrev xIOB : String := "java/lang/IndexOutOfBoundsException"
def NCs (s0 : State) : Prop := va_Nc xISE xIAE s0 ∧ va_Nc xISE xIOB s0 ∧ va_Nc xIAE xIOB s0
def PSx (s0 : State) (H0 : Heap) (γ : gE) (A : Nat → Prop) (κ : Nat → Nat) (U : State) : Prop := FB s0 U U.heap ∧ U.heap = H0 ∧ INV γ A κ U.heap
theorem psx_bl {s0 : State} {H0 : Heap} {γ : gE} {A : Nat → Prop} {κ : Nat → Nat} : ∀ u U : State, u.vm = U.vm → u.heap = U.heap → (FB s0 u u.heap ∧ u.heap = H0 ∧ INV γ A κ u.heap) → (FB s0 U U.heap ∧ U.heap = H0 ∧ INV γ A κ U.heap) := fun u U hv hh h => ⟨by rw [← hh]; exact h.1.same hv, by rw [← hh]; exact h.2.1, by rw [← hh]; exact h.2.2⟩
/-- what a wrapping method asks -/
def PSw (s0 : State) (H0 : Heap) (γ : gE) (A : Nat → Prop) (κ : Nat → Nat) (o : Nat) (g : Nat → Int64) (U : State) : Prop := FB s0 U U.heap ∧ U.heap = H0 ∧ INV γ A κ U.heap ∧ OU γ o g U.heap ∧ ∀ q, U.heap.size ≤ q → A q
theorem psw_bl {s0 : State} {H0 : Heap} {γ : gE} {A : Nat → Prop} {κ : Nat → Nat} {o : Nat} {g : Nat → Int64} : ∀ u U : State, u.vm = U.vm → u.heap = U.heap → PSw s0 H0 γ A κ o g u → PSw s0 H0 γ A κ o g U := fun u U hv hh h => ⟨by rw [← hh]; exact h.1.same hv, by rw [← hh]; exact h.2.1, by rw [← hh]; exact h.2.2.1, by rw [← hh]; exact h.2.2.2.1, by rw [← hh]; exact h.2.2.2.2⟩
abbrev bLaw_add : ByteArray := method_3_code
def yLaw_add : MethodName := ⟨R_Law, "add", "(LTypeBook;III[J)I"⟩
abbrev hLaw_add : List (Nat × Nat × Nat × Nat) := [(0, 12, 15, 13), (0, 12, 19, 15)]
theorem meLaw_add : bs_Mw yLaw_add bLaw_add 6 hLaw_add 5 := ⟨bs_in (in_tables_1_2 (List.mem_of_getElem? (i := 87) rfl)) rfl, bs_in (in_tables_1_1 (List.mem_of_getElem? (i := 0) rfl)) rfl, bs_in (in_tables_1_2 (List.mem_of_getElem? (i := 88) rfl)) rfl, by decide, by decide, by decide +kernel⟩
abbrev bLaw_enter : ByteArray := method_4_code
def yLaw_enter : MethodName := ⟨R_Law, "enter", "(LTypeBook;[J)I"⟩
abbrev hLaw_enter : List (Nat × Nat × Nat × Nat) := [(0, 8, 11, 15)]
theorem meLaw_enter : bs_Mw yLaw_enter bLaw_enter 3 hLaw_enter 2 := ⟨bs_in (in_tables_1_2 (List.mem_of_getElem? (i := 231) rfl)) rfl, bs_in (in_tables_1_1 (List.mem_of_getElem? (i := 0) rfl)) rfl, bs_in (in_tables_1_2 (List.mem_of_getElem? (i := 232) rfl)) rfl, by decide, by decide, by decide +kernel⟩
abbrev bLaw_leave : ByteArray := method_5_code
def yLaw_leave : MethodName := ⟨R_Law, "leave", "(LTypeBook;[J)I"⟩
abbrev hLaw_leave : List (Nat × Nat × Nat × Nat) := [(0, 8, 11, 15)]
theorem meLaw_leave : bs_Mw yLaw_leave bLaw_leave 3 hLaw_leave 2 := ⟨bs_in (in_tables_1_3 (List.mem_of_getElem? (i := 3) rfl)) rfl, bs_in (in_tables_1_1 (List.mem_of_getElem? (i := 0) rfl)) rfl, bs_in (in_tables_1_3 (List.mem_of_getElem? (i := 4) rfl)) rfl, by decide, by decide, by decide +kernel⟩
abbrev bLaw_type : ByteArray := method_6_code
def yLaw_type : MethodName := ⟨R_Law, "type", "(LTypeBook;I[J)I"⟩
abbrev hLaw_type : List (Nat × Nat × Nat × Nat) := [(0, 9, 12, 28), (0, 9, 15, 15)]
theorem meLaw_type : bs_Mw yLaw_type bLaw_type 4 hLaw_type 3 := ⟨bs_in (in_tables_1_3 (List.mem_of_getElem? (i := 15) rfl)) rfl, bs_in (in_tables_1_1 (List.mem_of_getElem? (i := 0) rfl)) rfl, bs_in (in_tables_1_3 (List.mem_of_getElem? (i := 16) rfl)) rfl, by decide, by decide, by decide +kernel⟩
abbrev bLaw_enumeration : ByteArray := method_7_code
def yLaw_enumeration : MethodName := ⟨R_Law, "enumeration", "(LTypeBook;I[J)I"⟩
abbrev hLaw_enumeration : List (Nat × Nat × Nat × Nat) := [(0, 9, 12, 28), (0, 9, 15, 15)]
theorem meLaw_enumeration : bs_Mw yLaw_enumeration bLaw_enumeration 4 hLaw_enumeration 3 := ⟨bs_in (in_tables_1_5 (List.mem_of_getElem? (i := 11) rfl)) rfl, bs_in (in_tables_1_1 (List.mem_of_getElem? (i := 0) rfl)) rfl, bs_in (in_tables_1_5 (List.mem_of_getElem? (i := 12) rfl)) rfl, by decide, by decide, by decide +kernel⟩
abbrev bLaw_subtype : ByteArray := method_8_code
def yLaw_subtype : MethodName := ⟨R_Law, "subtype", "(LTypeBook;II[J)I"⟩
abbrev hLaw_subtype : List (Nat × Nat × Nat × Nat) := [(0, 10, 13, 28), (0, 10, 17, 13), (0, 10, 21, 15)]
theorem meLaw_subtype : bs_Mw yLaw_subtype bLaw_subtype 5 hLaw_subtype 4 := ⟨bs_in (in_tables_1_5 (List.mem_of_getElem? (i := 45) rfl)) rfl, bs_in (in_tables_1_1 (List.mem_of_getElem? (i := 0) rfl)) rfl, bs_in (in_tables_1_5 (List.mem_of_getElem? (i := 46) rfl)) rfl, by decide, by decide, by decide +kernel⟩
abbrev bLaw_declare : ByteArray := method_9_code
def yLaw_declare : MethodName := ⟨R_Law, "declare", "(LTypeBook;IIII[J)I"⟩
abbrev hLaw_declare : List (Nat × Nat × Nat × Nat) := [(0, 14, 17, 28), (0, 14, 21, 13), (0, 14, 25, 15)]
theorem meLaw_declare : bs_Mw yLaw_declare bLaw_declare 7 hLaw_declare 6 := ⟨bs_in (in_tables_1_5 (List.mem_of_getElem? (i := 55) rfl)) rfl, bs_in (in_tables_1_1 (List.mem_of_getElem? (i := 0) rfl)) rfl, bs_in (in_tables_1_5 (List.mem_of_getElem? (i := 56) rfl)) rfl, by decide, by decide, by decide +kernel⟩
abbrev bLaw_check : ByteArray := method_10_code
def yLaw_check : MethodName := ⟨R_Law, "check", "(LTypeBook;II[J)I"⟩
abbrev hLaw_check : List (Nat × Nat × Nat × Nat) := [(0, 10, 13, 28)]
theorem meLaw_check : bs_Mw yLaw_check bLaw_check 5 hLaw_check 4 := ⟨bs_in (in_tables_1_5 (List.mem_of_getElem? (i := 97) rfl)) rfl, bs_in (in_tables_1_1 (List.mem_of_getElem? (i := 0) rfl)) rfl, bs_in (in_tables_1_5 (List.mem_of_getElem? (i := 98) rfl)) rfl, by decide, by decide, by decide +kernel⟩
abbrev bLaw_typeOf : ByteArray := method_11_code
def yLaw_typeOf : MethodName := ⟨R_Law, "typeOf", "(LTypeBook;II[J)I"⟩
abbrev hLaw_typeOf : List (Nat × Nat × Nat × Nat) := [(0, 10, 13, 28)]
theorem meLaw_typeOf : bs_Mw yLaw_typeOf bLaw_typeOf 5 hLaw_typeOf 4 := ⟨bs_in (in_tables_1_5 (List.mem_of_getElem? (i := 105) rfl)) rfl, bs_in (in_tables_1_1 (List.mem_of_getElem? (i := 0) rfl)) rfl, bs_in (in_tables_1_5 (List.mem_of_getElem? (i := 106) rfl)) rfl, by decide, by decide, by decide +kernel⟩
abbrev bLaw_about : ByteArray := method_12_code
def yLaw_about : MethodName := ⟨R_Law, "about", "(LTypeBook;II[J)I"⟩
abbrev hLaw_about : List (Nat × Nat × Nat × Nat) := [(0, 10, 13, 28)]
theorem meLaw_about : bs_Mw yLaw_about bLaw_about 5 hLaw_about 4 := ⟨bs_in (in_tables_1_5 (List.mem_of_getElem? (i := 118) rfl)) rfl, bs_in (in_tables_1_1 (List.mem_of_getElem? (i := 0) rfl)) rfl, bs_in (in_tables_1_5 (List.mem_of_getElem? (i := 119) rfl)) rfl, by decide, by decide, by decide +kernel⟩
abbrev bLaw_value : ByteArray := method_13_code
def yLaw_value : MethodName := ⟨R_Law, "value", "(LTypeBook;II[J)I"⟩
abbrev hLaw_value : List (Nat × Nat × Nat × Nat) := [(0, 10, 13, 28), (0, 10, 17, 15)]
theorem meLaw_value : bs_Mw yLaw_value bLaw_value 5 hLaw_value 4 := ⟨bs_in (in_tables_1_5 (List.mem_of_getElem? (i := 130) rfl)) rfl, bs_in (in_tables_1_1 (List.mem_of_getElem? (i := 0) rfl)) rfl, bs_in (in_tables_1_5 (List.mem_of_getElem? (i := 131) rfl)) rfl, by decide, by decide, by decide +kernel⟩
abbrev bLaw_law : ByteArray := code
theorem dLaw_add_0 : decode bLaw_add 0 = .ok (.aload 4, 2) := by decide +kernel
theorem dLaw_add_2 : decode bLaw_add 2 = .ok (.iconst 0, 1) := by decide +kernel
theorem dLaw_add_3 : decode bLaw_add 3 = .ok (.aload_n 0, 1) := by decide +kernel
theorem dLaw_add_4 : decode bLaw_add 4 = .ok (.iload_n 1, 1) := by decide +kernel
theorem dLaw_add_5 : decode bLaw_add 5 = .ok (.iload_n 2, 1) := by decide +kernel
theorem dLaw_add_6 : decode bLaw_add 6 = .ok (.iload_n 3, 1) := by decide +kernel
theorem dLaw_add_7 : decode bLaw_add 7 = .ok (.invokevirtual 7, 3) := by decide +kernel
theorem dLaw_add_10 : decode bLaw_add 10 = .ok (.i2l, 1) := by decide +kernel
theorem dLaw_add_11 : decode bLaw_add 11 = .ok (.lastore, 1) := by decide +kernel
theorem dLaw_add_12 : decode bLaw_add 12 = .ok (.goto 11, 3) := by decide +kernel
theorem dLaw_add_15 : decode bLaw_add 15 = .ok (.astore 5, 2) := by decide +kernel
theorem dLaw_add_17 : decode bLaw_add 17 = .ok (.iconst 1, 1) := by decide +kernel
theorem dLaw_add_18 : decode bLaw_add 18 = .ok (.ireturn, 1) := by decide +kernel
theorem dLaw_add_19 : decode bLaw_add 19 = .ok (.astore 5, 2) := by decide +kernel
theorem dLaw_add_21 : decode bLaw_add 21 = .ok (.iconst 2, 1) := by decide +kernel
theorem dLaw_add_22 : decode bLaw_add 22 = .ok (.ireturn, 1) := by decide +kernel
theorem dLaw_add_23 : decode bLaw_add 23 = .ok (.iconst 0, 1) := by decide +kernel
theorem dLaw_add_24 : decode bLaw_add 24 = .ok (.ireturn, 1) := by decide +kernel
theorem dLaw_enter_0 : decode bLaw_enter 0 = .ok (.aload_n 1, 1) := by decide +kernel
theorem dLaw_enter_1 : decode bLaw_enter 1 = .ok (.iconst 0, 1) := by decide +kernel
theorem dLaw_enter_2 : decode bLaw_enter 2 = .ok (.aload_n 0, 1) := by decide +kernel
theorem dLaw_enter_3 : decode bLaw_enter 3 = .ok (.invokevirtual 17, 3) := by decide +kernel
theorem dLaw_enter_6 : decode bLaw_enter 6 = .ok (.i2l, 1) := by decide +kernel
theorem dLaw_enter_7 : decode bLaw_enter 7 = .ok (.lastore, 1) := by decide +kernel
theorem dLaw_enter_8 : decode bLaw_enter 8 = .ok (.goto 6, 3) := by decide +kernel
theorem dLaw_enter_11 : decode bLaw_enter 11 = .ok (.astore_n 2, 1) := by decide +kernel
theorem dLaw_enter_12 : decode bLaw_enter 12 = .ok (.iconst 1, 1) := by decide +kernel
theorem dLaw_enter_13 : decode bLaw_enter 13 = .ok (.ireturn, 1) := by decide +kernel
theorem dLaw_enter_14 : decode bLaw_enter 14 = .ok (.iconst 0, 1) := by decide +kernel
theorem dLaw_enter_15 : decode bLaw_enter 15 = .ok (.ireturn, 1) := by decide +kernel
theorem dLaw_leave_0 : decode bLaw_leave 0 = .ok (.aload_n 1, 1) := by decide +kernel
theorem dLaw_leave_1 : decode bLaw_leave 1 = .ok (.iconst 0, 1) := by decide +kernel
theorem dLaw_leave_2 : decode bLaw_leave 2 = .ok (.aload_n 0, 1) := by decide +kernel
theorem dLaw_leave_3 : decode bLaw_leave 3 = .ok (.invokevirtual 21, 3) := by decide +kernel
theorem dLaw_leave_6 : decode bLaw_leave 6 = .ok (.i2l, 1) := by decide +kernel
theorem dLaw_leave_7 : decode bLaw_leave 7 = .ok (.lastore, 1) := by decide +kernel
theorem dLaw_leave_8 : decode bLaw_leave 8 = .ok (.goto 6, 3) := by decide +kernel
theorem dLaw_leave_11 : decode bLaw_leave 11 = .ok (.astore_n 2, 1) := by decide +kernel
theorem dLaw_leave_12 : decode bLaw_leave 12 = .ok (.iconst 1, 1) := by decide +kernel
theorem dLaw_leave_13 : decode bLaw_leave 13 = .ok (.ireturn, 1) := by decide +kernel
theorem dLaw_leave_14 : decode bLaw_leave 14 = .ok (.iconst 0, 1) := by decide +kernel
theorem dLaw_leave_15 : decode bLaw_leave 15 = .ok (.ireturn, 1) := by decide +kernel
theorem dLaw_type_0 : decode bLaw_type 0 = .ok (.aload_n 2, 1) := by decide +kernel
theorem dLaw_type_1 : decode bLaw_type 1 = .ok (.iconst 0, 1) := by decide +kernel
theorem dLaw_type_2 : decode bLaw_type 2 = .ok (.aload_n 0, 1) := by decide +kernel
theorem dLaw_type_3 : decode bLaw_type 3 = .ok (.iload_n 1, 1) := by decide +kernel
theorem dLaw_type_4 : decode bLaw_type 4 = .ok (.invokevirtual 24, 3) := by decide +kernel
theorem dLaw_type_7 : decode bLaw_type 7 = .ok (.i2l, 1) := by decide +kernel
theorem dLaw_type_8 : decode bLaw_type 8 = .ok (.lastore, 1) := by decide +kernel
theorem dLaw_type_9 : decode bLaw_type 9 = .ok (.goto 9, 3) := by decide +kernel
theorem dLaw_type_12 : decode bLaw_type 12 = .ok (.astore_n 3, 1) := by decide +kernel
theorem dLaw_type_13 : decode bLaw_type 13 = .ok (.iconst 1, 1) := by decide +kernel
theorem dLaw_type_14 : decode bLaw_type 14 = .ok (.ireturn, 1) := by decide +kernel
theorem dLaw_type_15 : decode bLaw_type 15 = .ok (.astore_n 3, 1) := by decide +kernel
theorem dLaw_type_16 : decode bLaw_type 16 = .ok (.iconst 2, 1) := by decide +kernel
theorem dLaw_type_17 : decode bLaw_type 17 = .ok (.ireturn, 1) := by decide +kernel
theorem dLaw_type_18 : decode bLaw_type 18 = .ok (.iconst 0, 1) := by decide +kernel
theorem dLaw_type_19 : decode bLaw_type 19 = .ok (.ireturn, 1) := by decide +kernel
theorem dLaw_enumeration_0 : decode bLaw_enumeration 0 = .ok (.aload_n 2, 1) := by decide +kernel
theorem dLaw_enumeration_1 : decode bLaw_enumeration 1 = .ok (.iconst 0, 1) := by decide +kernel
theorem dLaw_enumeration_2 : decode bLaw_enumeration 2 = .ok (.aload_n 0, 1) := by decide +kernel
theorem dLaw_enumeration_3 : decode bLaw_enumeration 3 = .ok (.iload_n 1, 1) := by decide +kernel
theorem dLaw_enumeration_4 : decode bLaw_enumeration 4 = .ok (.invokevirtual 30, 3) := by decide +kernel
theorem dLaw_enumeration_7 : decode bLaw_enumeration 7 = .ok (.i2l, 1) := by decide +kernel
theorem dLaw_enumeration_8 : decode bLaw_enumeration 8 = .ok (.lastore, 1) := by decide +kernel
theorem dLaw_enumeration_9 : decode bLaw_enumeration 9 = .ok (.goto 9, 3) := by decide +kernel
theorem dLaw_enumeration_12 : decode bLaw_enumeration 12 = .ok (.astore_n 3, 1) := by decide +kernel
theorem dLaw_enumeration_13 : decode bLaw_enumeration 13 = .ok (.iconst 1, 1) := by decide +kernel
theorem dLaw_enumeration_14 : decode bLaw_enumeration 14 = .ok (.ireturn, 1) := by decide +kernel
theorem dLaw_enumeration_15 : decode bLaw_enumeration 15 = .ok (.astore_n 3, 1) := by decide +kernel
theorem dLaw_enumeration_16 : decode bLaw_enumeration 16 = .ok (.iconst 2, 1) := by decide +kernel
theorem dLaw_enumeration_17 : decode bLaw_enumeration 17 = .ok (.ireturn, 1) := by decide +kernel
theorem dLaw_enumeration_18 : decode bLaw_enumeration 18 = .ok (.iconst 0, 1) := by decide +kernel
theorem dLaw_enumeration_19 : decode bLaw_enumeration 19 = .ok (.ireturn, 1) := by decide +kernel
theorem dLaw_subtype_0 : decode bLaw_subtype 0 = .ok (.aload_n 3, 1) := by decide +kernel
theorem dLaw_subtype_1 : decode bLaw_subtype 1 = .ok (.iconst 0, 1) := by decide +kernel
theorem dLaw_subtype_2 : decode bLaw_subtype 2 = .ok (.aload_n 0, 1) := by decide +kernel
theorem dLaw_subtype_3 : decode bLaw_subtype 3 = .ok (.iload_n 1, 1) := by decide +kernel
theorem dLaw_subtype_4 : decode bLaw_subtype 4 = .ok (.iload_n 2, 1) := by decide +kernel
theorem dLaw_subtype_5 : decode bLaw_subtype 5 = .ok (.invokevirtual 33, 3) := by decide +kernel
theorem dLaw_subtype_8 : decode bLaw_subtype 8 = .ok (.i2l, 1) := by decide +kernel
theorem dLaw_subtype_9 : decode bLaw_subtype 9 = .ok (.lastore, 1) := by decide +kernel
theorem dLaw_subtype_10 : decode bLaw_subtype 10 = .ok (.goto 15, 3) := by decide +kernel
theorem dLaw_subtype_13 : decode bLaw_subtype 13 = .ok (.astore 4, 2) := by decide +kernel
theorem dLaw_subtype_15 : decode bLaw_subtype 15 = .ok (.iconst 1, 1) := by decide +kernel
theorem dLaw_subtype_16 : decode bLaw_subtype 16 = .ok (.ireturn, 1) := by decide +kernel
theorem dLaw_subtype_17 : decode bLaw_subtype 17 = .ok (.astore 4, 2) := by decide +kernel
theorem dLaw_subtype_19 : decode bLaw_subtype 19 = .ok (.iconst 2, 1) := by decide +kernel
theorem dLaw_subtype_20 : decode bLaw_subtype 20 = .ok (.ireturn, 1) := by decide +kernel
theorem dLaw_subtype_21 : decode bLaw_subtype 21 = .ok (.astore 4, 2) := by decide +kernel
theorem dLaw_subtype_23 : decode bLaw_subtype 23 = .ok (.iconst 3, 1) := by decide +kernel
theorem dLaw_subtype_24 : decode bLaw_subtype 24 = .ok (.ireturn, 1) := by decide +kernel
theorem dLaw_subtype_25 : decode bLaw_subtype 25 = .ok (.iconst 0, 1) := by decide +kernel
theorem dLaw_subtype_26 : decode bLaw_subtype 26 = .ok (.ireturn, 1) := by decide +kernel
theorem dLaw_declare_0 : decode bLaw_declare 0 = .ok (.aload 5, 2) := by decide +kernel
theorem dLaw_declare_2 : decode bLaw_declare 2 = .ok (.iconst 0, 1) := by decide +kernel
theorem dLaw_declare_3 : decode bLaw_declare 3 = .ok (.aload_n 0, 1) := by decide +kernel
theorem dLaw_declare_4 : decode bLaw_declare 4 = .ok (.iload_n 1, 1) := by decide +kernel
theorem dLaw_declare_5 : decode bLaw_declare 5 = .ok (.iload_n 2, 1) := by decide +kernel
theorem dLaw_declare_6 : decode bLaw_declare 6 = .ok (.iload_n 3, 1) := by decide +kernel
theorem dLaw_declare_7 : decode bLaw_declare 7 = .ok (.iload 4, 2) := by decide +kernel
theorem dLaw_declare_9 : decode bLaw_declare 9 = .ok (.invokevirtual 37, 3) := by decide +kernel
theorem dLaw_declare_12 : decode bLaw_declare 12 = .ok (.i2l, 1) := by decide +kernel
theorem dLaw_declare_13 : decode bLaw_declare 13 = .ok (.lastore, 1) := by decide +kernel
theorem dLaw_declare_14 : decode bLaw_declare 14 = .ok (.goto 15, 3) := by decide +kernel
theorem dLaw_declare_17 : decode bLaw_declare 17 = .ok (.astore 6, 2) := by decide +kernel
theorem dLaw_declare_19 : decode bLaw_declare 19 = .ok (.iconst 1, 1) := by decide +kernel
theorem dLaw_declare_20 : decode bLaw_declare 20 = .ok (.ireturn, 1) := by decide +kernel
theorem dLaw_declare_21 : decode bLaw_declare 21 = .ok (.astore 6, 2) := by decide +kernel
theorem dLaw_declare_23 : decode bLaw_declare 23 = .ok (.iconst 2, 1) := by decide +kernel
theorem dLaw_declare_24 : decode bLaw_declare 24 = .ok (.ireturn, 1) := by decide +kernel
theorem dLaw_declare_25 : decode bLaw_declare 25 = .ok (.astore 6, 2) := by decide +kernel
theorem dLaw_declare_27 : decode bLaw_declare 27 = .ok (.iconst 3, 1) := by decide +kernel
theorem dLaw_declare_28 : decode bLaw_declare 28 = .ok (.ireturn, 1) := by decide +kernel
theorem dLaw_declare_29 : decode bLaw_declare 29 = .ok (.iconst 0, 1) := by decide +kernel
theorem dLaw_declare_30 : decode bLaw_declare 30 = .ok (.ireturn, 1) := by decide +kernel
theorem dLaw_check_0 : decode bLaw_check 0 = .ok (.aload_n 3, 1) := by decide +kernel
theorem dLaw_check_1 : decode bLaw_check 1 = .ok (.iconst 0, 1) := by decide +kernel
theorem dLaw_check_2 : decode bLaw_check 2 = .ok (.aload_n 0, 1) := by decide +kernel
theorem dLaw_check_3 : decode bLaw_check 3 = .ok (.iload_n 1, 1) := by decide +kernel
theorem dLaw_check_4 : decode bLaw_check 4 = .ok (.iload_n 2, 1) := by decide +kernel
theorem dLaw_check_5 : decode bLaw_check 5 = .ok (.invokevirtual 41, 3) := by decide +kernel
theorem dLaw_check_8 : decode bLaw_check 8 = .ok (.i2l, 1) := by decide +kernel
theorem dLaw_check_9 : decode bLaw_check 9 = .ok (.lastore, 1) := by decide +kernel
theorem dLaw_check_10 : decode bLaw_check 10 = .ok (.goto 7, 3) := by decide +kernel
theorem dLaw_check_13 : decode bLaw_check 13 = .ok (.astore 4, 2) := by decide +kernel
theorem dLaw_check_15 : decode bLaw_check 15 = .ok (.iconst 1, 1) := by decide +kernel
theorem dLaw_check_16 : decode bLaw_check 16 = .ok (.ireturn, 1) := by decide +kernel
theorem dLaw_check_17 : decode bLaw_check 17 = .ok (.iconst 0, 1) := by decide +kernel
theorem dLaw_check_18 : decode bLaw_check 18 = .ok (.ireturn, 1) := by decide +kernel
theorem dLaw_typeOf_0 : decode bLaw_typeOf 0 = .ok (.aload_n 3, 1) := by decide +kernel
theorem dLaw_typeOf_1 : decode bLaw_typeOf 1 = .ok (.iconst 0, 1) := by decide +kernel
theorem dLaw_typeOf_2 : decode bLaw_typeOf 2 = .ok (.aload_n 0, 1) := by decide +kernel
theorem dLaw_typeOf_3 : decode bLaw_typeOf 3 = .ok (.iload_n 1, 1) := by decide +kernel
theorem dLaw_typeOf_4 : decode bLaw_typeOf 4 = .ok (.iload_n 2, 1) := by decide +kernel
theorem dLaw_typeOf_5 : decode bLaw_typeOf 5 = .ok (.invokevirtual 44, 3) := by decide +kernel
theorem dLaw_typeOf_8 : decode bLaw_typeOf 8 = .ok (.i2l, 1) := by decide +kernel
theorem dLaw_typeOf_9 : decode bLaw_typeOf 9 = .ok (.lastore, 1) := by decide +kernel
theorem dLaw_typeOf_10 : decode bLaw_typeOf 10 = .ok (.goto 7, 3) := by decide +kernel
theorem dLaw_typeOf_13 : decode bLaw_typeOf 13 = .ok (.astore 4, 2) := by decide +kernel
theorem dLaw_typeOf_15 : decode bLaw_typeOf 15 = .ok (.iconst 1, 1) := by decide +kernel
theorem dLaw_typeOf_16 : decode bLaw_typeOf 16 = .ok (.ireturn, 1) := by decide +kernel
theorem dLaw_typeOf_17 : decode bLaw_typeOf 17 = .ok (.iconst 0, 1) := by decide +kernel
theorem dLaw_typeOf_18 : decode bLaw_typeOf 18 = .ok (.ireturn, 1) := by decide +kernel
theorem dLaw_about_0 : decode bLaw_about 0 = .ok (.aload_n 3, 1) := by decide +kernel
theorem dLaw_about_1 : decode bLaw_about 1 = .ok (.iconst 0, 1) := by decide +kernel
theorem dLaw_about_2 : decode bLaw_about 2 = .ok (.aload_n 0, 1) := by decide +kernel
theorem dLaw_about_3 : decode bLaw_about 3 = .ok (.iload_n 1, 1) := by decide +kernel
theorem dLaw_about_4 : decode bLaw_about 4 = .ok (.iload_n 2, 1) := by decide +kernel
theorem dLaw_about_5 : decode bLaw_about 5 = .ok (.invokevirtual 47, 3) := by decide +kernel
theorem dLaw_about_8 : decode bLaw_about 8 = .ok (.i2l, 1) := by decide +kernel
theorem dLaw_about_9 : decode bLaw_about 9 = .ok (.lastore, 1) := by decide +kernel
theorem dLaw_about_10 : decode bLaw_about 10 = .ok (.goto 7, 3) := by decide +kernel
theorem dLaw_about_13 : decode bLaw_about 13 = .ok (.astore 4, 2) := by decide +kernel
theorem dLaw_about_15 : decode bLaw_about 15 = .ok (.iconst 1, 1) := by decide +kernel
theorem dLaw_about_16 : decode bLaw_about 16 = .ok (.ireturn, 1) := by decide +kernel
theorem dLaw_about_17 : decode bLaw_about 17 = .ok (.iconst 0, 1) := by decide +kernel
theorem dLaw_about_18 : decode bLaw_about 18 = .ok (.ireturn, 1) := by decide +kernel
theorem dLaw_value_0 : decode bLaw_value 0 = .ok (.aload_n 3, 1) := by decide +kernel
theorem dLaw_value_1 : decode bLaw_value 1 = .ok (.iconst 0, 1) := by decide +kernel
theorem dLaw_value_2 : decode bLaw_value 2 = .ok (.aload_n 0, 1) := by decide +kernel
theorem dLaw_value_3 : decode bLaw_value 3 = .ok (.iload_n 1, 1) := by decide +kernel
theorem dLaw_value_4 : decode bLaw_value 4 = .ok (.iload_n 2, 1) := by decide +kernel
theorem dLaw_value_5 : decode bLaw_value 5 = .ok (.invokevirtual 50, 3) := by decide +kernel
theorem dLaw_value_8 : decode bLaw_value 8 = .ok (.i2l, 1) := by decide +kernel
theorem dLaw_value_9 : decode bLaw_value 9 = .ok (.lastore, 1) := by decide +kernel
theorem dLaw_value_10 : decode bLaw_value 10 = .ok (.goto 11, 3) := by decide +kernel
theorem dLaw_value_13 : decode bLaw_value 13 = .ok (.astore 4, 2) := by decide +kernel
theorem dLaw_value_15 : decode bLaw_value 15 = .ok (.iconst 1, 1) := by decide +kernel
theorem dLaw_value_16 : decode bLaw_value 16 = .ok (.ireturn, 1) := by decide +kernel
theorem dLaw_value_17 : decode bLaw_value 17 = .ok (.astore 4, 2) := by decide +kernel
theorem dLaw_value_19 : decode bLaw_value 19 = .ok (.iconst 2, 1) := by decide +kernel
theorem dLaw_value_20 : decode bLaw_value 20 = .ok (.ireturn, 1) := by decide +kernel
theorem dLaw_value_21 : decode bLaw_value 21 = .ok (.iconst 0, 1) := by decide +kernel
theorem dLaw_value_22 : decode bLaw_value 22 = .ok (.ireturn, 1) := by decide +kernel
theorem dLaw_law_0 : decode bLaw_law 0 = .ok (.new 8, 3) := by decide +kernel
theorem dLaw_law_3 : decode bLaw_law 3 = .ok (.dup, 1) := by decide +kernel
theorem dLaw_law_4 : decode bLaw_law 4 = .ok (.invokespecial 53, 3) := by decide +kernel
theorem dLaw_law_7 : decode bLaw_law 7 = .ok (.astore_n 1, 1) := by decide +kernel
theorem dLaw_law_8 : decode bLaw_law 8 = .ok (.new 54, 3) := by decide +kernel
theorem dLaw_law_11 : decode bLaw_law 11 = .ok (.dup, 1) := by decide +kernel
theorem dLaw_law_12 : decode bLaw_law 12 = .ok (.invokespecial 56, 3) := by decide +kernel
theorem dLaw_law_15 : decode bLaw_law 15 = .ok (.astore_n 2, 1) := by decide +kernel
theorem dLaw_law_16 : decode bLaw_law 16 = .ok (.iconst 1, 1) := by decide +kernel
theorem dLaw_law_17 : decode bLaw_law 17 = .ok (.newarray .long, 2) := by decide +kernel
theorem dLaw_law_19 : decode bLaw_law 19 = .ok (.astore_n 3, 1) := by decide +kernel
theorem dLaw_law_20 : decode bLaw_law 20 = .ok (.iconst 0, 1) := by decide +kernel
theorem dLaw_law_21 : decode bLaw_law 21 = .ok (.istore 4, 2) := by decide +kernel
theorem dLaw_law_23 : decode bLaw_law 23 = .ok (.iload 4, 2) := by decide +kernel
theorem dLaw_law_25 : decode bLaw_law 25 = .ok (.aload_n 0, 1) := by decide +kernel
theorem dLaw_law_26 : decode bLaw_law 26 = .ok (.arraylength, 1) := by decide +kernel
theorem dLaw_law_27 : decode bLaw_law 27 = .ok (.iconst 5, 1) := by decide +kernel
theorem dLaw_law_28 : decode bLaw_law 28 = .ok (.isub, 1) := by decide +kernel
theorem dLaw_law_29 : decode bLaw_law 29 = .ok (.if_icmp .gt 539, 3) := by decide +kernel
theorem dLaw_law_32 : decode bLaw_law 32 = .ok (.aload_n 0, 1) := by decide +kernel
theorem dLaw_law_33 : decode bLaw_law 33 = .ok (.iload 4, 2) := by decide +kernel
theorem dLaw_law_35 : decode bLaw_law 35 = .ok (.iaload, 1) := by decide +kernel
theorem dLaw_law_36 : decode bLaw_law 36 = .ok (.bipush 15, 2) := by decide +kernel
theorem dLaw_law_38 : decode bLaw_law 38 = .ok (.iand, 1) := by decide +kernel
theorem dLaw_law_39 : decode bLaw_law 39 = .ok (.tableswitch 523 0 12 #[65, 145, 158, 174, 190, 218, 246, 286, 350, 390, 403, 443, 483], 65) := by decide +kernel
theorem dLaw_law_104 : decode bLaw_law 104 = .ok (.aload_n 1, 1) := by decide +kernel
theorem dLaw_law_105 : decode bLaw_law 105 = .ok (.aload_n 0, 1) := by decide +kernel
theorem dLaw_law_106 : decode bLaw_law 106 = .ok (.iload 4, 2) := by decide +kernel
theorem dLaw_law_108 : decode bLaw_law 108 = .ok (.iconst 1, 1) := by decide +kernel
theorem dLaw_law_109 : decode bLaw_law 109 = .ok (.iadd, 1) := by decide +kernel
theorem dLaw_law_110 : decode bLaw_law 110 = .ok (.iaload, 1) := by decide +kernel
theorem dLaw_law_111 : decode bLaw_law 111 = .ok (.aload_n 0, 1) := by decide +kernel
theorem dLaw_law_112 : decode bLaw_law 112 = .ok (.iload 4, 2) := by decide +kernel
theorem dLaw_law_114 : decode bLaw_law 114 = .ok (.iconst 2, 1) := by decide +kernel
theorem dLaw_law_115 : decode bLaw_law 115 = .ok (.iadd, 1) := by decide +kernel
theorem dLaw_law_116 : decode bLaw_law 116 = .ok (.iaload, 1) := by decide +kernel
theorem dLaw_law_117 : decode bLaw_law 117 = .ok (.aload_n 0, 1) := by decide +kernel
theorem dLaw_law_118 : decode bLaw_law 118 = .ok (.iload 4, 2) := by decide +kernel
theorem dLaw_law_120 : decode bLaw_law 120 = .ok (.iconst 3, 1) := by decide +kernel
theorem dLaw_law_121 : decode bLaw_law 121 = .ok (.iadd, 1) := by decide +kernel
theorem dLaw_law_122 : decode bLaw_law 122 = .ok (.iaload, 1) := by decide +kernel
theorem dLaw_law_123 : decode bLaw_law 123 = .ok (.aload_n 3, 1) := by decide +kernel
theorem dLaw_law_124 : decode bLaw_law 124 = .ok (.invokestatic 57, 3) := by decide +kernel
theorem dLaw_law_127 : decode bLaw_law 127 = .ok (.istore 5, 2) := by decide +kernel
theorem dLaw_law_129 : decode bLaw_law 129 = .ok (.aload_n 2, 1) := by decide +kernel
theorem dLaw_law_130 : decode bLaw_law 130 = .ok (.aload_n 0, 1) := by decide +kernel
theorem dLaw_law_131 : decode bLaw_law 131 = .ok (.iload 4, 2) := by decide +kernel
theorem dLaw_law_133 : decode bLaw_law 133 = .ok (.iconst 1, 1) := by decide +kernel
theorem dLaw_law_134 : decode bLaw_law 134 = .ok (.iadd, 1) := by decide +kernel
theorem dLaw_law_135 : decode bLaw_law 135 = .ok (.iaload, 1) := by decide +kernel
theorem dLaw_law_136 : decode bLaw_law 136 = .ok (.aload_n 0, 1) := by decide +kernel
theorem dLaw_law_137 : decode bLaw_law 137 = .ok (.iload 4, 2) := by decide +kernel
theorem dLaw_law_139 : decode bLaw_law 139 = .ok (.iconst 2, 1) := by decide +kernel
theorem dLaw_law_140 : decode bLaw_law 140 = .ok (.iadd, 1) := by decide +kernel
theorem dLaw_law_141 : decode bLaw_law 141 = .ok (.iaload, 1) := by decide +kernel
theorem dLaw_law_142 : decode bLaw_law 142 = .ok (.aload_n 0, 1) := by decide +kernel
theorem dLaw_law_143 : decode bLaw_law 143 = .ok (.iload 4, 2) := by decide +kernel
theorem dLaw_law_145 : decode bLaw_law 145 = .ok (.iconst 3, 1) := by decide +kernel
theorem dLaw_law_146 : decode bLaw_law 146 = .ok (.iadd, 1) := by decide +kernel
theorem dLaw_law_147 : decode bLaw_law 147 = .ok (.iaload, 1) := by decide +kernel
theorem dLaw_law_148 : decode bLaw_law 148 = .ok (.invokevirtual 62, 3) := by decide +kernel
theorem dLaw_law_151 : decode bLaw_law 151 = .ok (.istore 6, 2) := by decide +kernel
theorem dLaw_law_153 : decode bLaw_law 153 = .ok (.aload_n 2, 1) := by decide +kernel
theorem dLaw_law_154 : decode bLaw_law 154 = .ok (.invokevirtual 63, 3) := by decide +kernel
theorem dLaw_law_157 : decode bLaw_law 157 = .ok (.iload 5, 2) := by decide +kernel
theorem dLaw_law_159 : decode bLaw_law 159 = .ok (.if_icmp .eq 5, 3) := by decide +kernel
theorem dLaw_law_162 : decode bLaw_law 162 = .ok (.iconst 0, 1) := by decide +kernel
theorem dLaw_law_163 : decode bLaw_law 163 = .ok (.ireturn, 1) := by decide +kernel
theorem dLaw_law_164 : decode bLaw_law 164 = .ok (.iload 5, 2) := by decide +kernel
theorem dLaw_law_166 : decode bLaw_law 166 = .ok (.ifCond .ne 15, 3) := by decide +kernel
theorem dLaw_law_169 : decode bLaw_law 169 = .ok (.aload_n 3, 1) := by decide +kernel
theorem dLaw_law_170 : decode bLaw_law 170 = .ok (.iconst 0, 1) := by decide +kernel
theorem dLaw_law_171 : decode bLaw_law 171 = .ok (.laload, 1) := by decide +kernel
theorem dLaw_law_172 : decode bLaw_law 172 = .ok (.iload 6, 2) := by decide +kernel
theorem dLaw_law_174 : decode bLaw_law 174 = .ok (.i2l, 1) := by decide +kernel
theorem dLaw_law_175 : decode bLaw_law 175 = .ok (.lcmp, 1) := by decide +kernel
theorem dLaw_law_176 : decode bLaw_law 176 = .ok (.ifCond .eq 5, 3) := by decide +kernel
theorem dLaw_law_179 : decode bLaw_law 179 = .ok (.iconst 0, 1) := by decide +kernel
theorem dLaw_law_180 : decode bLaw_law 180 = .ok (.ireturn, 1) := by decide +kernel
theorem dLaw_law_181 : decode bLaw_law 181 = .ok (.goto 381, 3) := by decide +kernel
theorem dLaw_law_184 : decode bLaw_law 184 = .ok (.aload_n 1, 1) := by decide +kernel
theorem dLaw_law_185 : decode bLaw_law 185 = .ok (.invokevirtual 66, 3) := by decide +kernel
theorem dLaw_law_188 : decode bLaw_law 188 = .ok (.pop, 1) := by decide +kernel
theorem dLaw_law_189 : decode bLaw_law 189 = .ok (.aload_n 2, 1) := by decide +kernel
theorem dLaw_law_190 : decode bLaw_law 190 = .ok (.invokevirtual 69, 3) := by decide +kernel
theorem dLaw_law_193 : decode bLaw_law 193 = .ok (.pop, 1) := by decide +kernel
theorem dLaw_law_194 : decode bLaw_law 194 = .ok (.goto 368, 3) := by decide +kernel
theorem dLaw_law_197 : decode bLaw_law 197 = .ok (.aload_n 1, 1) := by decide +kernel
theorem dLaw_law_198 : decode bLaw_law 198 = .ok (.aload_n 3, 1) := by decide +kernel
theorem dLaw_law_199 : decode bLaw_law 199 = .ok (.invokestatic 70, 3) := by decide +kernel
theorem dLaw_law_202 : decode bLaw_law 202 = .ok (.istore 5, 2) := by decide +kernel
theorem dLaw_law_204 : decode bLaw_law 204 = .ok (.aload_n 2, 1) := by decide +kernel
theorem dLaw_law_205 : decode bLaw_law 205 = .ok (.invokevirtual 73, 3) := by decide +kernel
theorem dLaw_law_208 : decode bLaw_law 208 = .ok (.istore 6, 2) := by decide +kernel
theorem dLaw_law_210 : decode bLaw_law 210 = .ok (.goto 352, 3) := by decide +kernel
theorem dLaw_law_213 : decode bLaw_law 213 = .ok (.aload_n 1, 1) := by decide +kernel
theorem dLaw_law_214 : decode bLaw_law 214 = .ok (.aload_n 3, 1) := by decide +kernel
theorem dLaw_law_215 : decode bLaw_law 215 = .ok (.invokestatic 74, 3) := by decide +kernel
theorem dLaw_law_218 : decode bLaw_law 218 = .ok (.istore 5, 2) := by decide +kernel
theorem dLaw_law_220 : decode bLaw_law 220 = .ok (.aload_n 2, 1) := by decide +kernel
theorem dLaw_law_221 : decode bLaw_law 221 = .ok (.invokevirtual 76, 3) := by decide +kernel
theorem dLaw_law_224 : decode bLaw_law 224 = .ok (.istore 6, 2) := by decide +kernel
theorem dLaw_law_226 : decode bLaw_law 226 = .ok (.goto 336, 3) := by decide +kernel
theorem dLaw_law_229 : decode bLaw_law 229 = .ok (.aload_n 1, 1) := by decide +kernel
theorem dLaw_law_230 : decode bLaw_law 230 = .ok (.aload_n 0, 1) := by decide +kernel
theorem dLaw_law_231 : decode bLaw_law 231 = .ok (.iload 4, 2) := by decide +kernel
theorem dLaw_law_233 : decode bLaw_law 233 = .ok (.iconst 1, 1) := by decide +kernel
theorem dLaw_law_234 : decode bLaw_law 234 = .ok (.iadd, 1) := by decide +kernel
theorem dLaw_law_235 : decode bLaw_law 235 = .ok (.iaload, 1) := by decide +kernel
theorem dLaw_law_236 : decode bLaw_law 236 = .ok (.aload_n 3, 1) := by decide +kernel
theorem dLaw_law_237 : decode bLaw_law 237 = .ok (.invokestatic 77, 3) := by decide +kernel
theorem dLaw_law_240 : decode bLaw_law 240 = .ok (.istore 5, 2) := by decide +kernel
theorem dLaw_law_242 : decode bLaw_law 242 = .ok (.aload_n 2, 1) := by decide +kernel
theorem dLaw_law_243 : decode bLaw_law 243 = .ok (.aload_n 0, 1) := by decide +kernel
theorem dLaw_law_244 : decode bLaw_law 244 = .ok (.iload 4, 2) := by decide +kernel
theorem dLaw_law_246 : decode bLaw_law 246 = .ok (.iconst 1, 1) := by decide +kernel
theorem dLaw_law_247 : decode bLaw_law 247 = .ok (.iadd, 1) := by decide +kernel
theorem dLaw_law_248 : decode bLaw_law 248 = .ok (.iaload, 1) := by decide +kernel
theorem dLaw_law_249 : decode bLaw_law 249 = .ok (.invokevirtual 80, 3) := by decide +kernel
theorem dLaw_law_252 : decode bLaw_law 252 = .ok (.istore 6, 2) := by decide +kernel
theorem dLaw_law_254 : decode bLaw_law 254 = .ok (.goto 308, 3) := by decide +kernel
theorem dLaw_law_257 : decode bLaw_law 257 = .ok (.aload_n 1, 1) := by decide +kernel
theorem dLaw_law_258 : decode bLaw_law 258 = .ok (.aload_n 0, 1) := by decide +kernel
theorem dLaw_law_259 : decode bLaw_law 259 = .ok (.iload 4, 2) := by decide +kernel
theorem dLaw_law_261 : decode bLaw_law 261 = .ok (.iconst 1, 1) := by decide +kernel
theorem dLaw_law_262 : decode bLaw_law 262 = .ok (.iadd, 1) := by decide +kernel
theorem dLaw_law_263 : decode bLaw_law 263 = .ok (.iaload, 1) := by decide +kernel
theorem dLaw_law_264 : decode bLaw_law 264 = .ok (.aload_n 3, 1) := by decide +kernel
theorem dLaw_law_265 : decode bLaw_law 265 = .ok (.invokestatic 81, 3) := by decide +kernel
theorem dLaw_law_268 : decode bLaw_law 268 = .ok (.istore 5, 2) := by decide +kernel
theorem dLaw_law_270 : decode bLaw_law 270 = .ok (.aload_n 2, 1) := by decide +kernel
theorem dLaw_law_271 : decode bLaw_law 271 = .ok (.aload_n 0, 1) := by decide +kernel
theorem dLaw_law_272 : decode bLaw_law 272 = .ok (.iload 4, 2) := by decide +kernel
theorem dLaw_law_274 : decode bLaw_law 274 = .ok (.iconst 1, 1) := by decide +kernel
theorem dLaw_law_275 : decode bLaw_law 275 = .ok (.iadd, 1) := by decide +kernel
theorem dLaw_law_276 : decode bLaw_law 276 = .ok (.iaload, 1) := by decide +kernel
theorem dLaw_law_277 : decode bLaw_law 277 = .ok (.invokevirtual 83, 3) := by decide +kernel
theorem dLaw_law_280 : decode bLaw_law 280 = .ok (.istore 6, 2) := by decide +kernel
theorem dLaw_law_282 : decode bLaw_law 282 = .ok (.goto 280, 3) := by decide +kernel
theorem dLaw_law_285 : decode bLaw_law 285 = .ok (.aload_n 1, 1) := by decide +kernel
theorem dLaw_law_286 : decode bLaw_law 286 = .ok (.aload_n 0, 1) := by decide +kernel
theorem dLaw_law_287 : decode bLaw_law 287 = .ok (.iload 4, 2) := by decide +kernel
theorem dLaw_law_289 : decode bLaw_law 289 = .ok (.iconst 1, 1) := by decide +kernel
theorem dLaw_law_290 : decode bLaw_law 290 = .ok (.iadd, 1) := by decide +kernel
theorem dLaw_law_291 : decode bLaw_law 291 = .ok (.iaload, 1) := by decide +kernel
theorem dLaw_law_292 : decode bLaw_law 292 = .ok (.aload_n 0, 1) := by decide +kernel
theorem dLaw_law_293 : decode bLaw_law 293 = .ok (.iload 4, 2) := by decide +kernel
theorem dLaw_law_295 : decode bLaw_law 295 = .ok (.iconst 2, 1) := by decide +kernel
theorem dLaw_law_296 : decode bLaw_law 296 = .ok (.iadd, 1) := by decide +kernel
theorem dLaw_law_297 : decode bLaw_law 297 = .ok (.iaload, 1) := by decide +kernel
theorem dLaw_law_298 : decode bLaw_law 298 = .ok (.aload_n 3, 1) := by decide +kernel
theorem dLaw_law_299 : decode bLaw_law 299 = .ok (.invokestatic 84, 3) := by decide +kernel
theorem dLaw_law_302 : decode bLaw_law 302 = .ok (.istore 5, 2) := by decide +kernel
theorem dLaw_law_304 : decode bLaw_law 304 = .ok (.aload_n 2, 1) := by decide +kernel
theorem dLaw_law_305 : decode bLaw_law 305 = .ok (.aload_n 0, 1) := by decide +kernel
theorem dLaw_law_306 : decode bLaw_law 306 = .ok (.iload 4, 2) := by decide +kernel
theorem dLaw_law_308 : decode bLaw_law 308 = .ok (.iconst 1, 1) := by decide +kernel
theorem dLaw_law_309 : decode bLaw_law 309 = .ok (.iadd, 1) := by decide +kernel
theorem dLaw_law_310 : decode bLaw_law 310 = .ok (.iaload, 1) := by decide +kernel
theorem dLaw_law_311 : decode bLaw_law 311 = .ok (.aload_n 0, 1) := by decide +kernel
theorem dLaw_law_312 : decode bLaw_law 312 = .ok (.iload 4, 2) := by decide +kernel
theorem dLaw_law_314 : decode bLaw_law 314 = .ok (.iconst 2, 1) := by decide +kernel
theorem dLaw_law_315 : decode bLaw_law 315 = .ok (.iadd, 1) := by decide +kernel
theorem dLaw_law_316 : decode bLaw_law 316 = .ok (.iaload, 1) := by decide +kernel
theorem dLaw_law_317 : decode bLaw_law 317 = .ok (.invokevirtual 87, 3) := by decide +kernel
theorem dLaw_law_320 : decode bLaw_law 320 = .ok (.istore 6, 2) := by decide +kernel
theorem dLaw_law_322 : decode bLaw_law 322 = .ok (.goto 240, 3) := by decide +kernel
theorem dLaw_law_325 : decode bLaw_law 325 = .ok (.aload_n 1, 1) := by decide +kernel
theorem dLaw_law_326 : decode bLaw_law 326 = .ok (.aload_n 0, 1) := by decide +kernel
theorem dLaw_law_327 : decode bLaw_law 327 = .ok (.iload 4, 2) := by decide +kernel
theorem dLaw_law_329 : decode bLaw_law 329 = .ok (.iconst 1, 1) := by decide +kernel
theorem dLaw_law_330 : decode bLaw_law 330 = .ok (.iadd, 1) := by decide +kernel
theorem dLaw_law_331 : decode bLaw_law 331 = .ok (.iaload, 1) := by decide +kernel
theorem dLaw_law_332 : decode bLaw_law 332 = .ok (.aload_n 0, 1) := by decide +kernel
theorem dLaw_law_333 : decode bLaw_law 333 = .ok (.iload 4, 2) := by decide +kernel
theorem dLaw_law_335 : decode bLaw_law 335 = .ok (.iconst 2, 1) := by decide +kernel
theorem dLaw_law_336 : decode bLaw_law 336 = .ok (.iadd, 1) := by decide +kernel
theorem dLaw_law_337 : decode bLaw_law 337 = .ok (.iaload, 1) := by decide +kernel
theorem dLaw_law_338 : decode bLaw_law 338 = .ok (.aload_n 0, 1) := by decide +kernel
theorem dLaw_law_339 : decode bLaw_law 339 = .ok (.iload 4, 2) := by decide +kernel
theorem dLaw_law_341 : decode bLaw_law 341 = .ok (.iconst 3, 1) := by decide +kernel
theorem dLaw_law_342 : decode bLaw_law 342 = .ok (.iadd, 1) := by decide +kernel
theorem dLaw_law_343 : decode bLaw_law 343 = .ok (.iaload, 1) := by decide +kernel
theorem dLaw_law_344 : decode bLaw_law 344 = .ok (.aload_n 0, 1) := by decide +kernel
theorem dLaw_law_345 : decode bLaw_law 345 = .ok (.iload 4, 2) := by decide +kernel
theorem dLaw_law_347 : decode bLaw_law 347 = .ok (.iconst 4, 1) := by decide +kernel
theorem dLaw_law_348 : decode bLaw_law 348 = .ok (.iadd, 1) := by decide +kernel
theorem dLaw_law_349 : decode bLaw_law 349 = .ok (.iaload, 1) := by decide +kernel
theorem dLaw_law_350 : decode bLaw_law 350 = .ok (.aload_n 3, 1) := by decide +kernel
theorem dLaw_law_351 : decode bLaw_law 351 = .ok (.invokestatic 88, 3) := by decide +kernel
theorem dLaw_law_354 : decode bLaw_law 354 = .ok (.istore 5, 2) := by decide +kernel
theorem dLaw_law_356 : decode bLaw_law 356 = .ok (.aload_n 2, 1) := by decide +kernel
theorem dLaw_law_357 : decode bLaw_law 357 = .ok (.aload_n 0, 1) := by decide +kernel
theorem dLaw_law_358 : decode bLaw_law 358 = .ok (.iload 4, 2) := by decide +kernel
theorem dLaw_law_360 : decode bLaw_law 360 = .ok (.iconst 1, 1) := by decide +kernel
theorem dLaw_law_361 : decode bLaw_law 361 = .ok (.iadd, 1) := by decide +kernel
theorem dLaw_law_362 : decode bLaw_law 362 = .ok (.iaload, 1) := by decide +kernel
theorem dLaw_law_363 : decode bLaw_law 363 = .ok (.aload_n 0, 1) := by decide +kernel
theorem dLaw_law_364 : decode bLaw_law 364 = .ok (.iload 4, 2) := by decide +kernel
theorem dLaw_law_366 : decode bLaw_law 366 = .ok (.iconst 2, 1) := by decide +kernel
theorem dLaw_law_367 : decode bLaw_law 367 = .ok (.iadd, 1) := by decide +kernel
theorem dLaw_law_368 : decode bLaw_law 368 = .ok (.iaload, 1) := by decide +kernel
theorem dLaw_law_369 : decode bLaw_law 369 = .ok (.aload_n 0, 1) := by decide +kernel
theorem dLaw_law_370 : decode bLaw_law 370 = .ok (.iload 4, 2) := by decide +kernel
theorem dLaw_law_372 : decode bLaw_law 372 = .ok (.iconst 3, 1) := by decide +kernel
theorem dLaw_law_373 : decode bLaw_law 373 = .ok (.iadd, 1) := by decide +kernel
theorem dLaw_law_374 : decode bLaw_law 374 = .ok (.iaload, 1) := by decide +kernel
theorem dLaw_law_375 : decode bLaw_law 375 = .ok (.aload_n 0, 1) := by decide +kernel
theorem dLaw_law_376 : decode bLaw_law 376 = .ok (.iload 4, 2) := by decide +kernel
theorem dLaw_law_378 : decode bLaw_law 378 = .ok (.iconst 4, 1) := by decide +kernel
theorem dLaw_law_379 : decode bLaw_law 379 = .ok (.iadd, 1) := by decide +kernel
theorem dLaw_law_380 : decode bLaw_law 380 = .ok (.iaload, 1) := by decide +kernel
theorem dLaw_law_381 : decode bLaw_law 381 = .ok (.invokevirtual 91, 3) := by decide +kernel
theorem dLaw_law_384 : decode bLaw_law 384 = .ok (.istore 6, 2) := by decide +kernel
theorem dLaw_law_386 : decode bLaw_law 386 = .ok (.goto 176, 3) := by decide +kernel
theorem dLaw_law_389 : decode bLaw_law 389 = .ok (.aload_n 1, 1) := by decide +kernel
theorem dLaw_law_390 : decode bLaw_law 390 = .ok (.aload_n 0, 1) := by decide +kernel
theorem dLaw_law_391 : decode bLaw_law 391 = .ok (.iload 4, 2) := by decide +kernel
theorem dLaw_law_393 : decode bLaw_law 393 = .ok (.iconst 1, 1) := by decide +kernel
theorem dLaw_law_394 : decode bLaw_law 394 = .ok (.iadd, 1) := by decide +kernel
theorem dLaw_law_395 : decode bLaw_law 395 = .ok (.iaload, 1) := by decide +kernel
theorem dLaw_law_396 : decode bLaw_law 396 = .ok (.aload_n 0, 1) := by decide +kernel
theorem dLaw_law_397 : decode bLaw_law 397 = .ok (.iload 4, 2) := by decide +kernel
theorem dLaw_law_399 : decode bLaw_law 399 = .ok (.iconst 2, 1) := by decide +kernel
theorem dLaw_law_400 : decode bLaw_law 400 = .ok (.iadd, 1) := by decide +kernel
theorem dLaw_law_401 : decode bLaw_law 401 = .ok (.iaload, 1) := by decide +kernel
theorem dLaw_law_402 : decode bLaw_law 402 = .ok (.aload_n 3, 1) := by decide +kernel
theorem dLaw_law_403 : decode bLaw_law 403 = .ok (.invokestatic 92, 3) := by decide +kernel
theorem dLaw_law_406 : decode bLaw_law 406 = .ok (.istore 5, 2) := by decide +kernel
theorem dLaw_law_408 : decode bLaw_law 408 = .ok (.aload_n 2, 1) := by decide +kernel
theorem dLaw_law_409 : decode bLaw_law 409 = .ok (.aload_n 0, 1) := by decide +kernel
theorem dLaw_law_410 : decode bLaw_law 410 = .ok (.iload 4, 2) := by decide +kernel
theorem dLaw_law_412 : decode bLaw_law 412 = .ok (.iconst 1, 1) := by decide +kernel
theorem dLaw_law_413 : decode bLaw_law 413 = .ok (.iadd, 1) := by decide +kernel
theorem dLaw_law_414 : decode bLaw_law 414 = .ok (.iaload, 1) := by decide +kernel
theorem dLaw_law_415 : decode bLaw_law 415 = .ok (.aload_n 0, 1) := by decide +kernel
theorem dLaw_law_416 : decode bLaw_law 416 = .ok (.iload 4, 2) := by decide +kernel
theorem dLaw_law_418 : decode bLaw_law 418 = .ok (.iconst 2, 1) := by decide +kernel
theorem dLaw_law_419 : decode bLaw_law 419 = .ok (.iadd, 1) := by decide +kernel
theorem dLaw_law_420 : decode bLaw_law 420 = .ok (.iaload, 1) := by decide +kernel
theorem dLaw_law_421 : decode bLaw_law 421 = .ok (.invokevirtual 94, 3) := by decide +kernel
theorem dLaw_law_424 : decode bLaw_law 424 = .ok (.istore 6, 2) := by decide +kernel
theorem dLaw_law_426 : decode bLaw_law 426 = .ok (.goto 136, 3) := by decide +kernel
theorem dLaw_law_429 : decode bLaw_law 429 = .ok (.aload_n 1, 1) := by decide +kernel
theorem dLaw_law_430 : decode bLaw_law 430 = .ok (.invokevirtual 95, 3) := by decide +kernel
theorem dLaw_law_433 : decode bLaw_law 433 = .ok (.pop, 1) := by decide +kernel
theorem dLaw_law_434 : decode bLaw_law 434 = .ok (.aload_n 2, 1) := by decide +kernel
theorem dLaw_law_435 : decode bLaw_law 435 = .ok (.invokevirtual 98, 3) := by decide +kernel
theorem dLaw_law_438 : decode bLaw_law 438 = .ok (.pop, 1) := by decide +kernel
theorem dLaw_law_439 : decode bLaw_law 439 = .ok (.goto 123, 3) := by decide +kernel
theorem dLaw_law_442 : decode bLaw_law 442 = .ok (.aload_n 1, 1) := by decide +kernel
theorem dLaw_law_443 : decode bLaw_law 443 = .ok (.aload_n 0, 1) := by decide +kernel
theorem dLaw_law_444 : decode bLaw_law 444 = .ok (.iload 4, 2) := by decide +kernel
theorem dLaw_law_446 : decode bLaw_law 446 = .ok (.iconst 1, 1) := by decide +kernel
theorem dLaw_law_447 : decode bLaw_law 447 = .ok (.iadd, 1) := by decide +kernel
theorem dLaw_law_448 : decode bLaw_law 448 = .ok (.iaload, 1) := by decide +kernel
theorem dLaw_law_449 : decode bLaw_law 449 = .ok (.aload_n 0, 1) := by decide +kernel
theorem dLaw_law_450 : decode bLaw_law 450 = .ok (.iload 4, 2) := by decide +kernel
theorem dLaw_law_452 : decode bLaw_law 452 = .ok (.iconst 2, 1) := by decide +kernel
theorem dLaw_law_453 : decode bLaw_law 453 = .ok (.iadd, 1) := by decide +kernel
theorem dLaw_law_454 : decode bLaw_law 454 = .ok (.iaload, 1) := by decide +kernel
theorem dLaw_law_455 : decode bLaw_law 455 = .ok (.aload_n 3, 1) := by decide +kernel
theorem dLaw_law_456 : decode bLaw_law 456 = .ok (.invokestatic 99, 3) := by decide +kernel
theorem dLaw_law_459 : decode bLaw_law 459 = .ok (.istore 5, 2) := by decide +kernel
theorem dLaw_law_461 : decode bLaw_law 461 = .ok (.aload_n 2, 1) := by decide +kernel
theorem dLaw_law_462 : decode bLaw_law 462 = .ok (.aload_n 0, 1) := by decide +kernel
theorem dLaw_law_463 : decode bLaw_law 463 = .ok (.iload 4, 2) := by decide +kernel
theorem dLaw_law_465 : decode bLaw_law 465 = .ok (.iconst 1, 1) := by decide +kernel
theorem dLaw_law_466 : decode bLaw_law 466 = .ok (.iadd, 1) := by decide +kernel
theorem dLaw_law_467 : decode bLaw_law 467 = .ok (.iaload, 1) := by decide +kernel
theorem dLaw_law_468 : decode bLaw_law 468 = .ok (.aload_n 0, 1) := by decide +kernel
theorem dLaw_law_469 : decode bLaw_law 469 = .ok (.iload 4, 2) := by decide +kernel
theorem dLaw_law_471 : decode bLaw_law 471 = .ok (.iconst 2, 1) := by decide +kernel
theorem dLaw_law_472 : decode bLaw_law 472 = .ok (.iadd, 1) := by decide +kernel
theorem dLaw_law_473 : decode bLaw_law 473 = .ok (.iaload, 1) := by decide +kernel
theorem dLaw_law_474 : decode bLaw_law 474 = .ok (.invokevirtual 101, 3) := by decide +kernel
theorem dLaw_law_477 : decode bLaw_law 477 = .ok (.istore 6, 2) := by decide +kernel
theorem dLaw_law_479 : decode bLaw_law 479 = .ok (.goto 83, 3) := by decide +kernel
theorem dLaw_law_482 : decode bLaw_law 482 = .ok (.aload_n 1, 1) := by decide +kernel
theorem dLaw_law_483 : decode bLaw_law 483 = .ok (.aload_n 0, 1) := by decide +kernel
theorem dLaw_law_484 : decode bLaw_law 484 = .ok (.iload 4, 2) := by decide +kernel
theorem dLaw_law_486 : decode bLaw_law 486 = .ok (.iconst 1, 1) := by decide +kernel
theorem dLaw_law_487 : decode bLaw_law 487 = .ok (.iadd, 1) := by decide +kernel
theorem dLaw_law_488 : decode bLaw_law 488 = .ok (.iaload, 1) := by decide +kernel
theorem dLaw_law_489 : decode bLaw_law 489 = .ok (.aload_n 0, 1) := by decide +kernel
theorem dLaw_law_490 : decode bLaw_law 490 = .ok (.iload 4, 2) := by decide +kernel
theorem dLaw_law_492 : decode bLaw_law 492 = .ok (.iconst 2, 1) := by decide +kernel
theorem dLaw_law_493 : decode bLaw_law 493 = .ok (.iadd, 1) := by decide +kernel
theorem dLaw_law_494 : decode bLaw_law 494 = .ok (.iaload, 1) := by decide +kernel
theorem dLaw_law_495 : decode bLaw_law 495 = .ok (.aload_n 3, 1) := by decide +kernel
theorem dLaw_law_496 : decode bLaw_law 496 = .ok (.invokestatic 102, 3) := by decide +kernel
theorem dLaw_law_499 : decode bLaw_law 499 = .ok (.istore 5, 2) := by decide +kernel
theorem dLaw_law_501 : decode bLaw_law 501 = .ok (.aload_n 2, 1) := by decide +kernel
theorem dLaw_law_502 : decode bLaw_law 502 = .ok (.aload_n 0, 1) := by decide +kernel
theorem dLaw_law_503 : decode bLaw_law 503 = .ok (.iload 4, 2) := by decide +kernel
theorem dLaw_law_505 : decode bLaw_law 505 = .ok (.iconst 1, 1) := by decide +kernel
theorem dLaw_law_506 : decode bLaw_law 506 = .ok (.iadd, 1) := by decide +kernel
theorem dLaw_law_507 : decode bLaw_law 507 = .ok (.iaload, 1) := by decide +kernel
theorem dLaw_law_508 : decode bLaw_law 508 = .ok (.aload_n 0, 1) := by decide +kernel
theorem dLaw_law_509 : decode bLaw_law 509 = .ok (.iload 4, 2) := by decide +kernel
theorem dLaw_law_511 : decode bLaw_law 511 = .ok (.iconst 2, 1) := by decide +kernel
theorem dLaw_law_512 : decode bLaw_law 512 = .ok (.iadd, 1) := by decide +kernel
theorem dLaw_law_513 : decode bLaw_law 513 = .ok (.iaload, 1) := by decide +kernel
theorem dLaw_law_514 : decode bLaw_law 514 = .ok (.invokevirtual 104, 3) := by decide +kernel
theorem dLaw_law_517 : decode bLaw_law 517 = .ok (.istore 6, 2) := by decide +kernel
theorem dLaw_law_519 : decode bLaw_law 519 = .ok (.goto 43, 3) := by decide +kernel
theorem dLaw_law_522 : decode bLaw_law 522 = .ok (.aload_n 1, 1) := by decide +kernel
theorem dLaw_law_523 : decode bLaw_law 523 = .ok (.aload_n 0, 1) := by decide +kernel
theorem dLaw_law_524 : decode bLaw_law 524 = .ok (.iload 4, 2) := by decide +kernel
theorem dLaw_law_526 : decode bLaw_law 526 = .ok (.iconst 1, 1) := by decide +kernel
theorem dLaw_law_527 : decode bLaw_law 527 = .ok (.iadd, 1) := by decide +kernel
theorem dLaw_law_528 : decode bLaw_law 528 = .ok (.iaload, 1) := by decide +kernel
theorem dLaw_law_529 : decode bLaw_law 529 = .ok (.aload_n 0, 1) := by decide +kernel
theorem dLaw_law_530 : decode bLaw_law 530 = .ok (.iload 4, 2) := by decide +kernel
theorem dLaw_law_532 : decode bLaw_law 532 = .ok (.iconst 2, 1) := by decide +kernel
theorem dLaw_law_533 : decode bLaw_law 533 = .ok (.iadd, 1) := by decide +kernel
theorem dLaw_law_534 : decode bLaw_law 534 = .ok (.iaload, 1) := by decide +kernel
theorem dLaw_law_535 : decode bLaw_law 535 = .ok (.aload_n 3, 1) := by decide +kernel
theorem dLaw_law_536 : decode bLaw_law 536 = .ok (.invokestatic 105, 3) := by decide +kernel
theorem dLaw_law_539 : decode bLaw_law 539 = .ok (.istore 5, 2) := by decide +kernel
theorem dLaw_law_541 : decode bLaw_law 541 = .ok (.aload_n 2, 1) := by decide +kernel
theorem dLaw_law_542 : decode bLaw_law 542 = .ok (.aload_n 0, 1) := by decide +kernel
theorem dLaw_law_543 : decode bLaw_law 543 = .ok (.iload 4, 2) := by decide +kernel
theorem dLaw_law_545 : decode bLaw_law 545 = .ok (.iconst 1, 1) := by decide +kernel
theorem dLaw_law_546 : decode bLaw_law 546 = .ok (.iadd, 1) := by decide +kernel
theorem dLaw_law_547 : decode bLaw_law 547 = .ok (.iaload, 1) := by decide +kernel
theorem dLaw_law_548 : decode bLaw_law 548 = .ok (.aload_n 0, 1) := by decide +kernel
theorem dLaw_law_549 : decode bLaw_law 549 = .ok (.iload 4, 2) := by decide +kernel
theorem dLaw_law_551 : decode bLaw_law 551 = .ok (.iconst 2, 1) := by decide +kernel
theorem dLaw_law_552 : decode bLaw_law 552 = .ok (.iadd, 1) := by decide +kernel
theorem dLaw_law_553 : decode bLaw_law 553 = .ok (.iaload, 1) := by decide +kernel
theorem dLaw_law_554 : decode bLaw_law 554 = .ok (.invokevirtual 107, 3) := by decide +kernel
theorem dLaw_law_557 : decode bLaw_law 557 = .ok (.istore 6, 2) := by decide +kernel
theorem dLaw_law_559 : decode bLaw_law 559 = .ok (.goto 3, 3) := by decide +kernel
theorem dLaw_law_562 : decode bLaw_law 562 = .ok (.iinc 4 5, 3) := by decide +kernel
theorem dLaw_law_565 : decode bLaw_law 565 = .ok (.goto (-542), 3) := by decide +kernel
theorem dLaw_law_568 : decode bLaw_law 568 = .ok (.iconst 1, 1) := by decide +kernel
theorem dLaw_law_569 : decode bLaw_law 569 = .ok (.ireturn, 1) := by decide +kernel
theorem qw_0d96977d20 : (Cond.methodLink R_Law 7 yTypeBook_add) ∈ bs_W0 := bs_in (in_tables_1_2 (List.mem_of_getElem? (i := 91) rfl)) rfl
theorem qw_50864e5db4 : (Cond.classLink R_Law 13 "java/lang/IllegalArgumentException") ∈ bs_W0 := bs_in (in_tables_1_2 (List.mem_of_getElem? (i := 89) rfl)) rfl
theorem qw_d3a77de564 : (Cond.classLink R_Law 15 "java/lang/IllegalStateException") ∈ bs_W0 := bs_in (in_tables_1_2 (List.mem_of_getElem? (i := 90) rfl)) rfl
set_option maxHeartbeats 4000000 in
set_option maxRecDepth 100000 in
theorem w_add (l : Launch) (hst : l.stackTraces = false) (γ : gE) (A : Nat → Prop) (κ : Nat → Nat) (s0 : State) (hw0 : SW s0) (hnc : NCs s0) (hA0 : ∀ q, A q → s0.heap.size ≤ q) (H0 : Heap) (o : Nat) (ho : ¬ A o) (g : Nat → Int64) (x1 : Int32) (x2 : Int32) (x3 : Int32) : WM l yLaw_add bLaw_add 6 hLaw_add 7 169 50000 1000000 [.ref (γ.2.2.2 0), .int x1, .int x2, .int x3, .ref o] γ (fun q => A q ∨ q = o) (PSw s0 H0 γ A κ o g) (mQi (fun r H => (r = 0 ∧ (¬ BA (κ 1) x1 x2 x3 ∧ κ 0 < 4000) ∧ (∃ g' : Nat → Int64, OU γ o g' H ∧ g' 0 = (nI (κ 0)).toInt64) ∧ PB γ A κ H0 (fun κ' => κ' 3 = κ 3 ∧ κ' 0 = κ 0 + 1 ∧ ∃ k, x3 = nI k ∧ k ≤ κ 1 ∧ κ' 1 = κ 1 + 1 - k) H) ∨ (((r = 1 ∧ BA (κ 1) x1 x2 x3) ∨ (r = 2 ∧ ¬ BA (κ 1) x1 x2 x3 ∧ 4000 ≤ κ 0)) ∧ (∃ g' : Nat → Int64, OU γ o g' H) ∧ PB γ A κ H0 (fun κ' => κ' 3 = κ 3 ∧ κ' 0 = κ 0 ∧ κ' 1 = κ 1) H)) (fun q => A q ∨ q = o)) := by
  refine wm_open (by decide) (Nat.le_of_ble_eq_true rfl) ?_
  intro p e s m args below meth c ls Q S htab hC hA hPS hE hl
  obtain ⟨hF0, hH0, hI, hO, hAn⟩ := hPS
  subst hH0
  obtain ⟨hx, hb, hml, hown, hW⟩ := id S
  have hS : va_S (fun q => A q ∨ q = o) s.heap s.heap [] := va_S.rf
  have hl : lv_has ls 6 [(0, .ref (γ.2.2.2 0)), (1, .int x1), (2, .int x2), (3, .int x3), (4, .ref o)] := hl
  refine lv_aload hx hb dLaw_add_0 (lv_at hl 4 rfl) ?_
  refine lv_iconst (v := 0) hx hb dLaw_add_2 (by decide) ?_
  refine lv_aload_n hx hb dLaw_add_3 rfl (lv_at hl 0 rfl) ?_
  refine lv_iload_n hx hb dLaw_add_4 rfl (lv_at hl 1 rfl) ?_
  refine lv_iload_n hx hb dLaw_add_5 rfl (lv_at hl 2 rfl) ?_
  refine lv_iload_n hx hb dLaw_add_6 rfl (lv_at hl 3 rfl) ?_
  refine tx_call (A := A) (A0 := (fun q => A q ∨ q = o)) (H0 := s.heap) (rest := [.int 0, .ref o]) S hC htab hAn (fun q h => Or.inl h) hS (x_add l hst γ A κ s0 hw0 hA0 s.heap x1 x2 x3) psx_bl meTypeBook_add qw_0d96977d20 ⟨Nat.le_of_ble_eq_true rfl, Nat.le_of_ble_eq_true rfl⟩ (rv_0 hC hI) (fun U hU hWU => ⟨by rw [hU]; exact hF0.warm hWU, hU, by rw [hU]; exact hI⟩) rfl hl.1 rfl (Nat.le_of_ble_eq_true rfl) dLaw_add_7 ⟨Nat.le_of_ble_eq_true rfl, Nat.le_of_ble_eq_true rfl⟩ (fun E H1 hx9 => hx9.2.2.2) (fun r H1 locs1 hPO hS hz hk => ?_) (fun E q H1 locs1 hXC hS => ?_)
  · have hO1 : OU γ o g H1 := hO.kept (hk o hO.lt ho)
    refine lv_i2l hx hb dLaw_add_10 rfl ?_
    refine ou_st S hC hO1 (Or.inr rfl) hS dLaw_add_11 (fun H2 locs2 hO2 hS hz2 hq2 => ?_)
    refine lv_goto (tgt := 23) hx hb dLaw_add_12 (by decide) ?_
    refine lv_iconst (v := 0) hx hb dLaw_add_23 (by decide) ?_
    exact hE _ _ _ _ _ _ _ hS (Nat.le_of_ble_eq_true rfl) (Nat.le_of_ble_eq_true rfl) (Or.inl ⟨rfl, ⟨hPO.1.1, hPO.1.2.1⟩, ⟨_, hO2, by rw [hPO.1.2.2]; exact if_pos rfl⟩, pb_st hPO.2 ho hO1 hO2 hz2 hq2⟩) dLaw_add_24
  · obtain ⟨hE9, hk3, hPB, hfr⟩ := hXC
    have hO1 : OU γ o g H1 := hO.kept (hfr.2 o hO.lt ho)
    rcases List.mem_cons.mp hE9 with rfl | hE9
    · refine ⟨15, ⟨⟨by decide, by decide⟩, by decide, "java/lang/IllegalArgumentException", hW _ qw_50864e5db4, Or.inl ⟨va_Nw.warmC hF0.1 (hw0.1 _ (in_tables_1_2 (List.mem_of_getElem? (i := 97) rfl)) rfl), rfl⟩⟩, ?_⟩
      refine lv_astore (lv' := [(5, .ref q), (0, .ref (γ.2.2.2 0)), (1, .int x1), (2, .int x2), (3, .int x3), (4, .ref o)]) hx hb dLaw_add_15 hl (by decide) rfl (fun ls hl => ?_)
      refine lv_iconst (v := 1) hx hb dLaw_add_17 (by decide) ?_
      exact hE _ _ _ _ _ _ _ hS (Nat.le_of_ble_eq_true rfl) (Nat.le_of_ble_eq_true rfl) (Or.inr ⟨Or.inl ⟨rfl, hk3.elim (fun h => h.2) (fun h => absurd h.1 (by decide))⟩, ⟨_, hO1⟩, hPB⟩) dLaw_add_18
    rcases List.mem_cons.mp hE9 with rfl | hE9
    · refine ⟨19, ⟨⟨by decide, by decide⟩, by decide, "java/lang/IllegalArgumentException", hW _ qw_50864e5db4, Or.inr ⟨va_Nc.moved hF0.1.alike hnc.1, ⟨⟨by decide, by decide⟩, by decide, "java/lang/IllegalStateException", hW _ qw_d3a77de564, Or.inl ⟨va_Nw.warmC hF0.1 (hw0.1 _ (in_tables_1_2 (List.mem_of_getElem? (i := 172) rfl)) rfl), rfl⟩⟩⟩⟩, ?_⟩
      refine lv_astore (lv' := [(5, .ref q), (0, .ref (γ.2.2.2 0)), (1, .int x1), (2, .int x2), (3, .int x3), (4, .ref o)]) hx hb dLaw_add_19 hl (by decide) rfl (fun ls hl => ?_)
      refine lv_iconst (v := 2) hx hb dLaw_add_21 (by decide) ?_
      exact hE _ _ _ _ _ _ _ hS (Nat.le_of_ble_eq_true rfl) (Nat.le_of_ble_eq_true rfl) (Or.inr ⟨Or.inr ⟨rfl, hk3.elim (fun h => absurd h.1 (by decide)) (fun h => h.2)⟩, ⟨_, hO1⟩, hPB⟩) dLaw_add_22
    exact absurd hE9 List.not_mem_nil
theorem qw_b1dfac4ceb : (Cond.methodLink R_Law 17 yTypeBook_enter) ∈ bs_W0 := bs_in (in_tables_1_2 (List.mem_of_getElem? (i := 233) rfl)) rfl
set_option maxHeartbeats 4000000 in
set_option maxRecDepth 100000 in
theorem w_enter (l : Launch) (hst : l.stackTraces = false) (γ : gE) (A : Nat → Prop) (κ : Nat → Nat) (s0 : State) (hw0 : SW s0) (hnc : NCs s0) (hA0 : ∀ q, A q → s0.heap.size ≤ q) (H0 : Heap) (o : Nat) (ho : ¬ A o) (g : Nat → Int64)  : WM l yLaw_enter bLaw_enter 3 hLaw_enter 7 102 50000 1000000 [.ref (γ.2.2.2 0), .ref o] γ (fun q => A q ∨ q = o) (PSw s0 H0 γ A κ o g) (mQi (fun r H => (r = 0 ∧ κ 3 < 32 ∧ (∃ g' : Nat → Int64, OU γ o g' H ∧ g' 0 = (nI (κ 3 + 1)).toInt64) ∧ PB γ A κ H0 (fun κ' => κ' 3 = κ 3 + 1 ∧ κ' 0 = κ 0 ∧ κ' 1 = κ 1) H) ∨ (r = 1 ∧ κ 3 = 32 ∧ (∃ g' : Nat → Int64, OU γ o g' H) ∧ PB γ A κ H0 (fun κ' => κ' 3 = κ 3 ∧ κ' 0 = κ 0 ∧ κ' 1 = κ 1) H)) (fun q => A q ∨ q = o)) := by
  refine wm_open (by decide) (Nat.le_of_ble_eq_true rfl) ?_
  intro p e s m args below meth c ls Q S htab hC hA hPS hE hl
  obtain ⟨hF0, hH0, hI, hO, hAn⟩ := hPS
  subst hH0
  obtain ⟨hx, hb, hml, hown, hW⟩ := id S
  have hS : va_S (fun q => A q ∨ q = o) s.heap s.heap [] := va_S.rf
  have hl : lv_has ls 3 [(0, .ref (γ.2.2.2 0)), (1, .ref o)] := hl
  refine lv_aload_n hx hb dLaw_enter_0 rfl (lv_at hl 1 rfl) ?_
  refine lv_iconst (v := 0) hx hb dLaw_enter_1 (by decide) ?_
  refine lv_aload_n hx hb dLaw_enter_2 rfl (lv_at hl 0 rfl) ?_
  refine tx_call (A := A) (A0 := (fun q => A q ∨ q = o)) (H0 := s.heap) (rest := [.int 0, .ref o]) S hC htab hAn (fun q h => Or.inl h) hS (x_enter l hst γ A κ s0 hw0 hA0 s.heap ) psx_bl meTypeBook_enter qw_b1dfac4ceb ⟨Nat.le_of_ble_eq_true rfl, Nat.le_of_ble_eq_true rfl⟩ (rv_0 hC hI) (fun U hU hWU => ⟨by rw [hU]; exact hF0.warm hWU, hU, by rw [hU]; exact hI⟩) rfl hl.1 rfl (Nat.le_of_ble_eq_true rfl) dLaw_enter_3 ⟨Nat.le_of_ble_eq_true rfl, Nat.le_of_ble_eq_true rfl⟩ (fun E H1 hx9 => hx9.2.2.2) (fun r H1 locs1 hPO hS hz hk => ?_) (fun E q H1 locs1 hXC hS => ?_)
  · have hO1 : OU γ o g H1 := hO.kept (hk o hO.lt ho)
    refine lv_i2l hx hb dLaw_enter_6 rfl ?_
    refine ou_st S hC hO1 (Or.inr rfl) hS dLaw_enter_7 (fun H2 locs2 hO2 hS hz2 hq2 => ?_)
    refine lv_goto (tgt := 14) hx hb dLaw_enter_8 (by decide) ?_
    refine lv_iconst (v := 0) hx hb dLaw_enter_14 (by decide) ?_
    exact hE _ _ _ _ _ _ _ hS (Nat.le_of_ble_eq_true rfl) (Nat.le_of_ble_eq_true rfl) (Or.inl ⟨rfl, hPO.1.1, ⟨_, hO2, by rw [hPO.1.2]; exact if_pos rfl⟩, pb_st hPO.2 ho hO1 hO2 hz2 hq2⟩) dLaw_enter_15
  · obtain ⟨hE9, hk3, hPB, hfr⟩ := hXC
    have hO1 : OU γ o g H1 := hO.kept (hfr.2 o hO.lt ho)
    rcases List.mem_cons.mp hE9 with rfl | hE9
    · refine ⟨11, ⟨⟨by decide, by decide⟩, by decide, "java/lang/IllegalStateException", hW _ qw_d3a77de564, Or.inl ⟨va_Nw.warmC hF0.1 (hw0.1 _ (in_tables_1_2 (List.mem_of_getElem? (i := 172) rfl)) rfl), rfl⟩⟩, ?_⟩
      refine lv_astore_n (lv' := [(2, .ref q), (0, .ref (γ.2.2.2 0)), (1, .ref o)]) hx hb dLaw_enter_11 rfl hl (by decide) rfl (fun ls hl => ?_)
      refine lv_iconst (v := 1) hx hb dLaw_enter_12 (by decide) ?_
      exact hE _ _ _ _ _ _ _ hS (Nat.le_of_ble_eq_true rfl) (Nat.le_of_ble_eq_true rfl) (Or.inr ⟨rfl, hk3, ⟨_, hO1⟩, hPB⟩) dLaw_enter_13
    exact absurd hE9 List.not_mem_nil
theorem qw_5f15f70ef5 : (Cond.methodLink R_Law 21 yTypeBook_leave) ∈ bs_W0 := bs_in (in_tables_1_3 (List.mem_of_getElem? (i := 5) rfl)) rfl
set_option maxHeartbeats 4000000 in
set_option maxRecDepth 100000 in
theorem w_leave (l : Launch) (hst : l.stackTraces = false) (γ : gE) (A : Nat → Prop) (κ : Nat → Nat) (s0 : State) (hw0 : SW s0) (hnc : NCs s0) (hA0 : ∀ q, A q → s0.heap.size ≤ q) (H0 : Heap) (o : Nat) (ho : ¬ A o) (g : Nat → Int64)  : WM l yLaw_leave bLaw_leave 3 hLaw_leave 7 102 50000 1000000 [.ref (γ.2.2.2 0), .ref o] γ (fun q => A q ∨ q = o) (PSw s0 H0 γ A κ o g) (mQi (fun r H => (r = 0 ∧ 1 < κ 3 ∧ (∃ g' : Nat → Int64, OU γ o g' H ∧ g' 0 = (nI (κ 3 - 1)).toInt64) ∧ PB γ A κ H0 (fun κ' => κ' 3 = κ 3 - 1 ∧ κ' 0 = κ 0 ∧ κ' 1 = κ 1) H) ∨ (r = 1 ∧ κ 3 = 1 ∧ (∃ g' : Nat → Int64, OU γ o g' H) ∧ PB γ A κ H0 (fun κ' => κ' 3 = κ 3 ∧ κ' 0 = κ 0 ∧ κ' 1 = κ 1) H)) (fun q => A q ∨ q = o)) := by
  refine wm_open (by decide) (Nat.le_of_ble_eq_true rfl) ?_
  intro p e s m args below meth c ls Q S htab hC hA hPS hE hl
  obtain ⟨hF0, hH0, hI, hO, hAn⟩ := hPS
  subst hH0
  obtain ⟨hx, hb, hml, hown, hW⟩ := id S
  have hS : va_S (fun q => A q ∨ q = o) s.heap s.heap [] := va_S.rf
  have hl : lv_has ls 3 [(0, .ref (γ.2.2.2 0)), (1, .ref o)] := hl
  refine lv_aload_n hx hb dLaw_leave_0 rfl (lv_at hl 1 rfl) ?_
  refine lv_iconst (v := 0) hx hb dLaw_leave_1 (by decide) ?_
  refine lv_aload_n hx hb dLaw_leave_2 rfl (lv_at hl 0 rfl) ?_
  refine tx_call (A := A) (A0 := (fun q => A q ∨ q = o)) (H0 := s.heap) (rest := [.int 0, .ref o]) S hC htab hAn (fun q h => Or.inl h) hS (x_leave l hst γ A κ s0 hw0 hA0 s.heap ) psx_bl meTypeBook_leave qw_5f15f70ef5 ⟨Nat.le_of_ble_eq_true rfl, Nat.le_of_ble_eq_true rfl⟩ (rv_0 hC hI) (fun U hU hWU => ⟨by rw [hU]; exact hF0.warm hWU, hU, by rw [hU]; exact hI⟩) rfl hl.1 rfl (Nat.le_of_ble_eq_true rfl) dLaw_leave_3 ⟨Nat.le_of_ble_eq_true rfl, Nat.le_of_ble_eq_true rfl⟩ (fun E H1 hx9 => hx9.2.2.2) (fun r H1 locs1 hPO hS hz hk => ?_) (fun E q H1 locs1 hXC hS => ?_)
  · have hO1 : OU γ o g H1 := hO.kept (hk o hO.lt ho)
    refine lv_i2l hx hb dLaw_leave_6 rfl ?_
    refine ou_st S hC hO1 (Or.inr rfl) hS dLaw_leave_7 (fun H2 locs2 hO2 hS hz2 hq2 => ?_)
    refine lv_goto (tgt := 14) hx hb dLaw_leave_8 (by decide) ?_
    refine lv_iconst (v := 0) hx hb dLaw_leave_14 (by decide) ?_
    exact hE _ _ _ _ _ _ _ hS (Nat.le_of_ble_eq_true rfl) (Nat.le_of_ble_eq_true rfl) (by obtain ⟨s1, e1, e2, e3, hPB⟩ := hPO; have e4 : κ 3 - 1 = s1 := (by omega); exact Or.inl ⟨rfl, by omega, ⟨_, hO2, by rw [e4, e3]; exact if_pos rfl⟩, (pb_st hPB ho hO1 hO2 hz2 hq2).mono (fun k h => by obtain ⟨u1, u2, u3⟩ := h; exact ⟨by omega, u2, u3⟩)⟩) dLaw_leave_15
  · obtain ⟨hE9, hk3, hPB, hfr⟩ := hXC
    have hO1 : OU γ o g H1 := hO.kept (hfr.2 o hO.lt ho)
    rcases List.mem_cons.mp hE9 with rfl | hE9
    · refine ⟨11, ⟨⟨by decide, by decide⟩, by decide, "java/lang/IllegalStateException", hW _ qw_d3a77de564, Or.inl ⟨va_Nw.warmC hF0.1 (hw0.1 _ (in_tables_1_2 (List.mem_of_getElem? (i := 172) rfl)) rfl), rfl⟩⟩, ?_⟩
      refine lv_astore_n (lv' := [(2, .ref q), (0, .ref (γ.2.2.2 0)), (1, .ref o)]) hx hb dLaw_leave_11 rfl hl (by decide) rfl (fun ls hl => ?_)
      refine lv_iconst (v := 1) hx hb dLaw_leave_12 (by decide) ?_
      exact hE _ _ _ _ _ _ _ hS (Nat.le_of_ble_eq_true rfl) (Nat.le_of_ble_eq_true rfl) (Or.inr ⟨rfl, hk3, ⟨_, hO1⟩, hPB⟩) dLaw_leave_13
    exact absurd hE9 List.not_mem_nil
theorem qw_8b2a3c1b26 : (Cond.methodLink R_Law 24 yTypeBook_type) ∈ bs_W0 := bs_in (in_tables_1_3 (List.mem_of_getElem? (i := 18) rfl)) rfl
theorem qw_1956a2fa33 : (Cond.classLink R_Law 28 "java/lang/IndexOutOfBoundsException") ∈ bs_W0 := bs_in (in_tables_1_3 (List.mem_of_getElem? (i := 17) rfl)) rfl
set_option maxHeartbeats 4000000 in
set_option maxRecDepth 100000 in
theorem w_type (l : Launch) (hst : l.stackTraces = false) (γ : gE) (A : Nat → Prop) (κ : Nat → Nat) (s0 : State) (hw0 : SW s0) (hnc : NCs s0) (hA0 : ∀ q, A q → s0.heap.size ≤ q) (H0 : Heap) (o : Nat) (ho : ¬ A o) (g : Nat → Int64) (x1 : Int32) : WM l yLaw_type bLaw_type 4 hLaw_type 8 197 50000 1000000 [.ref (γ.2.2.2 0), .int x1, .ref o] γ (fun q => A q ∨ q = o) (PSw s0 H0 γ A κ o g) (mQi (fun r H => (∃ g' : Nat → Int64, OU γ o g' H) ∧ PB γ A κ H0 (fun κ' => κ' 3 = κ 3 ∧ κ' 0 = κ 0 ∧ κ' 1 = κ 1) H) (fun q => A q ∨ q = o)) := by
  refine wm_open (by decide) (Nat.le_of_ble_eq_true rfl) ?_
  intro p e s m args below meth c ls Q S htab hC hA hPS hE hl
  obtain ⟨hF0, hH0, hI, hO, hAn⟩ := hPS
  subst hH0
  obtain ⟨hx, hb, hml, hown, hW⟩ := id S
  have hS : va_S (fun q => A q ∨ q = o) s.heap s.heap [] := va_S.rf
  have hl : lv_has ls 4 [(0, .ref (γ.2.2.2 0)), (1, .int x1), (2, .ref o)] := hl
  refine lv_aload_n hx hb dLaw_type_0 rfl (lv_at hl 2 rfl) ?_
  refine lv_iconst (v := 0) hx hb dLaw_type_1 (by decide) ?_
  refine lv_aload_n hx hb dLaw_type_2 rfl (lv_at hl 0 rfl) ?_
  refine lv_iload_n hx hb dLaw_type_3 rfl (lv_at hl 1 rfl) ?_
  refine tx_call (A := A) (A0 := (fun q => A q ∨ q = o)) (H0 := s.heap) (rest := [.int 0, .ref o]) S hC htab hAn (fun q h => Or.inl h) hS (x_type l hst γ A κ s0 hw0 hA0 s.heap x1) psx_bl meTypeBook_type qw_8b2a3c1b26 ⟨Nat.le_of_ble_eq_true rfl, Nat.le_of_ble_eq_true rfl⟩ (rv_0 hC hI) (fun U hU hWU => ⟨by rw [hU]; exact hF0.warm hWU, hU, by rw [hU]; exact hI⟩) rfl hl.1 rfl (Nat.le_of_ble_eq_true rfl) dLaw_type_4 ⟨Nat.le_of_ble_eq_true rfl, Nat.le_of_ble_eq_true rfl⟩ (fun E H1 hx9 => hx9.2.2) (fun r H1 locs1 hPO hS hz hk => ?_) (fun E q H1 locs1 hXC hS => ?_)
  · have hO1 : OU γ o g H1 := hO.kept (hk o hO.lt ho)
    refine lv_i2l hx hb dLaw_type_7 rfl ?_
    refine ou_st S hC hO1 (Or.inr rfl) hS dLaw_type_8 (fun H2 locs2 hO2 hS hz2 hq2 => ?_)
    refine lv_goto (tgt := 18) hx hb dLaw_type_9 (by decide) ?_
    refine lv_iconst (v := 0) hx hb dLaw_type_18 (by decide) ?_
    exact hE _ _ _ _ _ _ _ hS (Nat.le_of_ble_eq_true rfl) (Nat.le_of_ble_eq_true rfl) ⟨⟨_, hO2⟩, pb_st hPO ho hO1 hO2 hz2 hq2⟩ dLaw_type_19
  · obtain ⟨hE9, hPB, hfr⟩ := hXC
    have hO1 : OU γ o g H1 := hO.kept (hfr.2 o hO.lt ho)
    rcases List.mem_cons.mp hE9 with rfl | hE9
    · refine ⟨12, ⟨⟨by decide, by decide⟩, by decide, "java/lang/IndexOutOfBoundsException", hW _ qw_1956a2fa33, Or.inl ⟨va_Nw.warmC hF0.1 (hw0.1 _ (in_tables_1_3 (List.mem_of_getElem? (i := 25) rfl)) rfl), rfl⟩⟩, ?_⟩
      refine lv_astore_n (lv' := [(3, .ref q), (0, .ref (γ.2.2.2 0)), (1, .int x1), (2, .ref o)]) hx hb dLaw_type_12 rfl hl (by decide) rfl (fun ls hl => ?_)
      refine lv_iconst (v := 1) hx hb dLaw_type_13 (by decide) ?_
      exact hE _ _ _ _ _ _ _ hS (Nat.le_of_ble_eq_true rfl) (Nat.le_of_ble_eq_true rfl) ⟨⟨_, hO1⟩, hPB⟩ dLaw_type_14
    rcases List.mem_cons.mp hE9 with rfl | hE9
    · refine ⟨15, ⟨⟨by decide, by decide⟩, by decide, "java/lang/IndexOutOfBoundsException", hW _ qw_1956a2fa33, Or.inr ⟨va_Nc.moved hF0.1.alike hnc.2.1, ⟨⟨by decide, by decide⟩, by decide, "java/lang/IllegalStateException", hW _ qw_d3a77de564, Or.inl ⟨va_Nw.warmC hF0.1 (hw0.1 _ (in_tables_1_2 (List.mem_of_getElem? (i := 172) rfl)) rfl), rfl⟩⟩⟩⟩, ?_⟩
      refine lv_astore_n (lv' := [(3, .ref q), (0, .ref (γ.2.2.2 0)), (1, .int x1), (2, .ref o)]) hx hb dLaw_type_15 rfl hl (by decide) rfl (fun ls hl => ?_)
      refine lv_iconst (v := 2) hx hb dLaw_type_16 (by decide) ?_
      exact hE _ _ _ _ _ _ _ hS (Nat.le_of_ble_eq_true rfl) (Nat.le_of_ble_eq_true rfl) ⟨⟨_, hO1⟩, hPB⟩ dLaw_type_17
    exact absurd hE9 List.not_mem_nil
theorem qw_f341ee00dd : (Cond.methodLink R_Law 30 yTypeBook_enumeration) ∈ bs_W0 := bs_in (in_tables_1_5 (List.mem_of_getElem? (i := 13) rfl)) rfl
set_option maxHeartbeats 4000000 in
set_option maxRecDepth 100000 in
theorem w_enumeration (l : Launch) (hst : l.stackTraces = false) (γ : gE) (A : Nat → Prop) (κ : Nat → Nat) (s0 : State) (hw0 : SW s0) (hnc : NCs s0) (hA0 : ∀ q, A q → s0.heap.size ≤ q) (H0 : Heap) (o : Nat) (ho : ¬ A o) (g : Nat → Int64) (x1 : Int32) : WM l yLaw_enumeration bLaw_enumeration 4 hLaw_enumeration 7 154 50000 1000000 [.ref (γ.2.2.2 0), .int x1, .ref o] γ (fun q => A q ∨ q = o) (PSw s0 H0 γ A κ o g) (mQi (fun r H => (∃ g' : Nat → Int64, OU γ o g' H) ∧ PB γ A κ H0 (fun κ' => κ' 3 = κ 3 ∧ κ' 0 = κ 0 ∧ κ' 1 = κ 1) H) (fun q => A q ∨ q = o)) := by
  refine wm_open (by decide) (Nat.le_of_ble_eq_true rfl) ?_
  intro p e s m args below meth c ls Q S htab hC hA hPS hE hl
  obtain ⟨hF0, hH0, hI, hO, hAn⟩ := hPS
  subst hH0
  obtain ⟨hx, hb, hml, hown, hW⟩ := id S
  have hS : va_S (fun q => A q ∨ q = o) s.heap s.heap [] := va_S.rf
  have hl : lv_has ls 4 [(0, .ref (γ.2.2.2 0)), (1, .int x1), (2, .ref o)] := hl
  refine lv_aload_n hx hb dLaw_enumeration_0 rfl (lv_at hl 2 rfl) ?_
  refine lv_iconst (v := 0) hx hb dLaw_enumeration_1 (by decide) ?_
  refine lv_aload_n hx hb dLaw_enumeration_2 rfl (lv_at hl 0 rfl) ?_
  refine lv_iload_n hx hb dLaw_enumeration_3 rfl (lv_at hl 1 rfl) ?_
  refine tx_call (A := A) (A0 := (fun q => A q ∨ q = o)) (H0 := s.heap) (rest := [.int 0, .ref o]) S hC htab hAn (fun q h => Or.inl h) hS (x_enumeration l hst γ A κ s0 hw0 hA0 s.heap x1) psx_bl meTypeBook_enumeration qw_f341ee00dd ⟨Nat.le_of_ble_eq_true rfl, Nat.le_of_ble_eq_true rfl⟩ (rv_0 hC hI) (fun U hU hWU => ⟨by rw [hU]; exact hF0.warm hWU, hU, by rw [hU]; exact hI⟩) rfl hl.1 rfl (Nat.le_of_ble_eq_true rfl) dLaw_enumeration_4 ⟨Nat.le_of_ble_eq_true rfl, Nat.le_of_ble_eq_true rfl⟩ (fun E H1 hx9 => hx9.2.2) (fun r H1 locs1 hPO hS hz hk => ?_) (fun E q H1 locs1 hXC hS => ?_)
  · have hO1 : OU γ o g H1 := hO.kept (hk o hO.lt ho)
    refine lv_i2l hx hb dLaw_enumeration_7 rfl ?_
    refine ou_st S hC hO1 (Or.inr rfl) hS dLaw_enumeration_8 (fun H2 locs2 hO2 hS hz2 hq2 => ?_)
    refine lv_goto (tgt := 18) hx hb dLaw_enumeration_9 (by decide) ?_
    refine lv_iconst (v := 0) hx hb dLaw_enumeration_18 (by decide) ?_
    exact hE _ _ _ _ _ _ _ hS (Nat.le_of_ble_eq_true rfl) (Nat.le_of_ble_eq_true rfl) ⟨⟨_, hO2⟩, pb_st hPO ho hO1 hO2 hz2 hq2⟩ dLaw_enumeration_19
  · obtain ⟨hE9, hPB, hfr⟩ := hXC
    have hO1 : OU γ o g H1 := hO.kept (hfr.2 o hO.lt ho)
    rcases List.mem_cons.mp hE9 with rfl | hE9
    · refine ⟨12, ⟨⟨by decide, by decide⟩, by decide, "java/lang/IndexOutOfBoundsException", hW _ qw_1956a2fa33, Or.inl ⟨va_Nw.warmC hF0.1 (hw0.1 _ (in_tables_1_3 (List.mem_of_getElem? (i := 25) rfl)) rfl), rfl⟩⟩, ?_⟩
      refine lv_astore_n (lv' := [(3, .ref q), (0, .ref (γ.2.2.2 0)), (1, .int x1), (2, .ref o)]) hx hb dLaw_enumeration_12 rfl hl (by decide) rfl (fun ls hl => ?_)
      refine lv_iconst (v := 1) hx hb dLaw_enumeration_13 (by decide) ?_
      exact hE _ _ _ _ _ _ _ hS (Nat.le_of_ble_eq_true rfl) (Nat.le_of_ble_eq_true rfl) ⟨⟨_, hO1⟩, hPB⟩ dLaw_enumeration_14
    rcases List.mem_cons.mp hE9 with rfl | hE9
    · refine ⟨15, ⟨⟨by decide, by decide⟩, by decide, "java/lang/IndexOutOfBoundsException", hW _ qw_1956a2fa33, Or.inr ⟨va_Nc.moved hF0.1.alike hnc.2.1, ⟨⟨by decide, by decide⟩, by decide, "java/lang/IllegalStateException", hW _ qw_d3a77de564, Or.inl ⟨va_Nw.warmC hF0.1 (hw0.1 _ (in_tables_1_2 (List.mem_of_getElem? (i := 172) rfl)) rfl), rfl⟩⟩⟩⟩, ?_⟩
      refine lv_astore_n (lv' := [(3, .ref q), (0, .ref (γ.2.2.2 0)), (1, .int x1), (2, .ref o)]) hx hb dLaw_enumeration_15 rfl hl (by decide) rfl (fun ls hl => ?_)
      refine lv_iconst (v := 2) hx hb dLaw_enumeration_16 (by decide) ?_
      exact hE _ _ _ _ _ _ _ hS (Nat.le_of_ble_eq_true rfl) (Nat.le_of_ble_eq_true rfl) ⟨⟨_, hO1⟩, hPB⟩ dLaw_enumeration_17
    exact absurd hE9 List.not_mem_nil
theorem qw_5e18194dd2 : (Cond.methodLink R_Law 33 yTypeBook_subtype) ∈ bs_W0 := bs_in (in_tables_1_5 (List.mem_of_getElem? (i := 47) rfl)) rfl
set_option maxHeartbeats 4000000 in
set_option maxRecDepth 100000 in
theorem w_subtype (l : Launch) (hst : l.stackTraces = false) (γ : gE) (A : Nat → Prop) (κ : Nat → Nat) (s0 : State) (hw0 : SW s0) (hnc : NCs s0) (hA0 : ∀ q, A q → s0.heap.size ≤ q) (H0 : Heap) (o : Nat) (ho : ¬ A o) (g : Nat → Int64) (x1 : Int32) (x2 : Int32) : WM l yLaw_subtype bLaw_subtype 5 hLaw_subtype 7 150 50000 1000000 [.ref (γ.2.2.2 0), .int x1, .int x2, .ref o] γ (fun q => A q ∨ q = o) (PSw s0 H0 γ A κ o g) (mQi (fun r H => (∃ g' : Nat → Int64, OU γ o g' H) ∧ PB γ A κ H0 (fun κ' => κ' 3 = κ 3 ∧ κ' 0 = κ 0 ∧ κ' 1 = κ 1) H) (fun q => A q ∨ q = o)) := by
  refine wm_open (by decide) (Nat.le_of_ble_eq_true rfl) ?_
  intro p e s m args below meth c ls Q S htab hC hA hPS hE hl
  obtain ⟨hF0, hH0, hI, hO, hAn⟩ := hPS
  subst hH0
  obtain ⟨hx, hb, hml, hown, hW⟩ := id S
  have hS : va_S (fun q => A q ∨ q = o) s.heap s.heap [] := va_S.rf
  have hl : lv_has ls 5 [(0, .ref (γ.2.2.2 0)), (1, .int x1), (2, .int x2), (3, .ref o)] := hl
  refine lv_aload_n hx hb dLaw_subtype_0 rfl (lv_at hl 3 rfl) ?_
  refine lv_iconst (v := 0) hx hb dLaw_subtype_1 (by decide) ?_
  refine lv_aload_n hx hb dLaw_subtype_2 rfl (lv_at hl 0 rfl) ?_
  refine lv_iload_n hx hb dLaw_subtype_3 rfl (lv_at hl 1 rfl) ?_
  refine lv_iload_n hx hb dLaw_subtype_4 rfl (lv_at hl 2 rfl) ?_
  refine tx_call (A := A) (A0 := (fun q => A q ∨ q = o)) (H0 := s.heap) (rest := [.int 0, .ref o]) S hC htab hAn (fun q h => Or.inl h) hS (x_subtype l hst γ A κ s0 hw0 hA0 s.heap x1 x2) psx_bl meTypeBook_subtype qw_5e18194dd2 ⟨Nat.le_of_ble_eq_true rfl, Nat.le_of_ble_eq_true rfl⟩ (rv_0 hC hI) (fun U hU hWU => ⟨by rw [hU]; exact hF0.warm hWU, hU, by rw [hU]; exact hI⟩) rfl hl.1 rfl (Nat.le_of_ble_eq_true rfl) dLaw_subtype_5 ⟨Nat.le_of_ble_eq_true rfl, Nat.le_of_ble_eq_true rfl⟩ (fun E H1 hx9 => hx9.2.2) (fun r H1 locs1 hPO hS hz hk => ?_) (fun E q H1 locs1 hXC hS => ?_)
  · have hO1 : OU γ o g H1 := hO.kept (hk o hO.lt ho)
    refine lv_i2l hx hb dLaw_subtype_8 rfl ?_
    refine ou_st S hC hO1 (Or.inr rfl) hS dLaw_subtype_9 (fun H2 locs2 hO2 hS hz2 hq2 => ?_)
    refine lv_goto (tgt := 25) hx hb dLaw_subtype_10 (by decide) ?_
    refine lv_iconst (v := 0) hx hb dLaw_subtype_25 (by decide) ?_
    exact hE _ _ _ _ _ _ _ hS (Nat.le_of_ble_eq_true rfl) (Nat.le_of_ble_eq_true rfl) ⟨⟨_, hO2⟩, pb_st hPO ho hO1 hO2 hz2 hq2⟩ dLaw_subtype_26
  · obtain ⟨hE9, hPB, hfr⟩ := hXC
    have hO1 : OU γ o g H1 := hO.kept (hfr.2 o hO.lt ho)
    rcases List.mem_cons.mp hE9 with rfl | hE9
    · refine ⟨13, ⟨⟨by decide, by decide⟩, by decide, "java/lang/IndexOutOfBoundsException", hW _ qw_1956a2fa33, Or.inl ⟨va_Nw.warmC hF0.1 (hw0.1 _ (in_tables_1_3 (List.mem_of_getElem? (i := 25) rfl)) rfl), rfl⟩⟩, ?_⟩
      refine lv_astore (lv' := [(4, .ref q), (0, .ref (γ.2.2.2 0)), (1, .int x1), (2, .int x2), (3, .ref o)]) hx hb dLaw_subtype_13 hl (by decide) rfl (fun ls hl => ?_)
      refine lv_iconst (v := 1) hx hb dLaw_subtype_15 (by decide) ?_
      exact hE _ _ _ _ _ _ _ hS (Nat.le_of_ble_eq_true rfl) (Nat.le_of_ble_eq_true rfl) ⟨⟨_, hO1⟩, hPB⟩ dLaw_subtype_16
    rcases List.mem_cons.mp hE9 with rfl | hE9
    · refine ⟨17, ⟨⟨by decide, by decide⟩, by decide, "java/lang/IndexOutOfBoundsException", hW _ qw_1956a2fa33, Or.inr ⟨va_Nc.moved hF0.1.alike hnc.2.2, ⟨⟨by decide, by decide⟩, by decide, "java/lang/IllegalArgumentException", hW _ qw_50864e5db4, Or.inl ⟨va_Nw.warmC hF0.1 (hw0.1 _ (in_tables_1_2 (List.mem_of_getElem? (i := 97) rfl)) rfl), rfl⟩⟩⟩⟩, ?_⟩
      refine lv_astore (lv' := [(4, .ref q), (0, .ref (γ.2.2.2 0)), (1, .int x1), (2, .int x2), (3, .ref o)]) hx hb dLaw_subtype_17 hl (by decide) rfl (fun ls hl => ?_)
      refine lv_iconst (v := 2) hx hb dLaw_subtype_19 (by decide) ?_
      exact hE _ _ _ _ _ _ _ hS (Nat.le_of_ble_eq_true rfl) (Nat.le_of_ble_eq_true rfl) ⟨⟨_, hO1⟩, hPB⟩ dLaw_subtype_20
    rcases List.mem_cons.mp hE9 with rfl | hE9
    · refine ⟨21, ⟨⟨by decide, by decide⟩, by decide, "java/lang/IndexOutOfBoundsException", hW _ qw_1956a2fa33, Or.inr ⟨va_Nc.moved hF0.1.alike hnc.2.1, ⟨⟨by decide, by decide⟩, by decide, "java/lang/IllegalArgumentException", hW _ qw_50864e5db4, Or.inr ⟨va_Nc.moved hF0.1.alike hnc.1, ⟨⟨by decide, by decide⟩, by decide, "java/lang/IllegalStateException", hW _ qw_d3a77de564, Or.inl ⟨va_Nw.warmC hF0.1 (hw0.1 _ (in_tables_1_2 (List.mem_of_getElem? (i := 172) rfl)) rfl), rfl⟩⟩⟩⟩⟩⟩, ?_⟩
      refine lv_astore (lv' := [(4, .ref q), (0, .ref (γ.2.2.2 0)), (1, .int x1), (2, .int x2), (3, .ref o)]) hx hb dLaw_subtype_21 hl (by decide) rfl (fun ls hl => ?_)
      refine lv_iconst (v := 3) hx hb dLaw_subtype_23 (by decide) ?_
      exact hE _ _ _ _ _ _ _ hS (Nat.le_of_ble_eq_true rfl) (Nat.le_of_ble_eq_true rfl) ⟨⟨_, hO1⟩, hPB⟩ dLaw_subtype_24
    exact absurd hE9 List.not_mem_nil
theorem qw_5abb125a0b : (Cond.methodLink R_Law 37 yTypeBook_declare) ∈ bs_W0 := bs_in (in_tables_1_5 (List.mem_of_getElem? (i := 57) rfl)) rfl
set_option maxHeartbeats 4000000 in
set_option maxRecDepth 100000 in
theorem w_declare (l : Launch) (hst : l.stackTraces = false) (γ : gE) (A : Nat → Prop) (κ : Nat → Nat) (s0 : State) (hw0 : SW s0) (hnc : NCs s0) (hA0 : ∀ q, A q → s0.heap.size ≤ q) (H0 : Heap) (o : Nat) (ho : ¬ A o) (g : Nat → Int64) (x1 : Int32) (x2 : Int32) (x3 : Int32) (x4 : Int32) : WM l yLaw_declare bLaw_declare 7 hLaw_declare 8 200 50000 1000000 [.ref (γ.2.2.2 0), .int x1, .int x2, .int x3, .int x4, .ref o] γ (fun q => A q ∨ q = o) (PSw s0 H0 γ A κ o g) (mQi (fun r H => (∃ g' : Nat → Int64, OU γ o g' H) ∧ PB γ A κ H0 (fun κ' => κ' 3 = κ 3 ∧ κ' 0 = κ 0 ∧ κ' 1 = κ 1) H) (fun q => A q ∨ q = o)) := by
  refine wm_open (by decide) (Nat.le_of_ble_eq_true rfl) ?_
  intro p e s m args below meth c ls Q S htab hC hA hPS hE hl
  obtain ⟨hF0, hH0, hI, hO, hAn⟩ := hPS
  subst hH0
  obtain ⟨hx, hb, hml, hown, hW⟩ := id S
  have hS : va_S (fun q => A q ∨ q = o) s.heap s.heap [] := va_S.rf
  have hl : lv_has ls 7 [(0, .ref (γ.2.2.2 0)), (1, .int x1), (2, .int x2), (3, .int x3), (4, .int x4), (5, .ref o)] := hl
  refine lv_aload hx hb dLaw_declare_0 (lv_at hl 5 rfl) ?_
  refine lv_iconst (v := 0) hx hb dLaw_declare_2 (by decide) ?_
  refine lv_aload_n hx hb dLaw_declare_3 rfl (lv_at hl 0 rfl) ?_
  refine lv_iload_n hx hb dLaw_declare_4 rfl (lv_at hl 1 rfl) ?_
  refine lv_iload_n hx hb dLaw_declare_5 rfl (lv_at hl 2 rfl) ?_
  refine lv_iload_n hx hb dLaw_declare_6 rfl (lv_at hl 3 rfl) ?_
  refine lv_iload hx hb dLaw_declare_7 (lv_at hl 4 rfl) ?_
  refine tx_call (A := A) (A0 := (fun q => A q ∨ q = o)) (H0 := s.heap) (rest := [.int 0, .ref o]) S hC htab hAn (fun q h => Or.inl h) hS (x_declare l hst γ A κ s0 hw0 hA0 s.heap x1 x2 x3 x4) psx_bl meTypeBook_declare qw_5abb125a0b ⟨Nat.le_of_ble_eq_true rfl, Nat.le_of_ble_eq_true rfl⟩ (rv_0 hC hI) (fun U hU hWU => ⟨by rw [hU]; exact hF0.warm hWU, hU, by rw [hU]; exact hI⟩) rfl hl.1 rfl (Nat.le_of_ble_eq_true rfl) dLaw_declare_9 ⟨Nat.le_of_ble_eq_true rfl, Nat.le_of_ble_eq_true rfl⟩ (fun E H1 hx9 => hx9.2.2) (fun r H1 locs1 hPO hS hz hk => ?_) (fun E q H1 locs1 hXC hS => ?_)
  · have hO1 : OU γ o g H1 := hO.kept (hk o hO.lt ho)
    refine lv_i2l hx hb dLaw_declare_12 rfl ?_
    refine ou_st S hC hO1 (Or.inr rfl) hS dLaw_declare_13 (fun H2 locs2 hO2 hS hz2 hq2 => ?_)
    refine lv_goto (tgt := 29) hx hb dLaw_declare_14 (by decide) ?_
    refine lv_iconst (v := 0) hx hb dLaw_declare_29 (by decide) ?_
    exact hE _ _ _ _ _ _ _ hS (Nat.le_of_ble_eq_true rfl) (Nat.le_of_ble_eq_true rfl) ⟨⟨_, hO2⟩, pb_st hPO ho hO1 hO2 hz2 hq2⟩ dLaw_declare_30
  · obtain ⟨hE9, hPB, hfr⟩ := hXC
    have hO1 : OU γ o g H1 := hO.kept (hfr.2 o hO.lt ho)
    rcases List.mem_cons.mp hE9 with rfl | hE9
    · refine ⟨17, ⟨⟨by decide, by decide⟩, by decide, "java/lang/IndexOutOfBoundsException", hW _ qw_1956a2fa33, Or.inl ⟨va_Nw.warmC hF0.1 (hw0.1 _ (in_tables_1_3 (List.mem_of_getElem? (i := 25) rfl)) rfl), rfl⟩⟩, ?_⟩
      refine lv_astore (lv' := [(6, .ref q), (0, .ref (γ.2.2.2 0)), (1, .int x1), (2, .int x2), (3, .int x3), (4, .int x4), (5, .ref o)]) hx hb dLaw_declare_17 hl (by decide) rfl (fun ls hl => ?_)
      refine lv_iconst (v := 1) hx hb dLaw_declare_19 (by decide) ?_
      exact hE _ _ _ _ _ _ _ hS (Nat.le_of_ble_eq_true rfl) (Nat.le_of_ble_eq_true rfl) ⟨⟨_, hO1⟩, hPB⟩ dLaw_declare_20
    rcases List.mem_cons.mp hE9 with rfl | hE9
    · refine ⟨21, ⟨⟨by decide, by decide⟩, by decide, "java/lang/IndexOutOfBoundsException", hW _ qw_1956a2fa33, Or.inr ⟨va_Nc.moved hF0.1.alike hnc.2.2, ⟨⟨by decide, by decide⟩, by decide, "java/lang/IllegalArgumentException", hW _ qw_50864e5db4, Or.inl ⟨va_Nw.warmC hF0.1 (hw0.1 _ (in_tables_1_2 (List.mem_of_getElem? (i := 97) rfl)) rfl), rfl⟩⟩⟩⟩, ?_⟩
      refine lv_astore (lv' := [(6, .ref q), (0, .ref (γ.2.2.2 0)), (1, .int x1), (2, .int x2), (3, .int x3), (4, .int x4), (5, .ref o)]) hx hb dLaw_declare_21 hl (by decide) rfl (fun ls hl => ?_)
      refine lv_iconst (v := 2) hx hb dLaw_declare_23 (by decide) ?_
      exact hE _ _ _ _ _ _ _ hS (Nat.le_of_ble_eq_true rfl) (Nat.le_of_ble_eq_true rfl) ⟨⟨_, hO1⟩, hPB⟩ dLaw_declare_24
    rcases List.mem_cons.mp hE9 with rfl | hE9
    · refine ⟨25, ⟨⟨by decide, by decide⟩, by decide, "java/lang/IndexOutOfBoundsException", hW _ qw_1956a2fa33, Or.inr ⟨va_Nc.moved hF0.1.alike hnc.2.1, ⟨⟨by decide, by decide⟩, by decide, "java/lang/IllegalArgumentException", hW _ qw_50864e5db4, Or.inr ⟨va_Nc.moved hF0.1.alike hnc.1, ⟨⟨by decide, by decide⟩, by decide, "java/lang/IllegalStateException", hW _ qw_d3a77de564, Or.inl ⟨va_Nw.warmC hF0.1 (hw0.1 _ (in_tables_1_2 (List.mem_of_getElem? (i := 172) rfl)) rfl), rfl⟩⟩⟩⟩⟩⟩, ?_⟩
      refine lv_astore (lv' := [(6, .ref q), (0, .ref (γ.2.2.2 0)), (1, .int x1), (2, .int x2), (3, .int x3), (4, .int x4), (5, .ref o)]) hx hb dLaw_declare_25 hl (by decide) rfl (fun ls hl => ?_)
      refine lv_iconst (v := 3) hx hb dLaw_declare_27 (by decide) ?_
      exact hE _ _ _ _ _ _ _ hS (Nat.le_of_ble_eq_true rfl) (Nat.le_of_ble_eq_true rfl) ⟨⟨_, hO1⟩, hPB⟩ dLaw_declare_28
    exact absurd hE9 List.not_mem_nil
theorem qw_ebaba4f48b : (Cond.methodLink R_Law 41 yTypeBook_check) ∈ bs_W0 := bs_in (in_tables_1_5 (List.mem_of_getElem? (i := 99) rfl)) rfl
set_option maxHeartbeats 4000000 in
set_option maxRecDepth 100000 in
theorem w_check (l : Launch) (hst : l.stackTraces = false) (γ : gE) (A : Nat → Prop) (κ : Nat → Nat) (s0 : State) (hw0 : SW s0) (hnc : NCs s0) (hA0 : ∀ q, A q → s0.heap.size ≤ q) (H0 : Heap) (o : Nat) (ho : ¬ A o) (g : Nat → Int64) (x1 : Int32) (x2 : Int32) : WM l yLaw_check bLaw_check 5 hLaw_check 8 197 50000 1000000 [.ref (γ.2.2.2 0), .int x1, .int x2, .ref o] γ (fun q => A q ∨ q = o) (PSw s0 H0 γ A κ o g) (mQi (fun r H => (∃ g' : Nat → Int64, OU γ o g' H) ∧ PB γ A κ H0 (fun κ' => κ' 3 = κ 3 ∧ κ' 0 = κ 0 ∧ κ' 1 = κ 1) H) (fun q => A q ∨ q = o)) := by
  refine wm_open (by decide) (Nat.le_of_ble_eq_true rfl) ?_
  intro p e s m args below meth c ls Q S htab hC hA hPS hE hl
  obtain ⟨hF0, hH0, hI, hO, hAn⟩ := hPS
  subst hH0
  obtain ⟨hx, hb, hml, hown, hW⟩ := id S
  have hS : va_S (fun q => A q ∨ q = o) s.heap s.heap [] := va_S.rf
  have hl : lv_has ls 5 [(0, .ref (γ.2.2.2 0)), (1, .int x1), (2, .int x2), (3, .ref o)] := hl
  refine lv_aload_n hx hb dLaw_check_0 rfl (lv_at hl 3 rfl) ?_
  refine lv_iconst (v := 0) hx hb dLaw_check_1 (by decide) ?_
  refine lv_aload_n hx hb dLaw_check_2 rfl (lv_at hl 0 rfl) ?_
  refine lv_iload_n hx hb dLaw_check_3 rfl (lv_at hl 1 rfl) ?_
  refine lv_iload_n hx hb dLaw_check_4 rfl (lv_at hl 2 rfl) ?_
  refine tx_call (A := A) (A0 := (fun q => A q ∨ q = o)) (H0 := s.heap) (rest := [.int 0, .ref o]) S hC htab hAn (fun q h => Or.inl h) hS (x_check l hst γ A κ s0 hw0 hA0 s.heap x1 x2) psx_bl meTypeBook_check qw_ebaba4f48b ⟨Nat.le_of_ble_eq_true rfl, Nat.le_of_ble_eq_true rfl⟩ (rv_0 hC hI) (fun U hU hWU => ⟨by rw [hU]; exact hF0.warm hWU, hU, by rw [hU]; exact hI⟩) rfl hl.1 rfl (Nat.le_of_ble_eq_true rfl) dLaw_check_5 ⟨Nat.le_of_ble_eq_true rfl, Nat.le_of_ble_eq_true rfl⟩ (fun E H1 hx9 => hx9.2.2) (fun r H1 locs1 hPO hS hz hk => ?_) (fun E q H1 locs1 hXC hS => ?_)
  · have hO1 : OU γ o g H1 := hO.kept (hk o hO.lt ho)
    refine lv_i2l hx hb dLaw_check_8 rfl ?_
    refine ou_st S hC hO1 (Or.inr rfl) hS dLaw_check_9 (fun H2 locs2 hO2 hS hz2 hq2 => ?_)
    refine lv_goto (tgt := 17) hx hb dLaw_check_10 (by decide) ?_
    refine lv_iconst (v := 0) hx hb dLaw_check_17 (by decide) ?_
    exact hE _ _ _ _ _ _ _ hS (Nat.le_of_ble_eq_true rfl) (Nat.le_of_ble_eq_true rfl) ⟨⟨_, hO2⟩, pb_st hPO ho hO1 hO2 hz2 hq2⟩ dLaw_check_18
  · obtain ⟨hE9, hPB, hfr⟩ := hXC
    have hO1 : OU γ o g H1 := hO.kept (hfr.2 o hO.lt ho)
    rcases List.mem_cons.mp hE9 with rfl | hE9
    · refine ⟨13, ⟨⟨by decide, by decide⟩, by decide, "java/lang/IndexOutOfBoundsException", hW _ qw_1956a2fa33, Or.inl ⟨va_Nw.warmC hF0.1 (hw0.1 _ (in_tables_1_3 (List.mem_of_getElem? (i := 25) rfl)) rfl), rfl⟩⟩, ?_⟩
      refine lv_astore (lv' := [(4, .ref q), (0, .ref (γ.2.2.2 0)), (1, .int x1), (2, .int x2), (3, .ref o)]) hx hb dLaw_check_13 hl (by decide) rfl (fun ls hl => ?_)
      refine lv_iconst (v := 1) hx hb dLaw_check_15 (by decide) ?_
      exact hE _ _ _ _ _ _ _ hS (Nat.le_of_ble_eq_true rfl) (Nat.le_of_ble_eq_true rfl) ⟨⟨_, hO1⟩, hPB⟩ dLaw_check_16
    exact absurd hE9 List.not_mem_nil
theorem qw_c5b27407b8 : (Cond.methodLink R_Law 44 yTypeBook_typeOf) ∈ bs_W0 := bs_in (in_tables_1_5 (List.mem_of_getElem? (i := 107) rfl)) rfl
set_option maxHeartbeats 4000000 in
set_option maxRecDepth 100000 in
theorem w_typeOf (l : Launch) (hst : l.stackTraces = false) (γ : gE) (A : Nat → Prop) (κ : Nat → Nat) (s0 : State) (hw0 : SW s0) (hnc : NCs s0) (hA0 : ∀ q, A q → s0.heap.size ≤ q) (H0 : Heap) (o : Nat) (ho : ¬ A o) (g : Nat → Int64) (x1 : Int32) (x2 : Int32) : WM l yLaw_typeOf bLaw_typeOf 5 hLaw_typeOf 7 104 50000 1000000 [.ref (γ.2.2.2 0), .int x1, .int x2, .ref o] γ (fun q => A q ∨ q = o) (PSw s0 H0 γ A κ o g) (mQi (fun r H => (∃ g' : Nat → Int64, OU γ o g' H) ∧ PB γ A κ H0 (fun κ' => κ' 3 = κ 3 ∧ κ' 0 = κ 0 ∧ κ' 1 = κ 1) H) (fun q => A q ∨ q = o)) := by
  refine wm_open (by decide) (Nat.le_of_ble_eq_true rfl) ?_
  intro p e s m args below meth c ls Q S htab hC hA hPS hE hl
  obtain ⟨hF0, hH0, hI, hO, hAn⟩ := hPS
  subst hH0
  obtain ⟨hx, hb, hml, hown, hW⟩ := id S
  have hS : va_S (fun q => A q ∨ q = o) s.heap s.heap [] := va_S.rf
  have hl : lv_has ls 5 [(0, .ref (γ.2.2.2 0)), (1, .int x1), (2, .int x2), (3, .ref o)] := hl
  refine lv_aload_n hx hb dLaw_typeOf_0 rfl (lv_at hl 3 rfl) ?_
  refine lv_iconst (v := 0) hx hb dLaw_typeOf_1 (by decide) ?_
  refine lv_aload_n hx hb dLaw_typeOf_2 rfl (lv_at hl 0 rfl) ?_
  refine lv_iload_n hx hb dLaw_typeOf_3 rfl (lv_at hl 1 rfl) ?_
  refine lv_iload_n hx hb dLaw_typeOf_4 rfl (lv_at hl 2 rfl) ?_
  refine tx_call (A := A) (A0 := (fun q => A q ∨ q = o)) (H0 := s.heap) (rest := [.int 0, .ref o]) S hC htab hAn (fun q h => Or.inl h) hS (x_typeOf l hst γ A κ s0 hw0 hA0 s.heap x1 x2) psx_bl meTypeBook_typeOf qw_c5b27407b8 ⟨Nat.le_of_ble_eq_true rfl, Nat.le_of_ble_eq_true rfl⟩ (rv_0 hC hI) (fun U hU hWU => ⟨by rw [hU]; exact hF0.warm hWU, hU, by rw [hU]; exact hI⟩) rfl hl.1 rfl (Nat.le_of_ble_eq_true rfl) dLaw_typeOf_5 ⟨Nat.le_of_ble_eq_true rfl, Nat.le_of_ble_eq_true rfl⟩ (fun E H1 hx9 => hx9.2.2) (fun r H1 locs1 hPO hS hz hk => ?_) (fun E q H1 locs1 hXC hS => ?_)
  · have hO1 : OU γ o g H1 := hO.kept (hk o hO.lt ho)
    refine lv_i2l hx hb dLaw_typeOf_8 rfl ?_
    refine ou_st S hC hO1 (Or.inr rfl) hS dLaw_typeOf_9 (fun H2 locs2 hO2 hS hz2 hq2 => ?_)
    refine lv_goto (tgt := 17) hx hb dLaw_typeOf_10 (by decide) ?_
    refine lv_iconst (v := 0) hx hb dLaw_typeOf_17 (by decide) ?_
    exact hE _ _ _ _ _ _ _ hS (Nat.le_of_ble_eq_true rfl) (Nat.le_of_ble_eq_true rfl) ⟨⟨_, hO2⟩, pb_st hPO ho hO1 hO2 hz2 hq2⟩ dLaw_typeOf_18
  · obtain ⟨hE9, hPB, hfr⟩ := hXC
    have hO1 : OU γ o g H1 := hO.kept (hfr.2 o hO.lt ho)
    rcases List.mem_cons.mp hE9 with rfl | hE9
    · refine ⟨13, ⟨⟨by decide, by decide⟩, by decide, "java/lang/IndexOutOfBoundsException", hW _ qw_1956a2fa33, Or.inl ⟨va_Nw.warmC hF0.1 (hw0.1 _ (in_tables_1_3 (List.mem_of_getElem? (i := 25) rfl)) rfl), rfl⟩⟩, ?_⟩
      refine lv_astore (lv' := [(4, .ref q), (0, .ref (γ.2.2.2 0)), (1, .int x1), (2, .int x2), (3, .ref o)]) hx hb dLaw_typeOf_13 hl (by decide) rfl (fun ls hl => ?_)
      refine lv_iconst (v := 1) hx hb dLaw_typeOf_15 (by decide) ?_
      exact hE _ _ _ _ _ _ _ hS (Nat.le_of_ble_eq_true rfl) (Nat.le_of_ble_eq_true rfl) ⟨⟨_, hO1⟩, hPB⟩ dLaw_typeOf_16
    exact absurd hE9 List.not_mem_nil
theorem qw_143124cfbe : (Cond.methodLink R_Law 47 yTypeBook_about) ∈ bs_W0 := bs_in (in_tables_1_5 (List.mem_of_getElem? (i := 120) rfl)) rfl
set_option maxHeartbeats 4000000 in
set_option maxRecDepth 100000 in
theorem w_about (l : Launch) (hst : l.stackTraces = false) (γ : gE) (A : Nat → Prop) (κ : Nat → Nat) (s0 : State) (hw0 : SW s0) (hnc : NCs s0) (hA0 : ∀ q, A q → s0.heap.size ≤ q) (H0 : Heap) (o : Nat) (ho : ¬ A o) (g : Nat → Int64) (x1 : Int32) (x2 : Int32) : WM l yLaw_about bLaw_about 5 hLaw_about 7 104 50000 1000000 [.ref (γ.2.2.2 0), .int x1, .int x2, .ref o] γ (fun q => A q ∨ q = o) (PSw s0 H0 γ A κ o g) (mQi (fun r H => (∃ g' : Nat → Int64, OU γ o g' H) ∧ PB γ A κ H0 (fun κ' => κ' 3 = κ 3 ∧ κ' 0 = κ 0 ∧ κ' 1 = κ 1) H) (fun q => A q ∨ q = o)) := by
  refine wm_open (by decide) (Nat.le_of_ble_eq_true rfl) ?_
  intro p e s m args below meth c ls Q S htab hC hA hPS hE hl
  obtain ⟨hF0, hH0, hI, hO, hAn⟩ := hPS
  subst hH0
  obtain ⟨hx, hb, hml, hown, hW⟩ := id S
  have hS : va_S (fun q => A q ∨ q = o) s.heap s.heap [] := va_S.rf
  have hl : lv_has ls 5 [(0, .ref (γ.2.2.2 0)), (1, .int x1), (2, .int x2), (3, .ref o)] := hl
  refine lv_aload_n hx hb dLaw_about_0 rfl (lv_at hl 3 rfl) ?_
  refine lv_iconst (v := 0) hx hb dLaw_about_1 (by decide) ?_
  refine lv_aload_n hx hb dLaw_about_2 rfl (lv_at hl 0 rfl) ?_
  refine lv_iload_n hx hb dLaw_about_3 rfl (lv_at hl 1 rfl) ?_
  refine lv_iload_n hx hb dLaw_about_4 rfl (lv_at hl 2 rfl) ?_
  refine tx_call (A := A) (A0 := (fun q => A q ∨ q = o)) (H0 := s.heap) (rest := [.int 0, .ref o]) S hC htab hAn (fun q h => Or.inl h) hS (x_about l hst γ A κ s0 hw0 hA0 s.heap x1 x2) psx_bl meTypeBook_about qw_143124cfbe ⟨Nat.le_of_ble_eq_true rfl, Nat.le_of_ble_eq_true rfl⟩ (rv_0 hC hI) (fun U hU hWU => ⟨by rw [hU]; exact hF0.warm hWU, hU, by rw [hU]; exact hI⟩) rfl hl.1 rfl (Nat.le_of_ble_eq_true rfl) dLaw_about_5 ⟨Nat.le_of_ble_eq_true rfl, Nat.le_of_ble_eq_true rfl⟩ (fun E H1 hx9 => hx9.2.2) (fun r H1 locs1 hPO hS hz hk => ?_) (fun E q H1 locs1 hXC hS => ?_)
  · have hO1 : OU γ o g H1 := hO.kept (hk o hO.lt ho)
    refine lv_i2l hx hb dLaw_about_8 rfl ?_
    refine ou_st S hC hO1 (Or.inr rfl) hS dLaw_about_9 (fun H2 locs2 hO2 hS hz2 hq2 => ?_)
    refine lv_goto (tgt := 17) hx hb dLaw_about_10 (by decide) ?_
    refine lv_iconst (v := 0) hx hb dLaw_about_17 (by decide) ?_
    exact hE _ _ _ _ _ _ _ hS (Nat.le_of_ble_eq_true rfl) (Nat.le_of_ble_eq_true rfl) ⟨⟨_, hO2⟩, pb_st hPO ho hO1 hO2 hz2 hq2⟩ dLaw_about_18
  · obtain ⟨hE9, hPB, hfr⟩ := hXC
    have hO1 : OU γ o g H1 := hO.kept (hfr.2 o hO.lt ho)
    rcases List.mem_cons.mp hE9 with rfl | hE9
    · refine ⟨13, ⟨⟨by decide, by decide⟩, by decide, "java/lang/IndexOutOfBoundsException", hW _ qw_1956a2fa33, Or.inl ⟨va_Nw.warmC hF0.1 (hw0.1 _ (in_tables_1_3 (List.mem_of_getElem? (i := 25) rfl)) rfl), rfl⟩⟩, ?_⟩
      refine lv_astore (lv' := [(4, .ref q), (0, .ref (γ.2.2.2 0)), (1, .int x1), (2, .int x2), (3, .ref o)]) hx hb dLaw_about_13 hl (by decide) rfl (fun ls hl => ?_)
      refine lv_iconst (v := 1) hx hb dLaw_about_15 (by decide) ?_
      exact hE _ _ _ _ _ _ _ hS (Nat.le_of_ble_eq_true rfl) (Nat.le_of_ble_eq_true rfl) ⟨⟨_, hO1⟩, hPB⟩ dLaw_about_16
    exact absurd hE9 List.not_mem_nil
theorem qw_31b80ca6b2 : (Cond.methodLink R_Law 50 yTypeBook_value) ∈ bs_W0 := bs_in (in_tables_1_5 (List.mem_of_getElem? (i := 132) rfl)) rfl
set_option maxHeartbeats 4000000 in
set_option maxRecDepth 100000 in
theorem w_value (l : Launch) (hst : l.stackTraces = false) (γ : gE) (A : Nat → Prop) (κ : Nat → Nat) (s0 : State) (hw0 : SW s0) (hnc : NCs s0) (hA0 : ∀ q, A q → s0.heap.size ≤ q) (H0 : Heap) (o : Nat) (ho : ¬ A o) (g : Nat → Int64) (x1 : Int32) (x2 : Int32) : WM l yLaw_value bLaw_value 5 hLaw_value 7 104 50000 1000000 [.ref (γ.2.2.2 0), .int x1, .int x2, .ref o] γ (fun q => A q ∨ q = o) (PSw s0 H0 γ A κ o g) (mQi (fun r H => (∃ g' : Nat → Int64, OU γ o g' H) ∧ PB γ A κ H0 (fun κ' => κ' 3 = κ 3 ∧ κ' 0 = κ 0 ∧ κ' 1 = κ 1) H) (fun q => A q ∨ q = o)) := by
  refine wm_open (by decide) (Nat.le_of_ble_eq_true rfl) ?_
  intro p e s m args below meth c ls Q S htab hC hA hPS hE hl
  obtain ⟨hF0, hH0, hI, hO, hAn⟩ := hPS
  subst hH0
  obtain ⟨hx, hb, hml, hown, hW⟩ := id S
  have hS : va_S (fun q => A q ∨ q = o) s.heap s.heap [] := va_S.rf
  have hl : lv_has ls 5 [(0, .ref (γ.2.2.2 0)), (1, .int x1), (2, .int x2), (3, .ref o)] := hl
  refine lv_aload_n hx hb dLaw_value_0 rfl (lv_at hl 3 rfl) ?_
  refine lv_iconst (v := 0) hx hb dLaw_value_1 (by decide) ?_
  refine lv_aload_n hx hb dLaw_value_2 rfl (lv_at hl 0 rfl) ?_
  refine lv_iload_n hx hb dLaw_value_3 rfl (lv_at hl 1 rfl) ?_
  refine lv_iload_n hx hb dLaw_value_4 rfl (lv_at hl 2 rfl) ?_
  refine tx_call (A := A) (A0 := (fun q => A q ∨ q = o)) (H0 := s.heap) (rest := [.int 0, .ref o]) S hC htab hAn (fun q h => Or.inl h) hS (x_value l hst γ A κ s0 hw0 hA0 s.heap x1 x2) psx_bl meTypeBook_value qw_31b80ca6b2 ⟨Nat.le_of_ble_eq_true rfl, Nat.le_of_ble_eq_true rfl⟩ (rv_0 hC hI) (fun U hU hWU => ⟨by rw [hU]; exact hF0.warm hWU, hU, by rw [hU]; exact hI⟩) rfl hl.1 rfl (Nat.le_of_ble_eq_true rfl) dLaw_value_5 ⟨Nat.le_of_ble_eq_true rfl, Nat.le_of_ble_eq_true rfl⟩ (fun E H1 hx9 => hx9.2.2) (fun r H1 locs1 hPO hS hz hk => ?_) (fun E q H1 locs1 hXC hS => ?_)
  · have hO1 : OU γ o g H1 := hO.kept (hk o hO.lt ho)
    refine lv_i2l hx hb dLaw_value_8 rfl ?_
    refine ou_st S hC hO1 (Or.inr rfl) hS dLaw_value_9 (fun H2 locs2 hO2 hS hz2 hq2 => ?_)
    refine lv_goto (tgt := 21) hx hb dLaw_value_10 (by decide) ?_
    refine lv_iconst (v := 0) hx hb dLaw_value_21 (by decide) ?_
    exact hE _ _ _ _ _ _ _ hS (Nat.le_of_ble_eq_true rfl) (Nat.le_of_ble_eq_true rfl) ⟨⟨_, hO2⟩, pb_st hPO ho hO1 hO2 hz2 hq2⟩ dLaw_value_22
  · obtain ⟨hE9, hPB, hfr⟩ := hXC
    have hO1 : OU γ o g H1 := hO.kept (hfr.2 o hO.lt ho)
    rcases List.mem_cons.mp hE9 with rfl | hE9
    · refine ⟨13, ⟨⟨by decide, by decide⟩, by decide, "java/lang/IndexOutOfBoundsException", hW _ qw_1956a2fa33, Or.inl ⟨va_Nw.warmC hF0.1 (hw0.1 _ (in_tables_1_3 (List.mem_of_getElem? (i := 25) rfl)) rfl), rfl⟩⟩, ?_⟩
      refine lv_astore (lv' := [(4, .ref q), (0, .ref (γ.2.2.2 0)), (1, .int x1), (2, .int x2), (3, .ref o)]) hx hb dLaw_value_13 hl (by decide) rfl (fun ls hl => ?_)
      refine lv_iconst (v := 1) hx hb dLaw_value_15 (by decide) ?_
      exact hE _ _ _ _ _ _ _ hS (Nat.le_of_ble_eq_true rfl) (Nat.le_of_ble_eq_true rfl) ⟨⟨_, hO1⟩, hPB⟩ dLaw_value_16
    rcases List.mem_cons.mp hE9 with rfl | hE9
    · refine ⟨17, ⟨⟨by decide, by decide⟩, by decide, "java/lang/IndexOutOfBoundsException", hW _ qw_1956a2fa33, Or.inr ⟨va_Nc.moved hF0.1.alike hnc.2.1, ⟨⟨by decide, by decide⟩, by decide, "java/lang/IllegalStateException", hW _ qw_d3a77de564, Or.inl ⟨va_Nw.warmC hF0.1 (hw0.1 _ (in_tables_1_2 (List.mem_of_getElem? (i := 172) rfl)) rfl), rfl⟩⟩⟩⟩, ?_⟩
      refine lv_astore (lv' := [(4, .ref q), (0, .ref (γ.2.2.2 0)), (1, .int x1), (2, .int x2), (3, .ref o)]) hx hb dLaw_value_17 hl (by decide) rfl (fun ls hl => ?_)
      refine lv_iconst (v := 2) hx hb dLaw_value_19 (by decide) ?_
      exact hE _ _ _ _ _ _ _ hS (Nat.le_of_ble_eq_true rfl) (Nat.le_of_ble_eq_true rfl) ⟨⟨_, hO1⟩, hPB⟩ dLaw_value_20
    exact absurd hE9 List.not_mem_nil
theorem qw_98df340de2 : (Cond.instantiable R_TypeBook 7) ∈ bs_W0 := bs_in (in_tables_1_1 (List.mem_of_getElem? (i := 25) rfl)) rfl
theorem qw_68bc186834 : (Cond.instantiable R_Model 35) ∈ bs_W0 := bs_in (in_tables_1_5 (List.mem_of_getElem? (i := 141) rfl)) rfl
-- the reference's cells lie in one stretch
theorem ws_in {γ : gE} {a : Nat} {V : Nat → Int32} {A : Nat → Nat → Int32} {nu : Nat → Int64} {i : Nat} {q : Nat × va_E} (h : (wsM γ a (B0 a) V A nu)[i]? = some q) : a ≤ q.1 ∧ q.1 < a + 25 := by
  cases i with
  | zero =>
    cases h
    exact ⟨Nat.le_refl _, by show a < a + 25; omega⟩
  | succ i =>
    have h1 : (mdIx.map (mcell γ (B0 a) A nu))[i]? = some q := h
    rw [List.getElem?_map] at h1
    cases hk : mdIx[i]? with
    | none => rw [hk] at h1; cases h1
    | some k =>
      rw [hk] at h1
      cases h1
      have h2 : mdIx.idxOf k < 24 := List.idxOf_lt_length_of_mem (List.mem_of_getElem? hk)
      show a ≤ B0 a k ∧ B0 a k < a + 25
      unfold B0
      omega
theorem mi_Z {γ : gE} {a : Nat} {Z Z' : Nat → Prop} {κ : Nat → Nat} {cd : Int32} {H : Heap} (h : MI γ a (B0 a) Z κ cd H) (hZ : ∀ q, a ≤ q → q < a + 25 → Z' q) : MI γ a (B0 a) Z' κ cd H := by
  obtain ⟨b, mn, ν, τ, σ, F, nu, h1, h2, h3, h4, h5, h6, h7⟩ := h
  exact ⟨b, mn, ν, τ, σ, F, nu, h1, h2, h3, h4, h5, h6, h7.1, fun k q hq => hZ _ (ws_in hq).1 (ws_in hq).2⟩
theorem mi_kept {γ : gE} {a : Nat} {Z : Nat → Prop} {κ : Nat → Nat} {cd : Int32} {H H1 : Heap} (h : MI γ a (B0 a) Z κ cd H) (hk : ∀ q, a ≤ q → q < a + 25 → H1[q]? = H[q]?) : MI γ a (B0 a) Z κ cd H1 := by
  obtain ⟨b, mn, ν, τ, σ, F, nu, h1, h2, h3, h4, h5, h6, h7⟩ := h
  exact ⟨b, mn, ν, τ, σ, F, nu, h1, h2, h3, h4, h5, va_P.kept h6 (fun i q hq => hk _ (ws_in hq).1 (ws_in hq).2), h7⟩
-- what the tables give at the law's entry
theorem law_W {s : State} {args : Array Value} (hts : ∀ w ∈ lw_tbl, w.before args s = true) : ∀ w ∈ bs_W0, w.before args s = true := fun w h => hts w (List.mem_filter.mp h).1
theorem law_arr {s : State} {args : Array Value} {ty : FieldType} (hty : ∀ C, ty ≠ .object C) (h : (Cond.arrayClass ty).before args s = true) : ∃ cA : ClassId, ArrOfT s cA ty ∧ va_RA s cA ty := by
  obtain ⟨cA, kA, comp, h1, h2, h3⟩ := Cond.arrayClass_spec h
  refine ⟨cA, fun n z => ⟨fun k h => (by cases h), kA, h2, comp, h3⟩, ?_⟩
  cases ty with
  | object C => exact absurd rfl (hty C)
  | _ => exact h1
set_option maxHeartbeats 4000000 in
theorem law_cx {s : State} {args : Array Value} (hts : ∀ w ∈ lw_tbl, w.before args s = true) : ∃ γ : gE, CX γ s := by
  have hW := law_W hts
  obtain ⟨c0, i0, k0⟩ := u_known (ws := bs_W0) (C := R_TypeBook) (T := T_TypeBook) (N := 7) (n := 7) hW in_TypeBook (hW _ qw_98df340de2)
  obtain ⟨c1, i1, k1⟩ := u_known (ws := bs_W0) (C := R_Trees) (T := T_Trees) (N := 6) (n := 6) hW in_Trees (hW _ qw_728b969c31)
  obtain ⟨c2, i2, k2⟩ := u_known (ws := bs_W0) (C := R_Names) (T := T_Names) (N := 9) (n := 9) hW in_Names (hW _ qw_0fe9ef37a0)
  obtain ⟨c3, i3, k3⟩ := u_known (ws := bs_W0) (C := R_Types) (T := T_Types) (N := 5) (n := 5) hW in_Types (hW _ qw_3790227522)
  obtain ⟨c4, i4, k4⟩ := u_known (ws := bs_W0) (C := R_Objects) (T := T_Objects) (N := 5) (n := 5) hW in_Objects (hW _ qw_faf701598a)
  obtain ⟨c5, i5, k5⟩ := u_known (ws := bs_W0) (C := R_Rows) (T := T_Rows) (N := 1) (n := 1) hW in_Rows (hW _ qw_65d8f04d58)
  obtain ⟨c6, i6, k6⟩ := u_known (ws := bs_W0) (C := R_Looks) (T := T_Looks) (N := 6) (n := 6) hW in_Looks (hW _ qw_a3e5b3d658)
  obtain ⟨c7, i7, k7⟩ := u_known (ws := bs_W0) (C := R_Looker) (T := T_Looker) (N := 8) (n := 8) hW in_Looker (hW _ qw_8c7395766b)
  obtain ⟨c8, i8, k8⟩ := u_known (ws := bs_W0) (C := R_Operators) (T := T_Operators) (N := 1) (n := 1) hW in_Operators (hW _ qw_cfbc759d95)
  obtain ⟨c9, i9, k9⟩ := u_known (ws := bs_W0) (C := R_Meanings) (T := T_Meanings) (N := 5) (n := 5) hW in_Meanings (hW _ qw_61012f5007)
  obtain ⟨c10, i10, k10⟩ := u_known (ws := bs_W0) (C := R_Model) (T := T_Model) (N := 35) (n := 35) hW in_Model (hW _ qw_68bc186834)
  obtain ⟨a_int, h_int⟩ := law_arr (ty := .int) (fun C h => by cases h) (hW _ qw_8e969fb20a)
  obtain ⟨a_long, h_long⟩ := law_arr (ty := .long) (fun C h => by cases h) (hW _ qw_6933bd775d)
  obtain ⟨a_byte, h_byte⟩ := law_arr (ty := .byte) (fun C h => by cases h) (hW _ qw_542fcd69e5)
  obtain ⟨a_boolean, h_boolean⟩ := law_arr (ty := .boolean) (fun C h => by cases h) (hW _ qw_14bcb724a4)
  refine ⟨(((fun k => match k with | 0 => c0 | 1 => c1 | 2 => c2 | 3 => c3 | 4 => c4 | 5 => c5 | 6 => c6 | 7 => c7 | 8 => c8 | 9 => c9 | _ => c10), (fun k => match k with | 0 => i0 | 1 => i1 | 2 => i2 | 3 => i3 | 4 => i4 | 5 => i5 | 6 => i6 | 7 => i7 | 8 => i8 | 9 => i9 | _ => i10)), a_int, a_long, fun k => if k = 20 then a_byte else a_boolean), ⟨?_, ?_⟩, ?_⟩
  · intro k q hq
    match k, hq with
    | 0, hq => cases hq; exact k0
    | 1, hq => cases hq; exact k1
    | 2, hq => cases hq; exact k2
    | 3, hq => cases hq; exact k3
    | 4, hq => cases hq; exact k4
    | 5, hq => cases hq; exact k5
    | 6, hq => cases hq; exact k6
    | 7, hq => cases hq; exact k7
    | 8, hq => cases hq; exact k8
    | 9, hq => cases hq; exact k9
    | 10, hq => cases hq; exact k10
    | k + 11, hq => cases hq
  · intro k q hq
    match k, hq with
    | 0, hq => cases hq; exact h_int
    | 1, hq => cases hq; exact h_long
    | 2, hq => cases hq; exact h_byte
    | 3, hq => cases hq; exact h_boolean
    | k + 4, hq => cases hq
  · intro w hw hn
    have h := hts w hw
    unfold cx_isN at hn
    split at hn
    · exact va_Nw.of rfl h
    · exact va_Nw.of rfl h
    · cases hn
theorem law_tab {args : Array Value} {s : State} {C nm : String} {f : Nat → Int32} (hl : (Cond.laysStatic C nm "[I").before args s = true) (hini : (Cond.initialized C).before args s = true) (harr : (Cond.arrayOf (.static C nm "[I") .int).before args s = true) (hlen : (Cond.eq (.length (.static C nm "[I")) (.int 12)).before args s = true) (hel : ∀ j : Nat, j < 12 → (Cond.eq (.elem (.static C nm "[I") (.int (Int32.ofNat j))) (.int (f j))).before args s = true) :
    ∃ (t : Nat) (f : Nat → Value), va_Z C nm "[I" (.ref t) (fun q => s.heap.size ≤ q) s s.heap ∧ va_T .int t 12 f (fun q => s.heap.size ≤ q) s s.heap ∧ ∀ j, ∃ x : Int32, f j = .int x := by
  obtain ⟨t, ht, hT⟩ := va_Tof (N := 12) (f := fun j => .int (f j)) (A := fun q => s.heap.size ≤ q) (by omega) harr (va_eqt hlen) (fun j hj => va_eqt (hel j hj)) (fun a h => Nat.not_le.mpr h)
  exact ⟨t, _, va_Zof hl hini ht (fun a h => Nat.not_le.mpr h), hT, fun j => ⟨_, rfl⟩⟩
set_option maxHeartbeats 4000000 in
set_option maxRecDepth 100000 in
theorem law_sw {s : State} {b : Nat} (hts : ∀ w ∈ lw_tbl, w.before #[Value.ref b] s = true) (hgv : (Jvm.Cond.and given_1 narrow_1).before #[Value.ref b] s = true) : SW s ∧ NCs s := by
  have hs := flat_of_before _ hgv
  refine ⟨⟨fun w hw hk => ?_, ?_, ?_, fun own k tx h => ?_, ?_, ?_⟩, ?_⟩
  · have h := hts w hw
    unfold sw_k at hk
    split at hk
    · exact h
    · exact h
    · exact h
    · cases hk
  · exact va_Zqof (hts _ (in_tables_1_2 (List.mem_of_getElem? (i := 122) rfl))) (hts _ (in_tables_1_1 (List.mem_of_getElem? (i := 15) rfl))) (hs (Cond.isRef (.static "java/lang/Throwable" "UNASSIGNED_STACK" "[Ljava/lang/StackTraceElement;")) (by decide +kernel)) (fun a h => Nat.not_le.mpr h)
  · exact va_Zqof (hts _ (in_tables_1_2 (List.mem_of_getElem? (i := 124) rfl))) (hts _ (in_tables_1_1 (List.mem_of_getElem? (i := 15) rfl))) (hs (Cond.isRef (.static "java/lang/Throwable" "SUPPRESSED_SENTINEL" "Ljava/util/List;")) (by decide +kernel)) (fun a h => Nat.not_le.mpr h)
  · have h1 := hts _ h
    cases hc : s.vm.findClass own with
    | none => simp [Cond.before, Cond.holds, Cond.value, hc] at h1
    | some cur =>
      obtain ⟨_, _, _, a, _, _, _, _, _, he⟩ := Cond.stringRef_spec hc h1
      exact ⟨a, vk_R.of h1 he⟩
  · refine law_tab (f := fun j => ([1, 1, 1, 1, 1, 6, 4, 4, 5, 5, 5, 5] : List Int32).getD j 0) (hts _ (in_tables_1_1 (List.mem_of_getElem? (i := 70) rfl))) (hts _ (in_tables_1_1 (List.mem_of_getElem? (i := 3) rfl))) (hs (Cond.arrayOf (.static "TypeBook$Names" "FIRST_SORTS" "[I") .int) (by decide +kernel)) (hs (Cond.eq (.length (.static "TypeBook$Names" "FIRST_SORTS" "[I")) (.int 12)) (by decide +kernel)) (fun j hj => ?_)
    rcases (show j = 0 ∨ j = 1 ∨ j = 2 ∨ j = 3 ∨ j = 4 ∨ j = 5 ∨ j = 6 ∨ j = 7 ∨ j = 8 ∨ j = 9 ∨ j = 10 ∨ j = 11 by omega) with h | h | h | h | h | h | h | h | h | h | h | h <;> subst h
    · exact hs (Cond.eq (.elem (.static "TypeBook$Names" "FIRST_SORTS" "[I") (.int 0)) (.int 1)) (by decide +kernel)
    · exact hs (Cond.eq (.elem (.static "TypeBook$Names" "FIRST_SORTS" "[I") (.int 1)) (.int 1)) (by decide +kernel)
    · exact hs (Cond.eq (.elem (.static "TypeBook$Names" "FIRST_SORTS" "[I") (.int 2)) (.int 1)) (by decide +kernel)
    · exact hs (Cond.eq (.elem (.static "TypeBook$Names" "FIRST_SORTS" "[I") (.int 3)) (.int 1)) (by decide +kernel)
    · exact hs (Cond.eq (.elem (.static "TypeBook$Names" "FIRST_SORTS" "[I") (.int 4)) (.int 1)) (by decide +kernel)
    · exact hs (Cond.eq (.elem (.static "TypeBook$Names" "FIRST_SORTS" "[I") (.int 5)) (.int 6)) (by decide +kernel)
    · exact hs (Cond.eq (.elem (.static "TypeBook$Names" "FIRST_SORTS" "[I") (.int 6)) (.int 4)) (by decide +kernel)
    · exact hs (Cond.eq (.elem (.static "TypeBook$Names" "FIRST_SORTS" "[I") (.int 7)) (.int 4)) (by decide +kernel)
    · exact hs (Cond.eq (.elem (.static "TypeBook$Names" "FIRST_SORTS" "[I") (.int 8)) (.int 5)) (by decide +kernel)
    · exact hs (Cond.eq (.elem (.static "TypeBook$Names" "FIRST_SORTS" "[I") (.int 9)) (.int 5)) (by decide +kernel)
    · exact hs (Cond.eq (.elem (.static "TypeBook$Names" "FIRST_SORTS" "[I") (.int 10)) (.int 5)) (by decide +kernel)
    · exact hs (Cond.eq (.elem (.static "TypeBook$Names" "FIRST_SORTS" "[I") (.int 11)) (.int 5)) (by decide +kernel)
  · refine law_tab (f := fun j => ([2, 3, 4, 1, 0, 0, 1, 0, 8, 9, 10, 11] : List Int32).getD j 0) (hts _ (in_tables_1_1 (List.mem_of_getElem? (i := 72) rfl))) (hts _ (in_tables_1_1 (List.mem_of_getElem? (i := 3) rfl))) (hs (Cond.arrayOf (.static "TypeBook$Names" "FIRST_NUMBERS" "[I") .int) (by decide +kernel)) (hs (Cond.eq (.length (.static "TypeBook$Names" "FIRST_NUMBERS" "[I")) (.int 12)) (by decide +kernel)) (fun j hj => ?_)
    rcases (show j = 0 ∨ j = 1 ∨ j = 2 ∨ j = 3 ∨ j = 4 ∨ j = 5 ∨ j = 6 ∨ j = 7 ∨ j = 8 ∨ j = 9 ∨ j = 10 ∨ j = 11 by omega) with h | h | h | h | h | h | h | h | h | h | h | h <;> subst h
    · exact hs (Cond.eq (.elem (.static "TypeBook$Names" "FIRST_NUMBERS" "[I") (.int 0)) (.int 2)) (by decide +kernel)
    · exact hs (Cond.eq (.elem (.static "TypeBook$Names" "FIRST_NUMBERS" "[I") (.int 1)) (.int 3)) (by decide +kernel)
    · exact hs (Cond.eq (.elem (.static "TypeBook$Names" "FIRST_NUMBERS" "[I") (.int 2)) (.int 4)) (by decide +kernel)
    · exact hs (Cond.eq (.elem (.static "TypeBook$Names" "FIRST_NUMBERS" "[I") (.int 3)) (.int 1)) (by decide +kernel)
    · exact hs (Cond.eq (.elem (.static "TypeBook$Names" "FIRST_NUMBERS" "[I") (.int 4)) (.int 0)) (by decide +kernel)
    · exact hs (Cond.eq (.elem (.static "TypeBook$Names" "FIRST_NUMBERS" "[I") (.int 5)) (.int 0)) (by decide +kernel)
    · exact hs (Cond.eq (.elem (.static "TypeBook$Names" "FIRST_NUMBERS" "[I") (.int 6)) (.int 1)) (by decide +kernel)
    · exact hs (Cond.eq (.elem (.static "TypeBook$Names" "FIRST_NUMBERS" "[I") (.int 7)) (.int 0)) (by decide +kernel)
    · exact hs (Cond.eq (.elem (.static "TypeBook$Names" "FIRST_NUMBERS" "[I") (.int 8)) (.int 8)) (by decide +kernel)
    · exact hs (Cond.eq (.elem (.static "TypeBook$Names" "FIRST_NUMBERS" "[I") (.int 9)) (.int 9)) (by decide +kernel)
    · exact hs (Cond.eq (.elem (.static "TypeBook$Names" "FIRST_NUMBERS" "[I") (.int 10)) (.int 10)) (by decide +kernel)
    · exact hs (Cond.eq (.elem (.static "TypeBook$Names" "FIRST_NUMBERS" "[I") (.int 11)) (.int 11)) (by decide +kernel)
  · exact ⟨va_Nc.of (hs (Cond.not (.castable "java/lang/IllegalStateException" "java/lang/IllegalArgumentException")) (by decide +kernel)), va_Nc.of (hs (Cond.not (.castable "java/lang/IllegalStateException" "java/lang/IndexOutOfBoundsException")) (by decide +kernel)), va_Nc.of (hs (Cond.not (.castable "java/lang/IllegalArgumentException" "java/lang/IndexOutOfBoundsException")) (by decide +kernel))⟩
-- THE LAW's loop: what is counted
def CC (κ : Nat → Nat) (q : Nat) : Nat := 100 + Ph κ + q
def SS (κ : Nat → Nat) (q : Nat) : Nat := 745000 + 2 * Ph κ + 6 * q
theorem ph_le {γ : gE} {A : Nat → Prop} {κ : Nat → Nat} {H : Heap} (hI : INV γ A κ H) : Ph κ ≤ 319488 := by
  obtain ⟨⟨h1, h2, h3, h4, h5, h6, h7, h8, h9, h0⟩, -⟩ := inv_len hI
  unfold Ph
  omega
theorem cc_room {κ : Nat → Nat} {q : Nat} (h : Ph κ ≤ 319488) (hq : q ≤ 2600) : CC κ q + 50000 ≤ room_1.cells ∧ SS κ q + 1000000 ≤ room_1.slots := by
  show 100 + Ph κ + q + 50000 ≤ 601024 ∧ 745000 + 2 * Ph κ + 6 * q + 1000000 ≤ 7293034
  omega
theorem cc_room1 {κ : Nat → Nat} {q : Nat} (h : Ph κ ≤ 319488) (hq : q ≤ 2600) : CC κ q + 1 + 0 ≤ room_1.cells ∧ SS κ q + 6 + 0 ≤ room_1.slots := by
  show 100 + Ph κ + q + 1 + 0 ≤ 601024 ∧ 745000 + 2 * Ph κ + 6 * q + 6 + 0 ≤ 7293034
  omega
theorem cc_step {κ κ1 : Nat → Nat} {q : Nat} (h : Ph κ ≤ Ph κ1) : CC κ q + (Ph κ1 - Ph κ + 1) ≤ CC κ1 q + 1 ∧ SS κ q + (2 * (Ph κ1 - Ph κ) + 6) ≤ SS κ1 q + 6 := by
  show 100 + Ph κ + q + (Ph κ1 - Ph κ + 1) ≤ 100 + Ph κ1 + q + 1 ∧ 745000 + 2 * Ph κ + 6 * q + (2 * (Ph κ1 - Ph κ) + 6) ≤ 745000 + 2 * Ph κ1 + 6 * q + 6
  omega
theorem cc_5 {κ : Nat → Nat} {q : Nat} : CC κ q + 1 ≤ CC κ (q + 5) ∧ SS κ q + 6 ≤ SS κ (q + 5) := by
  show 100 + Ph κ + q + 1 ≤ 100 + Ph κ + (q + 5) ∧ 745000 + 2 * Ph κ + 6 * q + 6 ≤ 745000 + 2 * Ph κ + 6 * (q + 5)
  omega
theorem cc_end {κ : Nat → Nat} {q : Nat} (h : Ph κ ≤ 319488) (hq : q ≤ 2600) : CC κ q ≤ 601024 ∧ SS κ q ≤ 7293034 := by
  show 100 + Ph κ + q ≤ 601024 ∧ 745000 + 2 * Ph κ + 6 * q ≤ 7293034
  omega
theorem ph_clear {κ : Nat → Nat} : Ph (ku (ku κ 0 0) 1 0) = Ph κ := rfl
theorem lw_len {q L : Nat} {x4 : Int32} (hL : L ≤ 2560) (hq : q ≤ 2600) (ex : x4 = nI q) (h : ¬ Int32.ofNat L - 5 < x4) : q + 5 ≤ L := by
  have h1 : (nI L).toInt = (L : Int) := nI_toInt (by omega)
  have h2 : (nI q).toInt = (q : Int) := nI_toInt (by omega)
  rw [ex, Int32.lt_iff_toInt_lt] at h
  have h3 : (nI L - 5).toInt = (L : Int) - 5 := by
    rw [Int32.toInt_sub, h1, show (5 : Int32).toInt = 5 by decide]
    exact Int.bmod_eq_of_le (by omega) (by omega)
  have h4 : ¬ (nI L - 5).toInt < (nI q).toInt := h
  omega
theorem lw_in {q L : Nat} {x4 : Int32} (hL : L ≤ 2560) (hq : q + 5 ≤ L) (ex : x4 = nI q) (j : Nat) (hj : j < 5) {y : Int32} (hy : y = nI j) : vp_in (x4 + y) L := by
  rw [ex, hy, nI_add]
  exact vp_in_nI (by omega) (by omega)
theorem lw_in0 {q L : Nat} {x4 : Int32} (hL : L ≤ 2560) (hq : q + 5 ≤ L) (ex : x4 = nI q) : vp_in x4 L := by
  rw [ex]
  exact vp_in_nI (by omega) (by omega)
/-- what stays for the whole of the loop -/
def LC (l : Launch) (p : Program) (s : State) (m : MethodId) (c : Code) (b L : Nat) (xs : Nat → Int32) (γ : gE) (A : Nat → Prop) (m0 : Nat) : Prop := (l.stackTraces = false) ∧ (bs_F p s m #[Value.ref b] c code 7 R_law) ∧ (CX γ s) ∧ (SW s) ∧ (NCs s) ∧ (∀ q, A q → s.heap.size ≤ q) ∧ (∀ q, A q → ¬ (m0 ≤ q ∧ q < m0 + 25)) ∧ (¬ A (m0 + 25)) ∧ (∀ q, m0 + 26 ≤ q → A q) ∧ (s.heap.size ≤ m0) ∧ (va_X b L xs s s.heap) ∧ (b < s.heap.size) ∧ (L ≤ 2560)
theorem LC.hst {l : Launch} {p : Program} {s : State} {m : MethodId} {c : Code} {b L : Nat} {xs : Nat → Int32} {γ : gE} {A : Nat → Prop} {m0 : Nat} (h : LC l p s m c b L xs γ A m0) : l.stackTraces = false := h.1
theorem LC.S {l : Launch} {p : Program} {s : State} {m : MethodId} {c : Code} {b L : Nat} {xs : Nat → Int32} {γ : gE} {A : Nat → Prop} {m0 : Nat} (h : LC l p s m c b L xs γ A m0) : bs_F p s m #[Value.ref b] c code 7 R_law := h.2.1
theorem LC.hC {l : Launch} {p : Program} {s : State} {m : MethodId} {c : Code} {b L : Nat} {xs : Nat → Int32} {γ : gE} {A : Nat → Prop} {m0 : Nat} (h : LC l p s m c b L xs γ A m0) : CX γ s := h.2.2.1
theorem LC.hw0 {l : Launch} {p : Program} {s : State} {m : MethodId} {c : Code} {b L : Nat} {xs : Nat → Int32} {γ : gE} {A : Nat → Prop} {m0 : Nat} (h : LC l p s m c b L xs γ A m0) : SW s := h.2.2.2.1
theorem LC.hnc {l : Launch} {p : Program} {s : State} {m : MethodId} {c : Code} {b L : Nat} {xs : Nat → Int32} {γ : gE} {A : Nat → Prop} {m0 : Nat} (h : LC l p s m c b L xs γ A m0) : NCs s := h.2.2.2.2.1
theorem LC.hA0 {l : Launch} {p : Program} {s : State} {m : MethodId} {c : Code} {b L : Nat} {xs : Nat → Int32} {γ : gE} {A : Nat → Prop} {m0 : Nat} (h : LC l p s m c b L xs γ A m0) : ∀ q, A q → s.heap.size ≤ q := h.2.2.2.2.2.1
theorem LC.hAm {l : Launch} {p : Program} {s : State} {m : MethodId} {c : Code} {b L : Nat} {xs : Nat → Int32} {γ : gE} {A : Nat → Prop} {m0 : Nat} (h : LC l p s m c b L xs γ A m0) : ∀ q, A q → ¬ (m0 ≤ q ∧ q < m0 + 25) := h.2.2.2.2.2.2.1
theorem LC.hAo {l : Launch} {p : Program} {s : State} {m : MethodId} {c : Code} {b L : Nat} {xs : Nat → Int32} {γ : gE} {A : Nat → Prop} {m0 : Nat} (h : LC l p s m c b L xs γ A m0) : ¬ A (m0 + 25) := h.2.2.2.2.2.2.2.1
theorem LC.hAn {l : Launch} {p : Program} {s : State} {m : MethodId} {c : Code} {b L : Nat} {xs : Nat → Int32} {γ : gE} {A : Nat → Prop} {m0 : Nat} (h : LC l p s m c b L xs γ A m0) : ∀ q, m0 + 26 ≤ q → A q := h.2.2.2.2.2.2.2.2.1
theorem LC.hm0 {l : Launch} {p : Program} {s : State} {m : MethodId} {c : Code} {b L : Nat} {xs : Nat → Int32} {γ : gE} {A : Nat → Prop} {m0 : Nat} (h : LC l p s m c b L xs γ A m0) : s.heap.size ≤ m0 := h.2.2.2.2.2.2.2.2.2.1
theorem LC.hX {l : Launch} {p : Program} {s : State} {m : MethodId} {c : Code} {b L : Nat} {xs : Nat → Int32} {γ : gE} {A : Nat → Prop} {m0 : Nat} (h : LC l p s m c b L xs γ A m0) : va_X b L xs s s.heap := h.2.2.2.2.2.2.2.2.2.2.1
theorem LC.hbl {l : Launch} {p : Program} {s : State} {m : MethodId} {c : Code} {b L : Nat} {xs : Nat → Int32} {γ : gE} {A : Nat → Prop} {m0 : Nat} (h : LC l p s m c b L xs γ A m0) : b < s.heap.size := h.2.2.2.2.2.2.2.2.2.2.2.1
theorem LC.hL {l : Launch} {p : Program} {s : State} {m : MethodId} {c : Code} {b L : Nat} {xs : Nat → Int32} {γ : gE} {A : Nat → Prop} {m0 : Nat} (h : LC l p s m c b L xs γ A m0) : L ≤ 2560 := h.2.2.2.2.2.2.2.2.2.2.2.2
/-- what stands between two calls -/
def LI (s : State) (γ : gE) (A : Nat → Prop) (m0 : Nat) (κ κm : Nat → Nat) (cd : Int32) (g : Nat → Int64) (H : Heap) (locs : List Loc) : Prop := (INV γ A κ H) ∧ (MI γ m0 (B0 m0) (iv m0 (m0 + 25)) κm cd H) ∧ (OU γ (m0 + 25) g H) ∧ (m0 + 26 ≤ H.size) ∧ (va_S (fun q => s.heap.size ≤ q) s.heap H locs)
theorem LI.hI {s : State} {γ : gE} {A : Nat → Prop} {m0 : Nat} {κ κm : Nat → Nat} {cd : Int32} {g : Nat → Int64} {H : Heap} {locs : List Loc} (h : LI s γ A m0 κ κm cd g H locs) : INV γ A κ H := h.1
theorem LI.hM {s : State} {γ : gE} {A : Nat → Prop} {m0 : Nat} {κ κm : Nat → Nat} {cd : Int32} {g : Nat → Int64} {H : Heap} {locs : List Loc} (h : LI s γ A m0 κ κm cd g H locs) : MI γ m0 (B0 m0) (iv m0 (m0 + 25)) κm cd H := h.2.1
theorem LI.hO {s : State} {γ : gE} {A : Nat → Prop} {m0 : Nat} {κ κm : Nat → Nat} {cd : Int32} {g : Nat → Int64} {H : Heap} {locs : List Loc} (h : LI s γ A m0 κ κm cd g H locs) : OU γ (m0 + 25) g H := h.2.2.1
theorem LI.hz {s : State} {γ : gE} {A : Nat → Prop} {m0 : Nat} {κ κm : Nat → Nat} {cd : Int32} {g : Nat → Int64} {H : Heap} {locs : List Loc} (h : LI s γ A m0 κ κm cd g H locs) : m0 + 26 ≤ H.size := h.2.2.2.1
theorem LI.hS {s : State} {γ : gE} {A : Nat → Prop} {m0 : Nat} {κ κm : Nat → Nat} {cd : Int32} {g : Nat → Int64} {H : Heap} {locs : List Loc} (h : LI s γ A m0 κ κm cd g H locs) : va_S (fun q => s.heap.size ≤ q) s.heap H locs := h.2.2.2.2
-- what both say
abbrev EQ3 (κ κm : Nat → Nat) : Prop := κ 3 = κm 5 ∧ κ 0 = κm 0 ∧ κ 1 = κm 1
def ENR (κ κ1 : Nat → Nat) (r : Int32) (g0 : Int64) : Prop := (r = 0 ∧ κ 3 < 32 ∧ g0 = (nI (κ 3 + 1)).toInt64 ∧ (κ1 3 = κ 3 + 1 ∧ κ1 0 = κ 0 ∧ κ1 1 = κ 1)) ∨ (r = 1 ∧ κ 3 = 32 ∧ (κ1 3 = κ 3 ∧ κ1 0 = κ 0 ∧ κ1 1 = κ 1))
def ENM (κm κ2 : Nat → Nat) (r cd : Int32) : Prop := (κm 5 = 32 ∧ κ2 = κm ∧ cd = 1) ∨ (κm 5 < 32 ∧ r = nI (κm 5 + 1) ∧ (κ2 5 = κm 5 + 1 ∧ κ2 0 = κm 0 ∧ κ2 1 = κm 1) ∧ cd = 0)
def LVR (κ κ1 : Nat → Nat) (r : Int32) (g0 : Int64) : Prop := (r = 0 ∧ 1 < κ 3 ∧ g0 = (nI (κ 3 - 1)).toInt64 ∧ (κ1 3 = κ 3 - 1 ∧ κ1 0 = κ 0 ∧ κ1 1 = κ 1)) ∨ (r = 1 ∧ κ 3 = 1 ∧ (κ1 3 = κ 3 ∧ κ1 0 = κ 0 ∧ κ1 1 = κ 1))
def LVM (κm κ2 : Nat → Nat) (r cd : Int32) : Prop := (κm 5 = 1 ∧ κ2 = κm ∧ cd = 1) ∨ (1 < κm 5 ∧ r = nI (κm 5 - 1) ∧ (κ2 5 = κm 5 - 1 ∧ κ2 0 = κm 0 ∧ κ2 1 = κm 1) ∧ cd = 0)
def ADR (κ κ1 : Nat → Nat) (r : Int32) (g0 : Int64) (a1 a2 a3 : Int32) : Prop := (r = 0 ∧ (¬ BA (κ 1) a1 a2 a3 ∧ κ 0 < 4000) ∧ g0 = (nI (κ 0)).toInt64 ∧ (κ1 3 = κ 3 ∧ κ1 0 = κ 0 + 1 ∧ ∃ k, a3 = nI k ∧ k ≤ κ 1 ∧ κ1 1 = κ 1 + 1 - k)) ∨ (((r = 1 ∧ BA (κ 1) a1 a2 a3) ∨ (r = 2 ∧ ¬ BA (κ 1) a1 a2 a3 ∧ 4000 ≤ κ 0)) ∧ (κ1 3 = κ 3 ∧ κ1 0 = κ 0 ∧ κ1 1 = κ 1))
def ADM (κm κ2 : Nat → Nat) (r cd : Int32) (a1 a2 a3 : Int32) : Prop := (BA (κm 1) a1 a2 a3 ∧ κ2 = κm ∧ cd = 1) ∨ (¬ BA (κm 1) a1 a2 a3 ∧ κm 0 = 4000 ∧ κ2 = κm ∧ cd = 2) ∨ (¬ BA (κm 1) a1 a2 a3 ∧ κm 0 < 4000 ∧ r = nI (κm 0) ∧ κ2 5 = κm 5 ∧ κ2 0 = κm 0 + 1 ∧ (∃ k, a3 = nI k ∧ k ≤ κm 1 ∧ κ2 1 = κm 1 - k + 1) ∧ cd = 0)
theorem one_ne : ∀ {r : Int32}, r = 1 → r = 0 → False := fun h h0 => by rw [h] at h0; exact absurd h0 (by decide)
theorem two_ne : ∀ {r : Int32}, r = 2 → r = 0 → False := fun h h0 => by rw [h] at h0; exact absurd h0 (by decide)
theorem cmp_enter {κ κ1 κm κ2 : Nat → Nat} {r r2 cd : Int32} {g0 : Int64} (h3 : EQ3 κ κm) (hb : κ 1 ≤ 8192) (hr : ENR κ κ1 r g0) (hr2 : ENM κm κ2 r2 cd) : cd = r ∧ (r = 0 → g0 = r2.toInt64) ∧ EQ3 κ1 κ2 := by
  obtain ⟨e1, e2, e3⟩ := h3
  rcases hr with ⟨a1, a2, a3, a4, a5, a6⟩ | ⟨a1, a2, a4, a5, a6⟩ <;> rcases hr2 with ⟨b1, b2, b3⟩ | ⟨b1, b2, ⟨b3, b4, b5⟩, b6⟩
  · exfalso; omega
  · exact ⟨by rw [a1, b6], fun _ => by rw [a3, b2, e1], by omega, by omega, by omega⟩
  · subst b2
    exact ⟨by rw [a1, b3], fun h => (one_ne a1 h).elim, by omega, by omega, by omega⟩
  · exfalso; omega
theorem cmp_leave {κ κ1 κm κ2 : Nat → Nat} {r r2 cd : Int32} {g0 : Int64} (h3 : EQ3 κ κm) (hb : κ 1 ≤ 8192) (hr : LVR κ κ1 r g0) (hr2 : LVM κm κ2 r2 cd) : cd = r ∧ (r = 0 → g0 = r2.toInt64) ∧ EQ3 κ1 κ2 := by
  obtain ⟨e1, e2, e3⟩ := h3
  rcases hr with ⟨a1, a2, a3, a4, a5, a6⟩ | ⟨a1, a2, a4, a5, a6⟩ <;> rcases hr2 with ⟨b1, b2, b3⟩ | ⟨b1, b2, ⟨b3, b4, b5⟩, b6⟩
  · exfalso; omega
  · exact ⟨by rw [a1, b6], fun _ => by rw [a3, b2, e1], by omega, by omega, by omega⟩
  · subst b2
    exact ⟨by rw [a1, b3], fun h => (one_ne a1 h).elim, by omega, by omega, by omega⟩
  · exfalso; omega
theorem cmp_add {κ κ1 κm κ2 : Nat → Nat} {r r2 cd a1 a2 a3 : Int32} {g0 : Int64} (h3 : EQ3 κ κm) (hb : κ 1 ≤ 8192) (hr : ADR κ κ1 r g0 a1 a2 a3) (hr2 : ADM κm κ2 r2 cd a1 a2 a3) : cd = r ∧ (r = 0 → g0 = r2.toInt64) ∧ EQ3 κ1 κ2 := by
  obtain ⟨e1, e2, e3⟩ := h3
  unfold ADM at hr2
  rw [← e3, ← e2] at hr2
  rcases hr with ⟨c1, ⟨c2, c3⟩, c4, c5, c6, k, k1, k2, k3⟩ | ⟨⟨c1, c2⟩ | ⟨c1, c2, c3⟩, c5, c6, c7⟩ <;> rcases hr2 with ⟨d1, d2, d3⟩ | ⟨d1, d2, d3, d4⟩ | ⟨d1, d2, d3, d4, d5, ⟨k', l1, l2, l3⟩, d7⟩
  · exact absurd d1 c2
  · exfalso; omega
  · have hk : k = k' := (nI_eq (by omega) (by omega)).mp (k1.symm.trans l1)
    exact ⟨by rw [c1, d7], fun _ => by rw [c4, d3], by omega, by omega, by omega⟩
  · subst d2
    exact ⟨by rw [c1, d3], fun h => (one_ne c1 h).elim, by omega, by omega, by omega⟩
  · exact absurd c2 d1
  · exact absurd c2 d1
  · exact absurd d1 c2
  · subst d3
    exact ⟨by rw [c1, d4], fun h => (two_ne c1 h).elim, by omega, by omega, by omega⟩
  · exfalso; omega
theorem hb8 {s : State} {γ : gE} {A : Nat → Prop} {m0 : Nat} {κ κm : Nat → Nat} {cd : Int32} {g : Nat → Int64} {H : Heap} {locs : List Loc} (I : LI s γ A m0 κ κm cd g H locs) : κ 1 ≤ 8192 := by
  obtain ⟨⟨h1, h2, h3, h4, h5, h6, h7, h8, h9, h0⟩, i1, i2, -⟩ := inv_len I.hI
  omega
section LWL
variable {p : Program} {l : Launch} {e : Env} {s : State} {m : MethodId} {below : List Frame} {meth : Method} {c : Code} {H : Heap} {locs : List Loc} {Q : State → Prop}
variable {y : MethodName} {bytes : ByteArray} {maxL n index fr lo cells slots : Nat} {As st0 : List Value} {pc b L m0 q : Nat} {xs : Nat → Int32} {ls : Array Slot} {γ : gE} {A : Nat → Prop} {hh : List (Nat × Nat × Nat × Nat)} {κ κm : Nat → Nat} {cd : Int32} {g : Nat → Int64}
theorem lc_wrap {PO : Int32 → Heap → Prop} {RES : Int32 → (Nat → Nat) → (Nat → Int64) → Prop} (K : LC l p s m c b L xs γ A m0) (I : LI s γ A m0 κ κm cd g H locs) (hq : q ≤ 2600)
    (hM : WM l y bytes maxL hh fr lo 50000 1000000 As γ (fun q => A q ∨ q = m0 + 25) (PSw s H γ A κ (m0 + 25) g) (mQi PO (fun q => A q ∨ q = m0 + 25))) (me : bs_Mw y bytes maxL hh n) (lk : Cond.methodLink R_law index y ∈ bs_W0) (hR : fr + 1 ≤ room_1.frames ∧ 8 + (maxL + 11) + lo ≤ room_1.locals) (hn : As.length = n) (hsz : ls.size = 7) (hst : st0 = As.reverse ++ []) (hdg : decode code pc = .ok (.invokestatic index, 3))
    (hPO : ∀ r H1, PO r H1 → ∃ g1 : Nat → Int64, OU γ (m0 + 25) g1 H1 ∧ PB γ A κ H (fun κ1 => RES r κ1 g1) H1)
    (kk : ∀ (r : Int32) (H1 : Heap) (locs1 : List Loc) (κ1 : Nat → Nat) (g1 : Nat → Int64), RES r κ1 g1 → LI s γ A m0 κ1 κm cd g1 H1 locs1 → W p l e room_1 s m #[Value.ref b] below meth c H1 locs1 (CC κ1 q + 1) (SS κ1 q + 6) Q (F0 m (pc + 3) ls [.int r])) : W p l e room_1 s m #[Value.ref b] below meth c H locs (CC κ q) (SS κ q) Q (F0 m pc ls st0) := by
  refine W.know (fun a1 a2 a3 => ?_)
  have hG0 : GR s.heap H (CC κ q) (SS κ q) := ⟨I.hS.1, a1, a2, a3⟩
  have hAn' : ∀ q, H.size ≤ q → A q := fun q h => K.hAn q (Nat.le_trans I.hz h)
  refine wm_Si (A := fun q => A q ∨ q = m0 + 25) (A0 := fun q => s.heap.size ≤ q) (rest := []) K.S K.hC (fun q h => Or.inl (hAn' q h)) (fun q h => h.elim (K.hA0 q) (fun e => by rw [e]; exact Nat.le_trans K.hm0 (Nat.le_add_right _ _))) I.hS hM psw_bl me lk hR (fun U hU hWU => ⟨⟨hWU, by rw [hU]; exact I.hS.1, fun a ha => by rw [hU]; exact I.hS.2.1 a ha (Nat.not_le.mpr ha)⟩, hU, by rw [hU]; exact I.hI, by rw [hU]; exact I.hO, by rw [hU]; exact hAn'⟩) hn hsz hst (Nat.zero_le _) hdg (cc_room (ph_le I.hI) hq) (fun r H1 locs1 hP hS1 hz1 hk1 => ?_)
  obtain ⟨g1, hO1, κ1, hI1, hr, hp, hG1⟩ := hPO r H1 hP
  have hc := cc_step (q := q) hp
  have hG := (hG0.trans hG1).mono hc.1 hc.2
  refine W.tight hG.2.1 hG.2.2.1 ?_
  refine kk r H1 locs1 κ1 g1 hr ⟨hI1, mi_kept I.hM (fun q h1 h2 => hk1 q (Nat.lt_of_lt_of_le h2 (Nat.le_trans (Nat.le_succ _) I.hz)) (fun h => h.elim (fun h => K.hAm q h ⟨h1, h2⟩) (fun e => by omega))), hO1, Nat.le_trans I.hz hz1, hS1⟩
theorem lc_model {rest : List Value} {PO : Int32 → Heap → Prop} {RES : Int32 → (Nat → Nat) → Int32 → Prop} (K : LC l p s m c b L xs γ A m0) (I : LI s γ A m0 κ κm cd g H locs)
    (hM : ∀ (b mn : Nat → Nat) (ν : Nat → Int32) (τ : Nat → Nat → Int32) (σ : Nat → Int32) (F : Nat → Nat → Int32) (nu : Nat → Int64), ST κm b mn ν τ → SZ F → FD σ → GD F nu → σ 0 = cd → MU l y bytes maxL (some .int) fr lo 0 0 (.ref m0 :: As) γ (fun q => (m0 ≤ q ∧ q < m0 + 25) ∨ H.size ≤ q) (MD γ m0 (B0 m0) (fun q => (m0 ≤ q ∧ q < m0 + 25) ∨ H.size ≤ q) ν τ σ F nu) (mQi PO (fun q => (m0 ≤ q ∧ q < m0 + 25) ∨ H.size ≤ q))) (me : bs_Mi y bytes maxL (some .int) n) (hy : y.cls = R_Model) (lk : Cond.methodLink R_law index y ∈ bs_W0) (hR : fr + 1 ≤ room_1.frames ∧ 8 + (maxL + 11) + lo ≤ room_1.locals) (hn : As.length = n) (hsz : ls.size = 7) (hst : st0 = As.reverse ++ .ref m0 :: rest) (hrm : (rest.map fun v => v.category).sum ≤ 8) (hdg : decode code pc = .ok (.invokevirtual index, 3)) (hf : cells + 0 ≤ room_1.cells ∧ slots + 0 ≤ room_1.slots)
    (hPO : ∀ r H1, PO r H1 → ∃ (κ1 : Nat → Nat) (cd1 : Int32), MI γ m0 (B0 m0) (fun q => (m0 ≤ q ∧ q < m0 + 25) ∨ H.size ≤ q) κ1 cd1 H1 ∧ RES r κ1 cd1)
    (kk : ∀ (r : Int32) (H1 : Heap) (locs1 : List Loc) (κ1 : Nat → Nat) (cd1 : Int32), RES r κ1 cd1 → LI s γ A m0 κ κ1 cd1 g H1 locs1 → W p l e room_1 s m #[Value.ref b] below meth c H1 locs1 cells slots Q (F0 m (pc + 3) ls (.int r :: rest))) : W p l e room_1 s m #[Value.ref b] below meth c H locs cells slots Q (F0 m pc ls st0) := by
  have hM1 : MI γ m0 (B0 m0) (fun q => (m0 ≤ q ∧ q < m0 + 25) ∨ H.size ≤ q) κm cd H := mi_Z I.hM (fun q h1 h2 => Or.inl ⟨h1, h2⟩)
  obtain ⟨b', mn, ν, τ, σ, F, nu, hT, hZ, hF, hG, hσ, hMD⟩ := hM1
  refine mu_Vi (A := fun q => (m0 ≤ q ∧ q < m0 + 25) ∨ H.size ≤ q) (A0 := fun q => s.heap.size ≤ q) (rest := rest) K.S K.hC (fun q h => Or.inr h) (fun q h => h.elim (fun h => Nat.le_trans K.hm0 h.1) (fun h => Nat.le_trans I.hS.1 h)) I.hS (hM b' mn ν τ σ F nu hT hZ hF hG hσ) me lk hR (by rw [hy]; exact md_rv K.hC hMD) hMD hn hsz hst hrm hdg hf (fun r H1 locs1 hP hS1 hz1 hk1 => ?_)
  obtain ⟨κ1, cd1, hM2, hr⟩ := hPO r H1 hP
  refine kk r H1 locs1 κ1 cd1 hr ⟨inv_off I.hI (fun q h1 h2 => hk1 q h2 (fun h => h.elim (K.hAm q h1) (fun h => by omega))), mi_Z hM2 (fun q h1 h2 => ⟨h1, h2⟩), I.hO.kept (hk1 _ I.hO.lt (fun h => h.elim (fun h => by omega) (fun h => absurd I.hO.lt (Nat.not_lt.mpr h)))), Nat.le_trans I.hz hz1, hS1⟩
theorem lc_thrown (K : LC l p s m c b L xs γ A m0) (I : LI s γ A m0 κ κm cd g H locs) (hsz : ls.size = 7) (lk : Cond.methodLink R_law index yModel_thrown ∈ bs_W0) (hdg : decode code pc = .ok (.invokevirtual index, 3)) (hf : cells ≤ room_1.cells ∧ slots ≤ room_1.slots)
    (kk : W p l e room_1 s m #[Value.ref b] below meth c H locs cells slots Q (F0 m (pc + 3) ls [.int cd])) : W p l e room_1 s m #[Value.ref b] below meth c H locs cells slots Q (F0 m pc ls [.ref m0]) := by
  obtain ⟨b', mn, ν, τ, σ, F, nu, hT, hZ, hF, hG, hσ, hMD⟩ := I.hM
  exact pu_Vi (As := []) (rest := []) K.S K.hC (m_thrown l γ m0 (B0 m0) _ κm b' mn ν τ σ F nu hT) meModel_thrown lk ⟨Nat.le_of_ble_eq_true rfl, Nat.le_of_ble_eq_true rfl⟩ (md_rv K.hC hMD) hMD rfl hsz rfl (Nat.zero_le _) hdg hf (fun r hr => by rw [hr, hσ]; exact kk)
theorem lc_clear (K : LC l p s m c b L xs γ A m0) (I : LI s γ A m0 κ κm cd g H locs) (hsz : ls.size = 7) (lk : Cond.methodLink R_law index yTypeBook_clear ∈ bs_W0) (hdg : decode code pc = .ok (.invokevirtual index, 3)) (hf : cells + 0 ≤ room_1.cells ∧ slots + 0 ≤ room_1.slots)
    (kk : ∀ (r : Int32) (H1 : Heap) (locs1 : List Loc), r = nI (κ 0) → LI s γ A m0 (ku (ku κ 0 0) 1 0) κm cd g H1 locs1 → W p l e room_1 s m #[Value.ref b] below meth c H1 locs1 cells slots Q (F0 m (pc + 3) ls [.int r])) : W p l e room_1 s m #[Value.ref b] below meth c H locs cells slots Q (F0 m pc ls [.ref (γ.2.2.2 0)]) := by
  refine mu_Vi (As := []) (A := A) (A0 := fun q => s.heap.size ≤ q) (rest := []) K.S K.hC (fun q h => K.hAn q (Nat.le_trans I.hz h)) K.hA0 I.hS (k_TypeBook_clear l γ A κ) meTypeBook_clear lk ⟨Nat.le_of_ble_eq_true rfl, Nat.le_of_ble_eq_true rfl⟩ (rv_0 K.hC I.hI) I.hI rfl hsz rfl (Nat.zero_le _) hdg hf (fun r H1 locs1 hP hS1 hz1 hk1 => ?_)
  exact kk r H1 locs1 hP.1 ⟨hP.2, mi_kept I.hM (fun q h1 h2 => hk1 q (Nat.lt_of_lt_of_le h2 (Nat.le_trans (Nat.le_succ _) I.hz)) (fun h => K.hAm q h ⟨h1, h2⟩)), I.hO.kept (hk1 _ I.hO.lt K.hAo), Nat.le_trans I.hz hz1, hS1⟩
theorem lc_place (K : LC l p s m c b L xs γ A m0) (I : LI s γ A m0 κ κm cd g H locs) (hsz : ls.size = 7) (lk : Cond.methodLink R_law index yTypeBook_place ∈ bs_W0) (hdg : decode code pc = .ok (.invokevirtual index, 3)) (hf : cells ≤ room_1.cells ∧ slots ≤ room_1.slots)
    (kk : ∀ r : Int32, W p l e room_1 s m #[Value.ref b] below meth c H locs cells slots Q (F0 m (pc + 3) ls [.int r])) : W p l e room_1 s m #[Value.ref b] below meth c H locs cells slots Q (F0 m pc ls [.ref (γ.2.2.2 0)]) :=
  pu_Vi (As := []) (rest := []) K.S K.hC (k_TypeBook_place l γ A κ) meTypeBook_place lk ⟨Nat.le_of_ble_eq_true rfl, Nat.le_of_ble_eq_true rfl⟩ (rv_0 K.hC I.hI) I.hI rfl hsz rfl (Nat.zero_le _) hdg hf (fun r _ => kk r)
end LWL
