-- CONSTRUCTORS: stores into final fields, new cells at known places, calls of <init>
theorem qc_obj : (Cond.code Lib.objectInit ⟨#[0xb1]⟩ 1 none) ∈ bs_W0 := bs_in (in_tables_1_1 (List.mem_of_getElem? (i := 31) rfl)) rfl
def iv (lo hi : Nat) (q : Nat) : Prop := lo ≤ q ∧ q < hi
theorem iv_kept {γ : gE} {F : va_W → Prop} {lo hi : Nat} {H H1 : Heap} (h : cmp γ F (iv lo hi) H) (hk : ∀ q : Nat, lo ≤ q → q < hi → q < H.size → H1[q]? = H[q]?) : cmp γ F (iv lo hi) H1 := cmp_kept h (fun q hq hl => hk q hq.1 hq.2 hl) (fun q hq _ => hq)
theorem iv_of {γ : gE} {F : va_W → Prop} {a hi : Nat} {H : Heap} (h : cmp γ F (fun q => a ≤ q) H) (hz : H.size = hi) : cmp γ F (iv a hi) H := cmp_kept h (fun _ _ _ => rfl) (fun q hq hl => ⟨hq, by rw [← hz]; exact hl⟩)
/-- what is known of a constructor -/
def bs_Mc (y : MethodName) (bytes : ByteArray) (maxL n : Nat) : Prop :=
  Cond.instanceMethod y ∈ bs_W0 ∧ Cond.initialized y.cls ∈ bs_W0 ∧ Cond.code y bytes maxL none ∈ bs_W0 ∧ (y.cls ≠ "java/lang/invoke/MethodHandle" ∧ y.cls ≠ "java/lang/invoke/VarHandle" ∧ (parseMethodDescriptor y.desc).map (fun d => d.parameters.length) = some n) ∧ y.name = "<init>"
abbrev MS (l : Launch) (y : MethodName) (bytes : ByteArray) (maxL : Nat) (ret : Option FieldType) (fr lo mc ms : Nat) (av : List Value) (γ : gE) (A : Nat → Prop) (PS : State → Prop) (Qc : Array Value → State → Outcome → State → Prop) : Prop :=
  Met l y (Cond.code y bytes maxL ret :: bs_W0) (bs_rm fr mc ms lo) (va_Pc av (fun U => CX γ U ∧ (∀ q, U.heap.size ≤ q → A q) ∧ PS U)) Qc mc ms A
section CTS
variable {p : Program} {l : Launch} {e : Env} {R : Room} {s : State} {m : MethodId} {args : Array Value} {below : List Frame} {meth : Method} {c : Code} {H : Heap} {locs : List Loc} {cells slots : Nat} {Q : State → Prop}
variable {cc : ByteArray} {pc : Nat} {ls : Array Slot} {rest : List Value} {D : va_G} {cl : List vw_C} {A Z A0 : Nat → Prop} {a : Nat} {tys : List (ClassId × FieldType)} {ws : va_W} {H0 : Heap} {nL index : Nat} {own : String} {γ : gE} {κ : Nat → Nat}
variable {y : MethodName} {bytes : ByteArray} {maxL mc ms n fr lo : Nat} {b : Addr} {As st0 av : List Value} {PS : State → Prop}
theorem st_putF (hexec : p.tables.exec = Jvm.exec) (hb : c.code = cc) {ref C : String} {T : u_T} {N ci : Nat} {Ts : List Cond} (hts : ∀ w ∈ Ts, w.before args s = true) (hin : ∀ w ∈ u_ws C T N, w ∈ Ts) (ty0 : Nat → FieldType) (hty : ∀ k, k < N → parseFieldDescriptor (T k).2.2.1 = some (ty0 k)) (hnm : ∀ a, a < N → ∀ b, b < N → a ≠ b → (T a).2.1 ≠ (T b).2.1) (hown : s.vm.findClass own = some m.cls) (hK : va_K D cl tys s) (hP : va_P D cl ws H) (hD : va_D Z ws) (hZA : ∀ q, Z q → A q) (hS0 : va_S A H0 H locs) (q0 : Nat) {fs : List Value} (he : ws[q0]? = some (a, .inr (ci, fs))) (hc : cl[ci]? = some (C, T, N)) (k : Nat) (hk : k < N) (hlink : (Cond.fieldLink own index ref (T k).2.1 (T k).2.2.1).before args s = true) (hsame : ∀ x, s.fieldFound? (T k).1 (T k).2.1 (T k).2.2.1 = some x → s.fieldFound? ref (T k).2.1 (T k).2.2.1 = some x) (hfin : (T k).2.2.2 = true) (hini : meth.name = "<init>") (hdecl : (T k).1 = own) {ty : FieldType} {v : Value} (hd : parseFieldDescriptor (T k).2.2.1 = some ty) (hn : narrow ty v = v) (hfit : fits ty v = true) (hl : k < fs.length)
    (hdg : decode cc pc = .ok (.putfield index, 3)) (kk : ∀ (H1 : Heap) (locs1 : List Loc), va_P D cl (ws.set q0 (a, .inr (ci, fs.set k v))) H1 → va_D Z (ws.set q0 (a, .inr (ci, fs.set k v))) → va_S A H0 H1 locs1 → H1.size = H.size → (∀ q, q ≠ a → H1[q]? = H[q]?) → W p l e R s m args below meth c H1 locs1 cells slots Q (F0 m (pc + 3) ls rest)) : W p l e R s m args below meth c H locs cells slots Q (F0 m pc ls (v :: .ref a :: rest)) := by
  have hap := va_apart (own := own) hts hin ty0 hty hnm hK hc
  obtain ⟨r, h1, cell, q1, q2, q3, q4⟩ := hP q0 _ he
  cases (Option.some.inj (h1.symm.trans hc))
  obtain ⟨hS, hfc, kC, hkC, hkind⟩ := hK.1 ci _ hc
  obtain ⟨cf, kf, fi, f, hi, hsl⟩ := hS k hk
  have hlay := hts _ (hin _ (u_in_lay hk))
  unfold u_lay at hlay
  rw [if_pos hfin] at hlay
  have hst := (u_facts hfc hkC (u_lays hts hin hk) hi).1
  have hcf : m.cls = cf := by
    obtain ⟨_, _, c9, _, _, _, -, -, hf9, -, -, -, ho9, -⟩ := Cond.laysFinal_spec hlay
    have e9 : c9 = cf := by have h9 := hi.symm.trans hf9; simp at h9; exact h9.1.symm
    rw [hdecl] at ho9
    rw [← e9]
    exact Option.some.inj (hown.symm.trans ho9)
  have h6 := u_fits hfc hkC hkind (Or.inr hlay) hi hd hn hfit
  refine W.putFinK hexec hb hown hlink (hsame _ hi) hst hcf hini (by rw [q2]; exact h6) q1 q3 (by rw [hsl]; exact k2_hasslot (q4 k hk)) rfl rfl hdg fun H9 e1 e2 e3 => ?_
  rw [hsl] at e1 ⊢
  exact kk H9 _ (hP.set hD he ⟨_, hc, t_OB.to (V := updV (vp_V fs) k v) ⟨_, e1, q2, q3, t_set q4 hap hk v⟩ (fun j _ => vp_updV_set hl v j)⟩ e3) (hD.set he) (hS0.put e2 e3 (hZA _ (hD.2 q0 _ he))) e2 e3
/-- a new array at the heap's end -/
theorem cw_newa (S : bs_F p s m args c cc nL own) (hC : CX γ s) (harr : Cond.arrayClass .int ∈ bs_W0) (hP : va_P γ.1 vwCl ws H) (hD : va_D Z ws) (hS : va_S Z H0 H locs) (hZ : ∀ q, H0.size ≤ q → Z q) {k : Nat} (hk : H.size = k) {x : Int32} (N : Nat) (hx : x = nI N) (hN : N ≤ 1000000) (hc : cells + 1 ≤ R.cells) (hs : slots + N ≤ R.slots) (hdg : decode cc pc = .ok (.newarray .int, 2))
    (kk : ∀ H1 : Heap, va_P γ.1 vwCl (ws ++ [(k, .inl (γ.2.1, N, .inl (fun _ => 0)))]) H1 → va_D Z (ws ++ [(k, .inl (γ.2.1, N, .inl (fun _ => 0)))]) → va_S Z H0 H1 locs → H1.size = k + 1 → (∀ q : Nat, q < k → H1[q]? = H[q]?) → W p l e R s m args below meth c H1 locs (cells + 1) (slots + N) Q (F0 m (pc + 2) ls (.ref k :: rest))) : W p l e R s m args below meth c H locs cells slots Q (F0 m pc ls (.int x :: rest)) := by
  subst hx
  subst hk
  refine va_newaK (atype := .int) (N := N) S.1 S.2.1 (S.2.2.2.2 _ harr) rfl hdg rfl (nI_pos (by omega)) (nI_clamp (by omega)) (by show N * 4 ≤ _; omega) hc hs rfl (fun H1 cA e1 z1 o1 hAr hNm => ?_)
  have hcA : cA = γ.2.1 := Option.some.inj (hNm.symm.trans (va_nm_int (hC.1.2 0 _ rfl).2))
  subst hcA
  have hq : ∀ (k : Nat) (x : Nat × va_E), ws[k]? = some x → H1[x.1]? = H[x.1]? := fun k x hx => o1 x.1 ((hP k x hx).lt)
  exact kk H1 ((hP.kept hq).app (one_P e1)) (hD.push hP rfl (hZ _ hS.1)) ⟨Nat.le_trans hS.1 (by omega), fun x h1 h2 => (o1 x (Nat.lt_of_lt_of_le h1 hS.1)).trans (hS.2.1 x h1 h2), hS.2.2⟩ z1 o1
theorem cw_newl (S : bs_F p s m args c cc nL own) (hC : CX γ s) (harr : Cond.arrayClass .long ∈ bs_W0) (hP : va_P γ.1 vwCl ws H) (hD : va_D Z ws) (hS : va_S Z H0 H locs) (hZ : ∀ q, H0.size ≤ q → Z q) {k : Nat} (hk : H.size = k) {x : Int32} (N : Nat) (hx : x = nI N) (hN : N ≤ 1000000) (hc : cells + 1 ≤ R.cells) (hs : slots + N ≤ R.slots) (hdg : decode cc pc = .ok (.newarray .long, 2))
    (kk : ∀ H1 : Heap, va_P γ.1 vwCl (ws ++ [(k, .inl (γ.2.2.1, N, .inr (.inl (fun _ => 0))))]) H1 → va_D Z (ws ++ [(k, .inl (γ.2.2.1, N, .inr (.inl (fun _ => 0))))]) → va_S Z H0 H1 locs → H1.size = k + 1 → (∀ q : Nat, q < k → H1[q]? = H[q]?) → W p l e R s m args below meth c H1 locs (cells + 1) (slots + N) Q (F0 m (pc + 2) ls (.ref k :: rest))) : W p l e R s m args below meth c H locs cells slots Q (F0 m pc ls (.int x :: rest)) := by
  subst hx
  subst hk
  refine va_newaK (atype := .long) (N := N) S.1 S.2.1 (S.2.2.2.2 _ harr) rfl hdg rfl (nI_pos (by omega)) (nI_clamp (by omega)) (by show N * 8 ≤ _; omega) hc hs rfl (fun H1 cA e1 z1 o1 hAr hNm => ?_)
  have hcA : cA = γ.2.2.1 := Option.some.inj (hNm.symm.trans (va_nm_long (hC.1.2 1 _ rfl).2))
  subst hcA
  have hq : ∀ (k : Nat) (x : Nat × va_E), ws[k]? = some x → H1[x.1]? = H[x.1]? := fun k x hx => o1 x.1 ((hP k x hx).lt)
  exact kk H1 ((hP.kept hq).app (one_P e1)) (hD.push hP rfl (hZ _ hS.1)) ⟨Nat.le_trans hS.1 (by omega), fun x h1 h2 => (o1 x (Nat.lt_of_lt_of_le h1 hS.1)).trans (hS.2.1 x h1 h2), hS.2.2⟩ z1 o1
/-- a new object at the heap's end, beside the world -/
theorem cw_new (S : bs_F p s m args c cc nL own) (hC : CX γ s) {C : String} {T : u_T} {N ci : Nat} (hin : ∀ w ∈ u_ws C T N, w ∈ bs_W0) (ty : Nat → FieldType) (hty : ∀ k, k < N → parseFieldDescriptor (T k).2.2.1 = some (ty k)) (hcl : Cond.classLink own index C ∈ bs_W0) (hinst : Cond.instantiable C N ∈ bs_W0) (hini : Cond.initialized C ∈ bs_W0) (hc : vwCl[ci]? = some (C, T, N)) {fs : List Value} (hfs : ∀ j, j < N → defaultValue (ty j) = vp_V fs j)
    (hP : va_P γ.1 vwCl ws H) (hS : va_S Z H0 H locs) (hZ : ∀ q, H0.size ≤ q → Z q) {k : Nat} (hk : H.size = k) (hce : cells + 1 ≤ R.cells) (hsl : slots + N ≤ R.slots) (hdg : decode cc pc = .ok (.new index, 3))
    (kk : ∀ H1 : Heap, va_P γ.1 vwCl [(k, .inr (ci, fs))] H1 → va_P γ.1 vwCl ws H1 → va_S Z H0 H1 locs → H1.size = k + 1 → (∀ q : Nat, q < k → H1[q]? = H[q]?) → W p l e R s m args below meth c H1 locs (cells + 1) (slots + N) Q (F0 m (pc + 3) ls (.ref k :: rest))) : W p l e R s m args below meth c H locs cells slots Q (F0 m pc ls rest) := by
  subst hk
  obtain ⟨hx, hb, -, hown, hW⟩ := S
  have hKn := hC.1.1 ci _ hc
  refine W.newcK hx hb hown (hW _ hcl) (hW _ hinst) (hW _ hini) rfl hdg hce hsl hKn.2.1 rfl fun H1 kC hkC e1 z1 o1 => ?_
  have hq : ∀ (k : Nat) (x : Nat × va_E), ws[k]? = some x → H1[x.1]? = H[x.1]? := fun k x hx => o1 x.1 ((hP k x hx).lt)
  refine kk H1 ?_ (hP.kept hq) ⟨Nat.le_trans hS.1 (by omega), fun x h1 h2 => (o1 x (Nat.lt_of_lt_of_le h1 hS.1)).trans (hS.2.1 x h1 h2), hS.2.2⟩ z1 o1
  intro k9 x9 hx9
  have hz9 : k9 < 1 := (List.getElem?_eq_some_iff.mp hx9).1
  rw [show k9 = 0 by omega] at hx9
  cases hx9
  exact ⟨_, hc, (u_born ty hW hin hKn hkC e1 hty).to hfs⟩
theorem ms_openV {PO : Heap → Prop} (hy : plainName y.cls = true) (hn : (lg_sl av).length ≤ maxL)
    (body : ∀ (p : Program) (e : Env) (s : State) (m : MethodId) (args : Array Value) (below : List Frame) (meth : Method) (c : Code) (ls : Array Slot) (Q : State → Prop), bs_F p s m args c bytes maxL y.cls → meth.name = y.name → CX γ s → (∀ q, s.heap.size ≤ q → A q) → PS s → (∀ (H : Heap) (locs : List Loc) (cells slots pc : Nat) (ls : Array Slot), va_S A s.heap H locs → cells ≤ mc → slots ≤ ms → (GR s.heap H cells slots → PO H) → decode bytes pc = .ok (.return_, 1) → W p l e (bs_rm fr mc ms lo) s m args below meth c H locs cells slots Q (F0 m pc ls [])) → lv_has ls maxL (lv_args 0 av) → W p l e (bs_rm fr mc ms lo) s m args below meth c s.heap [] 0 0 Q (F0 m 0 ls [])) : MS l y bytes maxL none fr lo mc ms av γ A PS (mQv PO A) := by
  refine Met.ofW (cc := bytes) (maxL := maxL) (ret := none) hy rfl ?_
  intro p e s m args below meth c s₁ B hml hv
  obtain ⟨rfl, hC, hA, hP⟩ := hv
  have hts := bs_hts (atoms_spec (ws := Cond.code y bytes maxL none :: bs_W0) B.pre)
  have hl := lv_entry av (n := maxL) hn
  rw [lg_entry_eq]
  refine body p e s m _ below meth c _ _ ⟨B.exec, B.bytes, hml, findClass_of_methodNamed B.named, hts⟩ (name_of_methodNamed B.named B.method).1 hC hA hP (fun H locs cells slots pc ls hS h1 h2 hp hdg => ?_) hl
  refine W.know (fun k1 k2 k3 => ?_)
  have hpo := hp ⟨hS.1, k1, k2, k3⟩
  refine W.up h1 h2 ?_
  exact W.vret B.exec B.bytes B.returns (fun t ht _ => ⟨⟨(), rfl, trivial, by show PO t.heap; rw [ht]; exact hpo⟩, hS.F ht⟩) hS.2.2 hdg B.notSynchronized
theorem ms_I {PO : Heap → Prop} (S : bs_F p s m args c cc nL own) (hC : CX γ s) (hA : ∀ q, H.size ≤ q → A q) (hAA : ∀ q, A q → A0 q) (hS : va_S A0 H0 H locs) (hM : MS l y bytes maxL none fr lo mc ms (.ref b :: As) γ A PS (mQv PO A)) (hbl : ∀ u U : State, u.vm = U.vm → u.heap = U.heap → PS u → PS U) (me : bs_Mc y bytes maxL n) (lk : Cond.methodLink own index y ∈ bs_W0) (hR : fr + 1 ≤ R.frames ∧ 8 + (maxL + 11) + lo ≤ R.locals) (hPS : ∀ U : State, U.heap = H → s.WarmedH U.vm → PS U) (hn : As.length = n) (hsz : ls.size = nL) (hst : st0 = As.reverse ++ .ref b :: rest) (hrm : (rest.map fun v => v.category).sum ≤ 8) (hdg : decode cc pc = .ok (.invokespecial index, 3)) (hf : cells + mc ≤ R.cells ∧ slots + ms ≤ R.slots)
    (kk : ∀ (H1 : Heap) (locs1 : List Loc), PO H1 → va_S A0 H0 H1 locs1 → H.size ≤ H1.size → (∀ q : Nat, q < H.size → ¬ A q → H1[q]? = H[q]?) → W p l e R s m args below meth c H1 locs1 (cells + mc) (slots + ms) Q (F0 m (pc + 3) ls rest)) : W p l e R s m args below meth c H locs cells slots Q (F0 m pc ls st0) := by
  obtain ⟨m1, m3, m4, m5, m6⟩ := me
  have hW := S.2.2.2.2
  exact va_callv (va_runI (As := As) (rest := rest) S hM ⟨callB_of n hW (bs_all m4) rfl rfl rfl (hW _ m3) (hW _ lk) m5 hR, m6, hW _ m1⟩ ⟨tx_blind hbl, fun U hU hW => ⟨rfl, hC.warm hW, by rw [hU]; exact hA, hPS U hU hW⟩⟩ rfl hn hsz hst (lv_room hrm) hdg hf) hS (fun q _ h => hAA q h) hAA (fun u t H1 locs1 ht _ hw hB hz hk hS1 => kk H1 locs1 (by rw [← ht]; exact hB) hS1 hz hk)
theorem ms_IN {PO : Heap → Prop} {host : String} (S : bs_F p s m args c cc nL own) (hC : CX γ s) (hA : ∀ q, H.size ≤ q → A q) (hAA : ∀ q, A q → A0 q) (hS : va_S A0 H0 H locs) (hM : MS l y bytes maxL none fr lo mc ms (.ref b :: As) γ A PS (mQv PO A)) (hbl : ∀ u U : State, u.vm = U.vm → u.heap = U.heap → PS u → PS U) (me : bs_Mc y bytes maxL n) (lk : va_Nw (.methodLinkNest own index y host) s) (hR : fr + 1 ≤ R.frames ∧ 8 + (maxL + 11) + lo ≤ R.locals) (hPS : ∀ U : State, U.heap = H → s.WarmedH U.vm → PS U) (hn : As.length = n) (hsz : ls.size = nL) (hst : st0 = As.reverse ++ .ref b :: rest) (hrm : (rest.map fun v => v.category).sum ≤ 8) (hdg : decode cc pc = .ok (.invokespecial index, 3)) (hf : cells + mc ≤ R.cells ∧ slots + ms ≤ R.slots)
    (kk : ∀ (H1 : Heap) (locs1 : List Loc), PO H1 → va_S A0 H0 H1 locs1 → H.size ≤ H1.size → (∀ q : Nat, q < H.size → ¬ A q → H1[q]? = H[q]?) → W p l e R s m args below meth c H1 locs1 (cells + mc) (slots + ms) Q (F0 m (pc + 3) ls rest)) : W p l e R s m args below meth c H locs cells slots Q (F0 m pc ls st0) := by
  obtain ⟨m1, m3, m4, m5, m6⟩ := me
  have hW := S.2.2.2.2
  exact va_callv (va_runIN (As := As) (rest := rest) S hM ⟨va_cnB n hW (bs_all m4) rfl rfl rfl lk (hW _ m3) m5 hR, m6, hW _ m1⟩ ⟨tx_blind hbl, fun U hU hW => ⟨rfl, hC.warm hW, by rw [hU]; exact hA, hPS U hU hW⟩⟩ rfl hn hsz hst (lv_room hrm) hdg hf) hS (fun q _ h => hAA q h) hAA (fun u t H1 locs1 ht _ hw hB hz hk hS1 => kk H1 locs1 (by rw [← ht]; exact hB) hS1 hz hk)
end CTS
def ct_P (s0 : State) (a : Nat) (H0 : Heap) (γ : gE) (ws : va_W) (U : State) : Prop := (FB s0 U U.heap ∧ s0.heap.size ≤ a) ∧ U.heap = H0 ∧ H0.size = a + 1 ∧ va_P γ.1 vwCl ws H0
theorem ct_blind {s0 : State} {a : Nat} {H0 : Heap} {γ : gE} {ws : va_W} : ∀ u U : State, u.vm = U.vm → u.heap = U.heap → ct_P s0 a H0 γ ws u → ct_P s0 a H0 γ ws U := fun u U hv hh h => ⟨⟨by rw [← hh]; exact h.1.1.same hv, h.1.2⟩, by rw [← hh]; exact h.2.1, h.2.2⟩
theorem meTypeBook_init : bs_Mc yTypeBook_init bTypeBook_init 1 0 := ⟨bs_in (in_tables_1_1 (List.mem_of_getElem? (i := 27) rfl)) rfl, bs_in (in_tables_1_1 (List.mem_of_getElem? (i := 1) rfl)) rfl, bs_in (in_tables_1_1 (List.mem_of_getElem? (i := 28) rfl)) rfl, ⟨by decide, by decide, by decide +kernel⟩, rfl⟩
theorem meLooker_init : bs_Mc yLooker_init bLooker_init 5 4 := ⟨bs_in (in_tables_1_1 (List.mem_of_getElem? (i := 229) rfl)) rfl, bs_in (in_tables_1_1 (List.mem_of_getElem? (i := 11) rfl)) rfl, bs_in (in_tables_1_1 (List.mem_of_getElem? (i := 230) rfl)) rfl, ⟨by decide, by decide, by decide +kernel⟩, rfl⟩
theorem meLooks_init : bs_Mc yLooks_init bLooks_init 1 0 := ⟨bs_in (in_tables_1_1 (List.mem_of_getElem? (i := 197) rfl)) rfl, bs_in (in_tables_1_1 (List.mem_of_getElem? (i := 10) rfl)) rfl, bs_in (in_tables_1_1 (List.mem_of_getElem? (i := 198) rfl)) rfl, ⟨by decide, by decide, by decide +kernel⟩, rfl⟩
theorem meMeanings_init : bs_Mc yMeanings_init bMeanings_init 6 5 := ⟨bs_in (in_tables_1_2 (List.mem_of_getElem? (i := 7) rfl)) rfl, bs_in (in_tables_1_1 (List.mem_of_getElem? (i := 13) rfl)) rfl, bs_in (in_tables_1_2 (List.mem_of_getElem? (i := 8) rfl)) rfl, ⟨by decide, by decide, by decide +kernel⟩, rfl⟩
theorem meNames_init : bs_Mc yNames_init bNames_init 2 0 := ⟨bs_in (in_tables_1_1 (List.mem_of_getElem? (i := 63) rfl)) rfl, bs_in (in_tables_1_1 (List.mem_of_getElem? (i := 3) rfl)) rfl, bs_in (in_tables_1_1 (List.mem_of_getElem? (i := 64) rfl)) rfl, ⟨by decide, by decide, by decide +kernel⟩, rfl⟩
theorem meObjects_init : bs_Mc yObjects_init bObjects_init 1 0 := ⟨bs_in (in_tables_1_1 (List.mem_of_getElem? (i := 161) rfl)) rfl, bs_in (in_tables_1_1 (List.mem_of_getElem? (i := 8) rfl)) rfl, bs_in (in_tables_1_1 (List.mem_of_getElem? (i := 162) rfl)) rfl, ⟨by decide, by decide, by decide +kernel⟩, rfl⟩
theorem meOperators_init : bs_Mc yOperators_init bOperators_init 2 1 := ⟨bs_in (in_tables_1_1 (List.mem_of_getElem? (i := 237) rfl)) rfl, bs_in (in_tables_1_1 (List.mem_of_getElem? (i := 12) rfl)) rfl, bs_in (in_tables_1_1 (List.mem_of_getElem? (i := 238) rfl)) rfl, ⟨by decide, by decide, by decide +kernel⟩, rfl⟩
theorem meRows_init : bs_Mc yRows_init bRows_init 2 1 := ⟨bs_in (in_tables_1_1 (List.mem_of_getElem? (i := 167) rfl)) rfl, bs_in (in_tables_1_1 (List.mem_of_getElem? (i := 9) rfl)) rfl, bs_in (in_tables_1_1 (List.mem_of_getElem? (i := 168) rfl)) rfl, ⟨by decide, by decide, by decide +kernel⟩, rfl⟩
theorem meTrees_init : bs_Mc yTrees_init bTrees_init 1 0 := ⟨bs_in (in_tables_1_1 (List.mem_of_getElem? (i := 35) rfl)) rfl, bs_in (in_tables_1_1 (List.mem_of_getElem? (i := 2) rfl)) rfl, bs_in (in_tables_1_1 (List.mem_of_getElem? (i := 36) rfl)) rfl, ⟨by decide, by decide, by decide +kernel⟩, rfl⟩
theorem meTypes_init : bs_Mc yTypes_init bTypes_init 1 0 := ⟨bs_in (in_tables_1_1 (List.mem_of_getElem? (i := 131) rfl)) rfl, bs_in (in_tables_1_1 (List.mem_of_getElem? (i := 7) rfl)) rfl, bs_in (in_tables_1_1 (List.mem_of_getElem? (i := 132) rfl)) rfl, ⟨by decide, by decide, by decide +kernel⟩, rfl⟩
