section CPL
variable {p : Program} {l : Launch} {e : Env} {R : Room} {s : State} {m : MethodId} {args : Array Value} {below : List Frame} {meth : Method} {c : Code} {H : Heap} {locs : List Loc} {cells slots : Nat} {Q : State → Prop}
variable {pc : Nat} {ls : Array Slot} {rest : List Value} {D : va_G} {cl : List vw_C} {A Z : Nat → Prop} {a : Nat} {tys : List (ClassId × FieldType)} {ws : va_W} {H0 : Heap}
theorem st_copyi {cc : ByteArray} (hexec : p.tables.exec = Jvm.exec) (hb : c.code = cc) (hml : c.maxLocals = ls.size) {own : String} {index : Nat} (hown : s.vm.findClass own = some m.cls) (hlink : (Cond.methodLink own index arraycopyName).before args s = true) (hnat : (Cond.native arraycopyName).before args s = true) (hstat : (Cond.static arraycopyName).before args s = true) (hini : (Cond.initialized "java/lang/System").before args s = true)
    (hK : va_K D cl tys s) (hP : va_P D cl ws H) (hD : va_D Z ws) (hZA : ∀ q, Z q → A q) (hS : va_S A H0 H locs) (q1 t0 t1 : Nat) {a0 : Nat} {c0 c1 : ClassId} {n0 n1 : Nat} {f g : Nat → Int32} (hc0 : H[a0]? = some (vp_cell c0 (n0, .inl f))) (ha1 : ws[q1]? = some (a, .inl (c1, n1, .inl g))) (ht0 : tys[t0]? = some (c0, .int)) (ht1 : tys[t1]? = some (c1, .int))
    {sp dp n : Int32} (h1 : ¬ sp < 0) (h2 : ¬ dp < 0) (h3 : ¬ n < 0) (h4 : sp.toNatClampNeg + n.toNatClampNeg ≤ n0) (h5 : dp.toNatClampNeg + n.toNatClampNeg ≤ n1)
    (hframes : 1 ≤ R.frames) (hlocals : (rest.map fun v => v.category).sum + (nativeFrameWords "java/lang/System" "arraycopy" 5 + 11) ≤ R.locals) (hdg : decode cc pc = .ok (.invokestatic index, 3))
    (kk : ∀ (H1 : Heap) (locs1 : List Loc), va_P D cl (ws.set q1 (a, .inl (c1, n1, .inl (va_cpy f g sp.toNatClampNeg dp.toNatClampNeg n.toNatClampNeg)))) H1 → va_D Z (ws.set q1 (a, .inl (c1, n1, .inl (va_cpy f g sp.toNatClampNeg dp.toNatClampNeg n.toNatClampNeg)))) → va_S A H0 H1 locs1 → H1.size = H.size → (∀ q : Nat, q ≠ a → H1[q]? = H[q]?) → W p l e R s m args below meth c H1 locs1 cells slots Q (F0 m (pc + 3) ls rest)) : W p l e R s m args below meth c H locs cells slots Q (F0 m pc ls (.int n :: .int dp :: .ref a :: .int sp :: .ref a0 :: rest)) := by
  have nn : ∀ z : Int32, ¬ z < 0 → z.toInt = (z.toNatClampNeg : Int) := by
    intro z hz
    have hz0 : (0 : Int) ≤ z.toInt := by
      have := Int32.not_lt.mp hz
      simpa using Int32.le_iff_toInt_le.mp this
    show z.toInt = ((z.toInt.toNat : Nat) : Int)
    omega
  intro T hT X
  have hc1 : H[a]? = some (vp_cell c1 (n1, .inl g)) := hP q1 _ ha1
  obtain ⟨-, k0, hk0, cm0, hkk0⟩ := (hK.2 t0 _ ht0).1 n0 (fun j => .int (f j))
  obtain ⟨-, k1, hk1, cm1, hkk1⟩ := (hK.2 t1 _ ht1).1 n1 (fun j => .int (g j))
  obtain ⟨vm', X', step⟩ := X.arraycopy hexec hown hlink hnat hstat hini (src := a0) (dst := a) (cs := vp_cell c0 (n0, .inl f)) (cd := vp_cell c1 (n1, .inl g)) (srcPos := sp) (destPos := dp) (n := n) (by rw [hT]; exact hc0) (by rw [hT]; exact hc1)
    (fun _ h => by cases h) (fun _ h => by cases h) (fun h => by cases h) (fun h => by cases h) hk0 hk1 hkk0 hkk1 (by simp [refKind]) h1 h2 h3
    (by rw [nn sp h1, nn n h3]; show ¬ _ > ((arrV c0 n0 (fun j => .int (f j))).slots.size : Int); rw [arrV_size]; omega)
    (by rw [nn dp h2, nn n h3]; show ¬ _ > ((arrV c1 n1 (fun j => .int (g j))).slots.size : Int); rw [arrV_size]; omega)
    (fun vm₁ _ i hi => by
      have e : (vp_cell c0 (n0, .inl f)).slots.getD (sp.toNatClampNeg + i) .null = .int (f (sp.toNatClampNeg + i)) := by
        show (arrV c0 n0 (fun j => .int (f j))).slots.getD _ _ = _
        rw [Array.getD_eq_getD_getElem?, arrV_read _ _ (by omega)]
        rfl
      refine ⟨?_, ?_⟩
      · rw [e]
        rfl
      · rw [e]
        exact trivial)
    (g := F0 m pc ls (.int n :: .int dp :: .ref a :: .int sp :: .ref a0 :: rest)) rfl (by rw [hml]) (rest := rest) rfl (by rw [hb]; exact hdg) hframes (by show 2 * 0 + _ + _ ≤ _; omega)
  have e1 : copied (vp_cell c0 (n0, .inl f)) (vp_cell c1 (n1, .inl g)) sp dp n = vp_cell c1 (n1, .inl (va_cpy f g sp.toNatClampNeg dp.toNatClampNeg n.toNatClampNeg)) := va_copied (fun z => .int z) c0 c1 f g h4
  rw [e1] at X' step
  have hl : a < H.size := (Array.getElem?_eq_some_iff.mp hc1).1
  have hheap : ((T.setVm vm').setCell a (vp_cell c1 (n1, .inl (va_cpy f g sp.toNatClampNeg dp.toNatClampNeg n.toNatClampNeg)))).heap = H.setIfInBounds a (vp_cell c1 (n1, .inl (va_cpy f g sp.toNatClampNeg dp.toNatClampNeg n.toNatClampNeg))) := by rw [← hT]; rfl
  have oq : ∀ q : Nat, q ≠ a → (H.setIfInBounds a (vp_cell c1 (n1, .inl (va_cpy f g sp.toNatClampNeg dp.toNatClampNeg n.toNatClampNeg))))[q]? = H[q]? := fun q hq => by simp [Array.getElem?_setIfInBounds, Ne.symm hq]
  obtain ⟨t, a1, b1⟩ := kk _ _ (hP.set hD ha1 (show (H.setIfInBounds a _)[a]? = some _ by simp [Array.getElem?_setIfInBounds, hl]) oq) (hD.set ha1) ⟨by simp; exact hS.1, fun q g1 g2 => by
      rw [oq q (fun e => g2 (by rw [e]; exact hZA _ (hD.2 q1 _ ha1)))]
      exact hS.2.1 q g1 g2, fun q hq => by
      rcases List.mem_append.mp hq with h | h
      · exact hS.2.2 q h
      · obtain ⟨z, -, hz⟩ := List.mem_map.mp h
        rw [← hz]
        exact hZA _ (hD.2 q1 _ ha1)⟩ (by simp) oq _ hheap X'
  exact ⟨t, step t a1, b1⟩
end CPL
section OPR
variable {l : Launch} {y : MethodName} {bytes : ByteArray} {maxL mc ms fr lo : Nat} {av : List Value} {γ : gE} {P : Heap → Prop} {A : Nat → Prop}
theorem mu_openR {rt : FieldType} {PO : Nat → Heap → Prop} (hrt : (∃ n, rt = .object n) ∨ ∃ t, rt = .array t) (hy : plainName y.cls = true) (hn : (lg_sl av).length ≤ maxL)
    (body : ∀ (p : Program) (e : Env) (s : State) (m : MethodId) (args : Array Value) (below : List Frame) (meth : Method) (c : Code) (ls : Array Slot) (Q : State → Prop), bs_F p s m args c bytes maxL y.cls → CX γ s → (∀ q, s.heap.size ≤ q → A q) → P s.heap → (∀ (H : Heap) (locs : List Loc) (v : Nat) (pc : Nat) (ls : Array Slot), va_S A s.heap H locs → PO v H → decode bytes pc = .ok (.areturn, 1) → W p l e (bs_rm fr mc ms lo) s m args below meth c H locs mc ms Q (F0 m pc ls [.ref v])) → lv_has ls maxL (lv_args 0 av) → W p l e (bs_rm fr mc ms lo) s m args below meth c s.heap [] 0 0 Q (F0 m 0 ls [])) : MU l y bytes maxL (some rt) fr lo mc ms av γ A P (mQr PO A) := by
  refine Met.ofW (cc := bytes) (maxL := maxL) (ret := some rt) hy rfl ?_
  intro p e s m args below meth c s₁ B hml hv
  obtain ⟨rfl, hC, hA, hP⟩ := hv
  have hts := bs_hts (atoms_spec (ws := Cond.code y bytes maxL (some rt) :: bs_W0) B.pre)
  have hl := lv_entry av (n := maxL) hn
  rw [lg_entry_eq]
  exact body p e s m _ below meth c _ _ ⟨B.exec, B.bytes, hml, findClass_of_methodNamed B.named, hts⟩ hC hA hP (fun H locs v _ _ hS hp hdg => W.aret B.exec B.bytes B.returns hrt (Or.inr ⟨v, rfl⟩) (fun t ht _ => ⟨⟨(), v, rfl, trivial, by show PO v t.heap; rw [ht]; exact hp⟩, hS.F ht⟩) hS.2.2 hdg B.notSynchronized) hl
theorem mu_openFR {rt : FieldType} {PO : Nat → Heap → Prop} (hrt : (∃ n, rt = .object n) ∨ ∃ t, rt = .array t) (hy : plainFor y = true) (hn : (lg_sl av).length ≤ maxL)
    (body : ∀ (p : Program) (e : Env) (s : State) (m : MethodId) (args : Array Value) (below : List Frame) (meth : Method) (c : Code) (ls : Array Slot) (Q : State → Prop), bs_F p s m args c bytes maxL y.cls → CX γ s → (∀ q, s.heap.size ≤ q → A q) → P s.heap → (∀ (H : Heap) (locs : List Loc) (v : Nat) (pc : Nat) (ls : Array Slot), va_S A s.heap H locs → PO v H → decode bytes pc = .ok (.areturn, 1) → W p l e (bs_rm fr mc ms lo) s m args below meth c H locs mc ms Q (F0 m pc ls [.ref v])) → lv_has ls maxL (lv_args 0 av) → W p l e (bs_rm fr mc ms lo) s m args below meth c s.heap [] 0 0 Q (F0 m 0 ls [])) : MU l y bytes maxL (some rt) fr lo mc ms av γ A P (mQr PO A) := by
  refine va_MetF (cc := bytes) (maxL := maxL) (ret := some rt) hy rfl ?_
  intro p e s m args below meth c s₁ B hml hv
  obtain ⟨rfl, hC, hA, hP⟩ := hv
  have hts := bs_hts (atoms_spec (ws := Cond.code y bytes maxL (some rt) :: bs_W0) B.pre)
  have hl := lv_entry av (n := maxL) hn
  rw [lg_entry_eq]
  exact body p e s m _ below meth c _ _ ⟨B.exec, B.bytes, hml, findClass_of_methodNamed B.named, hts⟩ hC hA hP (fun H locs v _ _ hS hp hdg => W.aret B.exec B.bytes B.returns hrt (Or.inr ⟨v, rfl⟩) (fun t ht _ => ⟨⟨(), v, rfl, trivial, by show PO v t.heap; rw [ht]; exact hp⟩, hS.F ht⟩) hS.2.2 hdg B.notSynchronized) hl
end OPR
theorem one_P {D : va_G} {cl : List vw_C} {a : Nat} {cA : ClassId} {x : vp_A} {H : Heap} (h : H[a]? = some (vp_cell cA x)) : va_P D cl [(a, .inl (cA, x))] H := fun k q hq => by
  cases k with
  | zero => cases hq; exact h
  | succ k => cases hq
theorem one_D {A : Nat → Prop} {q0 : Nat × va_E} (h : A q0.1) : va_D A [q0] := by
  refine ⟨fun i j p q h1 h2 _ => ?_, fun k q hq => ?_⟩
  · have h3 : i < 1 := (List.getElem?_eq_some_iff.mp h1).1
    have h4 : j < 1 := (List.getElem?_eq_some_iff.mp h2).1
    omega
  · have h3 : k < 1 := (List.getElem?_eq_some_iff.mp hq).1
    rw [show k = 0 by omega] at hq
    cases hq
    exact h
/-- a world in which one array has grown (or stayed) -/
theorem wr_join {D : va_G} {cl : List vw_C} {Z : Nat → Prop} {ws : va_W} {H H1 : Heap} {i b r : Nat} {e0 : va_E} {cA : ClassId} {x : vp_A} (hP : va_P D cl ws H) (hD : va_D Z ws) (hi : ws[i]? = some (b, e0)) (hk : ∀ q : Nat, q < H.size → H1[q]? = H[q]?) (hc : H1[r]? = some (vp_cell cA x)) (hr : r = b ∨ H.size ≤ r) (hZ : Z r) :
    va_P D cl (ws.set i (r, .inl (cA, x))) H1 ∧ va_D Z (ws.set i (r, .inl (cA, x))) := by
  have hlt : i < ws.length := (List.getElem?_eq_some_iff.mp hi).1
  have at' : ∀ (k : Nat) (q : Nat × va_E), (ws.set i (r, .inl (cA, x)))[k]? = some q → (k = i ∧ q = (r, .inl (cA, x))) ∨ (k ≠ i ∧ ws[k]? = some q) := by
    intro k q hq
    by_cases h : k = i
    · subst h
      rw [List.getElem?_set_self hlt] at hq
      exact Or.inl ⟨rfl, (Option.some.inj hq).symm⟩
    · rw [List.getElem?_set_ne (Ne.symm h)] at hq
      exact Or.inr ⟨h, hq⟩
  refine ⟨fun k q hq => ?_, fun j k p q hp hq hpq => ?_, fun k q hq => ?_⟩
  · rcases at' k q hq with ⟨-, rfl⟩ | ⟨-, h⟩
    · exact hc
    · exact (hP k q h).kept (hk _ (hP k q h).lt)
  · rcases at' j p hp with ⟨h1, h2⟩ | ⟨h1, h2⟩ <;> rcases at' k q hq with ⟨h3, h4⟩ | ⟨h3, h4⟩
    · omega
    · exfalso
      rw [h2] at hpq
      rcases hr with hr | hr
      · exact h3 (hD.1 k i q (b, e0) h4 hi (by rw [← hpq]; exact hr))
      · have := (hP k q h4).lt
        rw [← hpq] at this
        exact absurd this (by simpa using hr)
    · exfalso
      rw [h4] at hpq
      rcases hr with hr | hr
      · exact h1 (hD.1 j i p (b, e0) h2 hi (by rw [hpq]; exact hr))
      · have := (hP j p h2).lt
        rw [hpq] at this
        exact absurd this (by simpa using hr)
    · exact hD.1 j k p q h2 h4 hpq
  · rcases at' k q hq with ⟨-, rfl⟩ | ⟨-, h⟩
    · exact hZ
    · exact hD.2 k q h
theorem sb_cpy0' {α : Type} {f g : Nat → α} {n j : Nat} (h : j < n) : va_cpy f g 0 0 n j = f j := by simp [va_cpy, h]
def wl (n N : Nat) : Nat := if N ≤ n then n else max N (2 * n)
def wc (n N : Nat) : Nat := if N ≤ n then 0 else 1
def wm (n N : Nat) : Nat := if N ≤ n then 0 else max N (2 * n)
theorem wl_ok {n N : Nat} (hn : n ≤ 8192) (hN : N ≤ 4096) : N ≤ wl n N ∧ n ≤ wl n N ∧ wl n N ≤ 8192 := by
  unfold wl
  by_cases h : N ≤ n
  · rw [if_pos h]
    omega
  · rw [if_neg h]
    omega
theorem in_sz {N n : Nat} (h : N < n) (hn : n ≤ 8192) : vp_in (nI N) n := vp_in_nI h (by omega)
theorem roots_eq {rt k : Nat} (h : k ≤ rt) : nI rt + (1 - nI k) = nI (rt + 1 - k) := by
  have h1 : (1 : Int32) = nI 1 := rfl
  rw [← pk_sub (a := rt + 1) (b := k) (by omega), ← nI_add rt 1, h1, Int32.sub_eq_add_neg, Int32.sub_eq_add_neg, Int32.add_assoc]
theorem upd_ok {f : Nat → Int32} {p N : Nat} {x : Int32} (hp : p = N) (hx : ¬ x < 0) (hf : ∀ k, k < N → ¬ f k < 0) : ∀ k, k < N + 1 → ¬ upd f p x k < 0 := by
  intro k hk
  subst hp
  by_cases h : k = p
  · subst h
    rw [pk_us]
    exact hx
  · rw [pk_un h]
    exact hf k (by omega)
theorem st_ok {f : Nat → Int32} {p N sc : Nat} {x : Int32} {g : Nat → Nat} (hp : p = sc) (hx : x = nI N) (q1 : ∀ k, k < sc → f k = nI (g k)) (q2 : ∀ i j, i ≤ j → j < sc → g i ≤ g j) (q3 : ∀ k, k < sc → g k ≤ N) :
    ∃ g : Nat → Nat, (∀ k, k < sc + 1 → upd f p x k = nI (g k)) ∧ (∀ i j, i ≤ j → j < sc + 1 → g i ≤ g j) ∧ ∀ k, k < sc + 1 → g k ≤ N := by
  subst hp
  refine ⟨fun k => if k = p then N else g k, fun k hk => ?_, fun i j hij hj => ?_, fun k hk => ?_⟩
  · by_cases h : k = p
    · subst h
      rw [pk_us]
      show x = nI (if k = k then N else g k)
      rw [if_pos rfl]
      exact hx
    · rw [pk_un h]
      show f k = nI (if k = p then N else g k)
      rw [if_neg h]
      exact q1 k (by omega)
  · show (if i = p then N else g i) ≤ (if j = p then N else g j)
    by_cases h : j = p
    · rw [if_pos h]
      by_cases h2 : i = p
      · rw [if_pos h2]
        exact Nat.le_refl _
      · rw [if_neg h2]
        exact q3 i (by omega)
    · rw [if_neg h, if_neg (by omega)]
      exact q2 i j hij (by omega)
  · show (if k = p then N else g k) ≤ N
    by_cases h : k = p
    · rw [if_pos h]
      exact Nat.le_refl _
    · rw [if_neg h]
      exact q3 k (by omega)
def ku (κ : Nat → Nat) (i v : Nat) : Nat → Nat := fun j => if j = i then v else κ j
def fz (Z : Nat → Prop) (Hb H : Heap) : Prop := Hb.size ≤ H.size ∧ ∀ q : Nat, q < Hb.size → ¬ Z q → H[q]? = Hb[q]?
theorem fz.rf (Z : Nat → Prop) {D : va_G} {cl : List vw_C} {ws : va_W} {H : Heap} (_ : va_P D cl ws H) : fz Z H H := ⟨Nat.le_refl _, fun _ _ _ => rfl⟩
theorem fz.step {Z : Nat → Prop} {Hb H H1 : Heap} (h : fz Z Hb H) (hz : H.size ≤ H1.size) (hk : ∀ q : Nat, q < H.size → ¬ Z q → H1[q]? = H[q]?) : fz Z Hb H1 := ⟨Nat.le_trans h.1 hz, fun q h1 h2 => (hk q (Nat.lt_of_lt_of_le h1 h.1) h2).trans (h.2 q h1 h2)⟩
theorem fz.put {Z : Nat → Prop} {Hb H H1 : Heap} {a : Nat} (h : fz Z Hb H) (hz : H1.size = H.size) (ho : ∀ q, q ≠ a → H1[q]? = H[q]?) (ha : Z a) : fz Z Hb H1 := h.step (Nat.le_of_eq hz.symm) (fun q _ h2 => ho q (fun e => h2 (by rw [e]; exact ha)))
theorem dn_lt {k v : Int32} {N : Nat} (hk : -2147483648 < k.toInt) (ev : v = k + (-1)) (h : k.toInt < (N : Int)) : v.toInt < (N : Int) := by
  rw [ev, mu_dn hk]
  omega
theorem rows_len {N : Nat} (h1 : 16 ≤ N) (h2 : N ≤ 8192) : (if nI N < 1 then 1 else nI N) * 4 = nI (4 * N) := by
  have h : ¬ nI N < 1 := nI_nlt (a := N) (b := 1) (by omega) (by omega)
  rw [if_neg h, Nat.mul_comm 4 N]
  exact pk_mul N 4
