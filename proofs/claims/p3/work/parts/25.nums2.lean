-- NUMBERS, more
theorem lt_nge {x y : Int32} (h : x < y) : ¬ y ≤ x := Int32.not_le.mpr h
theorem mu_dn {k : Int32} (h : -2147483648 < k.toInt) : (k + (-1)).toInt = k.toInt - 1 := by
  have h1 : k.toInt ≤ 2147483647 := by have h9 := Int32.toInt_le k; rw [show Int32.maxValue.toInt = 2147483647 by decide] at h9; exact h9
  rw [Int32.toInt_add]
  have h3 : (-1 : Int32).toInt = -1 := by decide
  rw [h3]
  exact Int.bmod_eq_of_le (by omega) (by omega)
theorem mu_le {k r : Int32} (h : ¬ r < k) (hr : r.toInt < 2147483647) : k.toInt < 2147483647 := by
  rw [Int32.lt_iff_toInt_lt] at h
  omega
theorem md_ge {k r : Int32} (h : ¬ k < r) (hr : ¬ r < 0) : ¬ k < 0 := by
  rw [Int32.lt_iff_toInt_lt] at *
  have h0 : (0 : Int32).toInt = 0 := by decide
  omega
theorem md_int {k : Int32} (h : ¬ k < 0) : -2147483648 < k.toInt := by
  rw [Int32.lt_iff_toInt_lt] at h
  have h0 : (0 : Int32).toInt = 0 := by decide
  omega
theorem in_cmp2 {x v : Int32} {n : Nat} (h0 : ¬ x < 0) (ev : v = nI n) (h1 : ¬ v ≤ x) (hn : n < 2 ^ 31) : vp_in x n := by
  subst ev
  exact in_cmp h0 h1 hn
theorem inv_15 {γ : gE} {A : Nat → Prop} {κ : Nat → Nat} {H : Heap} (hI : INV γ A κ H) : κ 15 < 2 ^ 31 := by
  obtain ⟨Z, ws, ⟨b0, f0, vf, va, rfl, h1, h2⟩, hP, hD⟩ := inv_c hI 1 (by decide) (by decide)
  omega
-- the array of hidden nodes
section HID
variable {p : Program} {l : Launch} {e : Env} {R : Room} {s : State} {m : MethodId} {args : Array Value} {below : List Frame} {meth : Method} {c : Code} {H : Heap} {locs : List Loc} {cells slots : Nat} {Q : State → Prop}
variable {cc : ByteArray} {pc : Nat} {ls : Array Slot} {rest : List Value} {A Z : Nat → Prop} {b : Nat} {H0 : Heap} {nL index : Nat} {own : String} {γ : gE} {κ : Nat → Nat}
/-- a cell's field is one thing -/
theorem of_inj {a ci j : Nat} {v w : Value} {C : String} {T : u_T} {N : Nat} (hc : vwCl[ci]? = some (C, T, N)) (hj : j < N) (h1 : OF γ H a ci j v) (h2 : OF γ H a ci j w) : v = w := by
  obtain ⟨f1, p1, e1⟩ := h1
  obtain ⟨f2, p2, e2⟩ := h2
  obtain ⟨r1, c1, x1, y1, -, -, z1⟩ := p1 0 _ rfl
  obtain ⟨r2, c2, x2, y2, -, -, z2⟩ := p2 0 _ rfl
  cases Option.some.inj (c1.symm.trans hc)
  cases Option.some.inj (c2.symm.trans hc)
  cases Option.some.inj (y1.symm.trans y2)
  have h3 := (z1 j hj).symm.trans (z2 j hj)
  simpa [vp_V, e1, e2] using h3
theorem of_8_6 (hI : INV γ A κ H) : ∃ b : Nat, OF γ H (γ.2.2.2 8) 7 6 (.ref b) := by
  obtain ⟨Z, ws, ⟨b0, f0, vf, va, rfl, h1, h2⟩, hP, hD⟩ := inv_c hI 1 (by decide) (by decide)
  exact ⟨b0, _, fun k q hq => hP 1 q (by cases k with | zero => exact hq | succ k => cases hq), rfl⟩
theorem iv_hlen (S : bs_F p s m args c cc nL own) (hC : CX γ s) (hI : INV γ A κ H) (hO : OF γ H (γ.2.2.2 8) 7 6 (.ref b)) (hdg : decode cc pc = .ok (.arraylength, 1))
    (kk : W p l e R s m args below meth c H locs cells slots Q (F0 m (pc + 1) ls (.int (nI (κ 15)) :: rest))) : W p l e R s m args below meth c H locs cells slots Q (F0 m pc ls (.ref b :: rest)) := by
  obtain ⟨Z, ws, ⟨b0, f0, vf, va, rfl, h1, h2⟩, hP, hD⟩ := inv_c hI 1 (by decide) (by decide)
  have hO2 : OF γ H (γ.2.2.2 8) 7 6 (.ref b0) := ⟨_, fun k q hq => hP 1 q (by cases k with | zero => exact hq | succ k => cases hq), rfl⟩
  cases of_inj rfl (by decide) hO hO2
  exact va_alen S.1 S.2.1 hC.1 hP 4 0 rfl rfl rfl hdg kk
theorem iv_hid (S : bs_F p s m args c cc nL own) (hC : CX γ s) (hI : INV γ A κ H) (hA : ∀ q, H.size ≤ q → A q) (hS : va_S A H0 H locs) (hO : OF γ H (γ.2.2.2 8) 7 6 (.ref b)) {i x : Int32} (hin : vp_in i (κ 15)) (hdg : decode cc pc = .ok (.iastore, 1))
    (kk : ∀ (H1 : Heap) (locs1 : List Loc), INV γ A κ H1 → va_S A H0 H1 locs1 → W p l e R s m args below meth c H1 locs1 cells slots Q (F0 m (pc + 1) ls rest)) : W p l e R s m args below meth c H locs cells slots Q (F0 m pc ls (.int x :: .int i :: .ref b :: rest)) := by
  obtain ⟨Z, ⟨ws, ⟨b0, f0, vf, va, rfl, h1, h2⟩, hP, hD⟩, hZn, hZA, hback⟩ := inv_lift hI hA 1 (by decide) (by decide)
  have hO2 : OF γ H (γ.2.2.2 8) 7 6 (.ref b0) := ⟨_, fun k q hq => hP 1 q (by cases k with | zero => exact hq | succ k => cases hq), rfl⟩
  cases of_inj rfl (by decide) hO hO2
  refine st_iast S.1 S.2.1 hC.1 hP hD hZA hS 4 0 rfl rfl hin hdg (fun H1 locs1 hP1 hD1 hS1 hz ho => ?_)
  exact kk H1 locs1 (hback κ H1 (fun _ _ _ _ => rfl) ⟨_, ⟨b, _, vf, va, rfl, h1, h2⟩, hP1, hD1⟩ (Nat.le_of_eq hz.symm) (fun q _ hq => ho q (fun e9 => hq (by rw [e9]; exact hD.2 4 _ rfl)))) hS1
theorem of_4_2 (hI : INV γ A κ H) : ∃ b : Nat, OF γ H (γ.2.2.2 4) 4 2 (.ref b) := by
  obtain ⟨Z, ws, ⟨b0, b1, b2, f0, f1, f2, rfl, h1, h2, h3⟩, hP, hD⟩ := inv_c hI 5 (by decide) (by decide)
  exact ⟨b2, _, fun k q hq => hP 0 q (by cases k with | zero => exact hq | succ k => cases hq), rfl⟩
theorem iv_onum (S : bs_F p s m args c cc nL own) (hC : CX γ s) (hI : INV γ A κ H) (hA : ∀ q, H.size ≤ q → A q) (hS : va_S A H0 H locs) (hO : OF γ H (γ.2.2.2 4) 4 2 (.ref b)) {i x r : Int32} (hr : r = 0 ∨ ∃ j, j < κ 5 ∧ i = nI j) (hc : ¬ r = 0) (hdg : decode cc pc = .ok (.iastore, 1))
    (kk : ∀ (H1 : Heap) (locs1 : List Loc), INV γ A κ H1 → va_S A H0 H1 locs1 → W p l e R s m args below meth c H1 locs1 cells slots Q (F0 m (pc + 1) ls rest)) : W p l e R s m args below meth c H locs cells slots Q (F0 m pc ls (.int x :: .int i :: .ref b :: rest)) := by
  obtain ⟨Z, ⟨ws, ⟨b0, b1, b2, f0, f1, f2, rfl, h1, h2, h3⟩, hP, hD⟩, hZn, hZA, hback⟩ := inv_lift hI hA 5 (by decide) (by decide)
  have hO2 : OF γ H (γ.2.2.2 4) 4 2 (.ref b2) := ⟨_, fun k q hq => hP 0 q (by cases k with | zero => exact hq | succ k => cases hq), rfl⟩
  cases of_inj rfl (by decide) hO hO2
  refine st_iast S.1 S.2.1 hC.1 hP hD hZA hS 3 0 rfl rfl (in_has hr hc h1 (by omega)) hdg (fun H1 locs1 hP1 hD1 hS1 hz ho => ?_)
  exact kk H1 locs1 (hback κ H1 (fun _ _ _ _ => rfl) ⟨_, ⟨b0, b1, b, f0, f1, _, rfl, h1, h2, h3⟩, hP1, hD1⟩ (Nat.le_of_eq hz.symm) (fun q _ hq => ho q (fun e9 => hq (by rw [e9]; exact hD.2 3 _ rfl)))) hS1
end HID
section CPL
variable {p : Program} {l : Launch} {e : Env} {R : Room} {s : State} {m : MethodId} {args : Array Value} {below : List Frame} {meth : Method} {c : Code} {H : Heap} {locs : List Loc} {cells slots : Nat} {Q : State → Prop}
variable {pc : Nat} {ls : Array Slot} {rest : List Value} {D : va_G} {cl : List vw_C} {A Z : Nat → Prop} {a : Nat} {tys : List (ClassId × FieldType)} {ws : va_W} {H0 : Heap}
theorem st_copyl {cc : ByteArray} (hexec : p.tables.exec = Jvm.exec) (hb : c.code = cc) (hml : c.maxLocals = ls.size) {own : String} {index : Nat} (hown : s.vm.findClass own = some m.cls) (hlink : (Cond.methodLink own index arraycopyName).before args s = true) (hnat : (Cond.native arraycopyName).before args s = true) (hstat : (Cond.static arraycopyName).before args s = true) (hini : (Cond.initialized "java/lang/System").before args s = true)
    (hK : va_K D cl tys s) (hP : va_P D cl ws H) (hD : va_D Z ws) (hZA : ∀ q, Z q → A q) (hS : va_S A H0 H locs) (q1 t0 t1 : Nat) {a0 : Nat} {c0 c1 : ClassId} {n0 n1 : Nat} {f g : Nat → Int64} (hc0 : H[a0]? = some (vp_cell c0 (n0, .inr (.inl f)))) (ha1 : ws[q1]? = some (a, .inl (c1, n1, .inr (.inl g)))) (ht0 : tys[t0]? = some (c0, .long)) (ht1 : tys[t1]? = some (c1, .long))
    {sp dp n : Int32} (h1 : ¬ sp < 0) (h2 : ¬ dp < 0) (h3 : ¬ n < 0) (h4 : sp.toNatClampNeg + n.toNatClampNeg ≤ n0) (h5 : dp.toNatClampNeg + n.toNatClampNeg ≤ n1)
    (hframes : 1 ≤ R.frames) (hlocals : (rest.map fun v => v.category).sum + (nativeFrameWords "java/lang/System" "arraycopy" 5 + 11) ≤ R.locals) (hdg : decode cc pc = .ok (.invokestatic index, 3))
    (kk : ∀ (H1 : Heap) (locs1 : List Loc), va_P D cl (ws.set q1 (a, .inl (c1, n1, .inr (.inl (va_cpy f g sp.toNatClampNeg dp.toNatClampNeg n.toNatClampNeg))))) H1 → va_D Z (ws.set q1 (a, .inl (c1, n1, .inr (.inl (va_cpy f g sp.toNatClampNeg dp.toNatClampNeg n.toNatClampNeg))))) → va_S A H0 H1 locs1 → H1.size = H.size → (∀ q : Nat, q ≠ a → H1[q]? = H[q]?) → W p l e R s m args below meth c H1 locs1 cells slots Q (F0 m (pc + 3) ls rest)) : W p l e R s m args below meth c H locs cells slots Q (F0 m pc ls (.int n :: .int dp :: .ref a :: .int sp :: .ref a0 :: rest)) := by
  have nn : ∀ z : Int32, ¬ z < 0 → z.toInt = (z.toNatClampNeg : Int) := by
    intro z hz
    have hz0 : (0 : Int) ≤ z.toInt := by
      have := Int32.not_lt.mp hz
      simpa using Int32.le_iff_toInt_le.mp this
    show z.toInt = ((z.toInt.toNat : Nat) : Int)
    omega
  intro T hT X
  have hc1 : H[a]? = some (vp_cell c1 (n1, .inr (.inl g))) := hP q1 _ ha1
  obtain ⟨-, k0, hk0, cm0, hkk0⟩ := (hK.2 t0 _ ht0).1 n0 (fun j => .long (f j))
  obtain ⟨-, k1, hk1, cm1, hkk1⟩ := (hK.2 t1 _ ht1).1 n1 (fun j => .long (g j))
  obtain ⟨vm', X', step⟩ := X.arraycopy hexec hown hlink hnat hstat hini (src := a0) (dst := a) (cs := vp_cell c0 (n0, .inr (.inl f))) (cd := vp_cell c1 (n1, .inr (.inl g))) (srcPos := sp) (destPos := dp) (n := n) (by rw [hT]; exact hc0) (by rw [hT]; exact hc1)
    (fun _ h => by cases h) (fun _ h => by cases h) (fun h => by cases h) (fun h => by cases h) hk0 hk1 hkk0 hkk1 (by simp [refKind]) h1 h2 h3
    (by rw [nn sp h1, nn n h3]; show ¬ _ > ((arrV c0 n0 (fun j => .long (f j))).slots.size : Int); rw [arrV_size]; omega)
    (by rw [nn dp h2, nn n h3]; show ¬ _ > ((arrV c1 n1 (fun j => .long (g j))).slots.size : Int); rw [arrV_size]; omega)
    (fun vm₁ _ i hi => by
      have e : (vp_cell c0 (n0, .inr (.inl f))).slots.getD (sp.toNatClampNeg + i) .null = .long (f (sp.toNatClampNeg + i)) := by
        show (arrV c0 n0 (fun j => .long (f j))).slots.getD _ _ = _
        rw [Array.getD_eq_getD_getElem?, arrV_read _ _ (by omega)]
        rfl
      refine ⟨?_, ?_⟩
      · rw [e]
        rfl
      · rw [e]
        exact trivial)
    (g := F0 m pc ls (.int n :: .int dp :: .ref a :: .int sp :: .ref a0 :: rest)) rfl (by rw [hml]) (rest := rest) rfl (by rw [hb]; exact hdg) hframes (by show 2 * 0 + _ + _ ≤ _; omega)
  have e1 : copied (vp_cell c0 (n0, .inr (.inl f))) (vp_cell c1 (n1, .inr (.inl g))) sp dp n = vp_cell c1 (n1, .inr (.inl (va_cpy f g sp.toNatClampNeg dp.toNatClampNeg n.toNatClampNeg))) := va_copied (fun z => .long z) c0 c1 f g h4
  rw [e1] at X' step
  have hl : a < H.size := (Array.getElem?_eq_some_iff.mp hc1).1
  have hheap : ((T.setVm vm').setCell a (vp_cell c1 (n1, .inr (.inl (va_cpy f g sp.toNatClampNeg dp.toNatClampNeg n.toNatClampNeg))))).heap = H.setIfInBounds a (vp_cell c1 (n1, .inr (.inl (va_cpy f g sp.toNatClampNeg dp.toNatClampNeg n.toNatClampNeg)))) := by rw [← hT]; rfl
  have oq : ∀ q : Nat, q ≠ a → (H.setIfInBounds a (vp_cell c1 (n1, .inr (.inl (va_cpy f g sp.toNatClampNeg dp.toNatClampNeg n.toNatClampNeg)))))[q]? = H[q]? := fun q hq => by simp [Array.getElem?_setIfInBounds, Ne.symm hq]
  obtain ⟨t, a1, b1⟩ := kk _ _ (hP.set hD ha1 (show (H.setIfInBounds a _)[a]? = some _ by simp [Array.getElem?_setIfInBounds, hl]) oq) (hD.set ha1) ⟨by simp; exact hS.1, fun q g1 g2 => by
      rw [oq q (fun e => g2 (by rw [e]; exact hZA _ (hD.2 q1 _ ha1)))]
      exact hS.2.1 q g1 g2, fun q hq => by
      rcases List.mem_append.mp hq with h | h
      · exact hS.2.2 q h
      · obtain ⟨z, -, hz⟩ := List.mem_map.mp h
        rw [← hz]
        exact hZA _ (hD.2 q1 _ ha1)⟩ (by simp) oq _ hheap X'
  exact ⟨t, step t a1, b1⟩
end CPL
theorem row4 {r x : Int32} {M : Nat} (hr : r = 0 ∨ ∃ j, j < M ∧ x = nI j) (hc : ¬ r = 0) (hM : M ≤ 8192) : ¬ x * 4 < 0 ∧ (x * 4).toNatClampNeg + 4 ≤ 4 * M := by
  rcases hr with h0 | ⟨j, hj, rfl⟩
  · exact absurd h0 hc
  · have e1 : nI j * 4 = nI (j * 4) := pk_mul j 4
    rw [e1, nI_clamp (by omega)]
    exact ⟨nI_pos (by omega), by omega⟩
