-- COMPONENTS: which cells a part of the book has, in a region Z; INV: all parts, in regions that are apart
def cmp (γ : gE) (F : va_W → Prop) (Z : Nat → Prop) (H : Heap) : Prop := ∃ ws : va_W, F ws ∧ va_P γ.1 vwCl ws H ∧ va_D Z ws
theorem cmp_kept {γ : gE} {F : va_W → Prop} {Z Z1 : Nat → Prop} {H H1 : Heap} (h : cmp γ F Z H) (hk : ∀ q, Z q → q < H.size → H1[q]? = H[q]?) (hZ : ∀ q, Z q → q < H.size → Z1 q) : cmp γ F Z1 H1 := by
  obtain ⟨ws, hF, hP, hD⟩ := h
  exact ⟨ws, hF, fun k q hq => (hP k q hq).kept (hk q.1 (hD.2 k q hq) (hP k q hq).lt), hD.1, fun k q hq => hZ _ (hD.2 k q hq) (hP k q hq).lt⟩
def wsTrees (γ : gE) (a N r L b0 b1 b2 b3 : Nat) (f0 f1 f2 f3 : Nat → Int32) : va_W := [(a, .inr (1, [.ref b0, .ref b1, .ref b2, .ref b3, .int (nI N), .int (nI r)])), (b0, .inl (γ.2.1, L, .inl f0)), (b1, .inl (γ.2.1, L, .inl f1)), (b2, .inl (γ.2.1, L, .inl f2)), (b3, .inl (γ.2.1, L, .inl f3))]
def fTrees (γ : gE) (a N r L : Nat) (ws : va_W) : Prop := ∃ (b0 b1 b2 b3 : Nat) (f0 f1 f2 f3 : Nat → Int32), ws = wsTrees γ a N r L b0 b1 b2 b3 f0 f1 f2 f3 ∧ N ≤ L ∧ L ≤ 8192 ∧ 64 ≤ L ∧ r ≤ N ∧ (∀ k, k < N → ¬ f3 k < 0) ∧ ∀ k, k < N → ∃ j, j ≤ 4096 ∧ f2 k = nI j
def wsNames (γ : gE) (a N sc L b0 b1 b2 b3 b4 b5 b6 : Nat) (f0 f1 f2 f3 f4 f5 f6 : Nat → Int32) : va_W := [(a, .inr (2, [.ref b0, .ref b1, .ref b2, .ref b3, .ref b4, .ref b5, .ref b6, .int (nI N), .int (nI sc)])), (b0, .inl (γ.2.1, L, .inl f0)), (b1, .inl (γ.2.1, L, .inl f1)), (b2, .inl (γ.2.1, L, .inl f2)), (b3, .inl (γ.2.1, L, .inl f3)), (b4, .inl (γ.2.1, L, .inl f4)), (b5, .inl (γ.2.1, 256, .inl f5)), (b6, .inl (γ.2.1, 32, .inl f6))]
def fNames (γ : gE) (a N sc L : Nat) (ws : va_W) : Prop := ∃ (b0 b1 b2 b3 b4 b5 b6 : Nat) (f0 f1 f2 f3 f4 f5 f6 : Nat → Int32), ws = wsNames γ a N sc L b0 b1 b2 b3 b4 b5 b6 f0 f1 f2 f3 f4 f5 f6 ∧ N ≤ L ∧ L ≤ 8192 ∧ 64 ≤ L ∧ 1 ≤ sc ∧ sc ≤ 32 ∧ ∃ g : Nat → Nat, (∀ k, k < sc → f6 k = nI (g k)) ∧ (∀ i j, i ≤ j → j < sc → g i ≤ g j) ∧ ∀ k, k < sc → g k ≤ N
def fNamesX (γ : gE) (a N sc L : Nat) (x : Int32) (ws : va_W) : Prop := ∃ (b0 b1 b2 b3 b4 b5 b6 : Nat) (f0 f1 f2 f3 f4 f5 f6 : Nat → Int32), ws = wsNames γ a N sc L b0 b1 b2 b3 b4 b5 b6 f0 f1 f2 f3 f4 f5 f6 ∧ N ≤ L ∧ L ≤ 8192 ∧ 64 ≤ L ∧ 1 ≤ sc ∧ sc ≤ 32 ∧ ∃ (g : Nat → Nat) (G : Nat), x = nI G ∧ G ≤ N ∧ (∀ k, k < sc → f6 k = nI (g k)) ∧ (∀ i j, i ≤ j → j < sc → g i ≤ g j) ∧ ∀ k, k < sc → g k ≤ G
def wsTypes (γ : gE) (a N L b0 b1 b2 b3 : Nat) (f0 f1 f2 f3 : Nat → Int32) : va_W := [(a, .inr (3, [.ref b0, .ref b1, .ref b2, .ref b3, .int (nI N)])), (b0, .inl (γ.2.1, L, .inl f0)), (b1, .inl (γ.2.1, L, .inl f1)), (b2, .inl (γ.2.1, L, .inl f2)), (b3, .inl (γ.2.1, L, .inl f3))]
def fTypes (γ : gE) (a N L : Nat) (ws : va_W) : Prop := ∃ (b0 b1 b2 b3 : Nat) (f0 f1 f2 f3 : Nat → Int32), ws = wsTypes γ a N L b0 b1 b2 b3 f0 f1 f2 f3 ∧ N ≤ L ∧ L ≤ 8192 ∧ 16 ≤ L
def wsObjects (γ : gE) (a rw N L b0 b1 b2 : Nat) (f0 f1 f2 : Nat → Int32) : va_W := [(a, .inr (4, [.ref b0, .ref b1, .ref b2, .ref rw, .int (nI N)])), (b0, .inl (γ.2.1, L, .inl f0)), (b1, .inl (γ.2.1, L, .inl f1)), (b2, .inl (γ.2.1, L, .inl f2))]
def fObjects (γ : gE) (a rw N L : Nat) (ws : va_W) : Prop := ∃ (b0 b1 b2 : Nat) (f0 f1 f2 : Nat → Int32), ws = wsObjects γ a rw N L b0 b1 b2 f0 f1 f2 ∧ N ≤ L ∧ L ≤ 8192 ∧ 16 ≤ L
def wsLooks (γ : gE) (a rw L b0 b1 b2 b3 b4 : Nat) (f0 f1 f2 f3 f4 : Nat → Int32) : va_W := [(a, .inr (6, [.ref b0, .ref b1, .ref b2, .ref b3, .ref b4, .ref rw])), (b0, .inl (γ.2.1, L, .inl f0)), (b1, .inl (γ.2.1, L, .inl f1)), (b2, .inl (γ.2.1, L, .inl f2)), (b3, .inl (γ.2.1, L, .inl f3)), (b4, .inl (γ.2.1, L, .inl f4))]
def fLooks (γ : gE) (a rw L : Nat) (ws : va_W) : Prop := ∃ (b0 b1 b2 b3 b4 : Nat) (f0 f1 f2 f3 f4 : Nat → Int32), ws = wsLooks γ a rw L b0 b1 b2 b3 b4 f0 f1 f2 f3 f4 ∧ L ≤ 8192 ∧ 64 ≤ L
def wsRows (γ : gE) (a M b0 : Nat) (g0 : Nat → Int64) : va_W := [(a, .inr (5, [.ref b0])), (b0, .inl (γ.2.2.1, 4 * M, .inr (.inl g0)))]
def fRows (γ : gE) (a M : Nat) (ws : va_W) : Prop := ∃ (b0 : Nat) (g0 : Nat → Int64), ws = wsRows γ a M b0 g0 ∧ M ≤ 8192 ∧ 16 ≤ M
def wsSkel (γ : gE) (o : Nat → Nat) (L b0 : Nat) (f0 : Nat → Int32) (vf va : Int32) : va_W := [(o 0, .inr (0, [.ref (o 1), .ref (o 2), .ref (o 3), .ref (o 4), .ref (o 6), .ref (o 8), .int vf])), (o 8, .inr (7, [.ref (o 1), .ref (o 2), .ref (o 3), .ref (o 9), .ref (o 11), .ref (o 12), .ref b0, .int va])), (o 11, .inr (8, [.ref (o 9)])), (o 12, .inr (9, [.ref (o 1), .ref (o 2), .ref (o 3), .ref (o 4), .ref (o 9)])), (b0, .inl (γ.2.1, L, .inl f0))]
def fSkel (γ : gE) (o : Nat → Nat) (L : Nat) (ws : va_W) : Prop := ∃ (b0 : Nat) (f0 : Nat → Int32) (vf va : Int32), ws = wsSkel γ o L b0 f0 vf va ∧ L ≤ 8192 ∧ 64 ≤ L
def FF (γ : gE) (κ : Nat → Nat) : Nat → va_W → Prop
  | 1 => fSkel γ γ.2.2.2 (κ 15)
  | 2 => fTrees γ (γ.2.2.2 1) (κ 0) (κ 1) (κ 11)
  | 3 => fNames γ (γ.2.2.2 2) (κ 2) (κ 3) (κ 12)
  | 4 => fTypes γ (γ.2.2.2 3) (κ 4) (κ 13)
  | 5 => fObjects γ (γ.2.2.2 4) (γ.2.2.2 5) (κ 5) (κ 14)
  | 6 => fRows γ (γ.2.2.2 5) (κ 8)
  | 7 => fLooks γ (γ.2.2.2 6) (γ.2.2.2 7) (κ 6)
  | 8 => fRows γ (γ.2.2.2 7) (κ 9)
  | 9 => fLooks γ (γ.2.2.2 9) (γ.2.2.2 10) (κ 7)
  | 10 => fRows γ (γ.2.2.2 10) (κ 10)
  | _ => fun _ => True
/-- κ: 0 trees' size, 1 roots, 2 names' size, 3 scopes, 4 types' size, 5 objects' size; lengths: 6 known, 7 seen, 8 9 10 rows of objects, known, seen, 11 trees, 12 names, 13 types, 14 objects, 15 hidden -/
def INV (γ : gE) (A : Nat → Prop) (κ : Nat → Nat) (H : Heap) : Prop := ∃ ρ : Nat → Nat, (∀ q, ρ q ≠ 0 → A q) ∧ ∀ i, 1 ≤ i → i ≤ 10 → cmp γ (FF γ κ i) (fun q => ρ q = i) H
theorem inv_c {γ : gE} {A : Nat → Prop} {κ : Nat → Nat} {H : Heap} (hI : INV γ A κ H) (i : Nat) (h1 : 1 ≤ i) (h2 : i ≤ 10) : ∃ Z, cmp γ (FF γ κ i) Z H := by
  obtain ⟨ρ, -, hc⟩ := hI
  exact ⟨_, hc i h1 h2⟩
theorem inv_lift {γ : gE} {A : Nat → Prop} {κ : Nat → Nat} {H : Heap} (hI : INV γ A κ H) (hA : ∀ q, H.size ≤ q → A q) (i : Nat) (h1 : 1 ≤ i) (h2 : i ≤ 10) : ∃ Z : Nat → Prop, cmp γ (FF γ κ i) Z H ∧ (∀ q, H.size ≤ q → Z q) ∧ (∀ q, Z q → A q) ∧
    ∀ (κ' : Nat → Nat) (H1 : Heap), (∀ j, j ≠ i → 1 ≤ j → j ≤ 10 → FF γ κ' j = FF γ κ j) → cmp γ (FF γ κ' i) Z H1 → H.size ≤ H1.size → (∀ q : Nat, q < H.size → ¬ Z q → H1[q]? = H[q]?) → INV γ A κ' H1 := by
  obtain ⟨ρ, hρ, hc⟩ := hI
  refine ⟨fun q => ρ q = i ∨ H.size ≤ q, cmp_kept (hc i h1 h2) (fun _ _ _ => rfl) (fun q h _ => Or.inl h), fun q h => Or.inr h, fun q h => ?_, fun κ' H1 hj hi hz hk => ?_⟩
  · rcases h with h | h
    · exact hρ q (by omega)
    · exact hA q h
  · refine ⟨fun q => if H.size ≤ q then i else ρ q, fun q h => ?_, fun j hj1 hj2 => ?_⟩
    · by_cases hq : H.size ≤ q
      · exact hA q hq
      · exact hρ q (by simpa [hq] using h)
    · by_cases hji : j = i
      · subst hji
        refine cmp_kept hi (fun _ _ _ => rfl) (fun q h _ => ?_)
        by_cases hq : H.size ≤ q
        · simp [hq]
        · rcases h with h | h
          · simpa [hq] using h
          · exact absurd h hq
      · rw [hj j hji hj1 hj2]
        refine cmp_kept (hc j hj1 hj2) (fun q hq hl => hk q hl ?_) (fun q hq hl => ?_)
        · rintro (h | h)
          · exact hji (hq.symm.trans h)
          · omega
        · have : ¬ H.size ≤ q := by omega
          simpa [this] using hq
/-- a contract over one component, said of the whole -/
theorem pu_up {l : Launch} {y : MethodName} {bytes : ByteArray} {maxL fr lo : Nat} {ret : Option FieldType} {av : List Value} {γ : gE} {A : Nat → Prop} {κ : Nat → Nat} {Qc : Array Value → State → Outcome → State → Prop} (i : Nat) (h1 : 1 ≤ i) (h2 : i ≤ 10)
    (hM : ∀ Z, PU l y bytes maxL ret fr lo av γ (cmp γ (FF γ κ i) Z) Qc) : PU l y bytes maxL ret fr lo av γ (INV γ A κ) Qc :=
  met_x hM (fun a U h => by
    obtain ⟨ha, hC, hI⟩ := h
    obtain ⟨Z, hc⟩ := inv_c hI i h1 h2
    exact ⟨Z, ⟨ha, hC, hc⟩, fun _ _ h => h, fun _ h => h⟩)
theorem mu_upv {l : Launch} {y : MethodName} {bytes : ByteArray} {maxL fr lo mc ms : Nat} {ret : Option FieldType} {av : List Value} {γ : gE} {A : Nat → Prop} {κ κ' : Nat → Nat} (i : Nat) (h1 : 1 ≤ i) (h2 : i ≤ 10) (hj : ∀ j, j ≠ i → 1 ≤ j → j ≤ 10 → FF γ κ' j = FF γ κ j)
    (hM : ∀ Z, MU l y bytes maxL ret fr lo mc ms av γ Z (cmp γ (FF γ κ i) Z) (mQv (cmp γ (FF γ κ' i) Z) Z)) : MU l y bytes maxL ret fr lo mc ms av γ A (INV γ A κ) (mQv (INV γ A κ') A) :=
  met_x hM (fun a U h => by
    obtain ⟨ha, hC, hA, hI⟩ := h
    obtain ⟨Z, hc, hZn, hZA, hback⟩ := inv_lift hI hA i h1 h2
    refine ⟨Z, ⟨ha, hC, hZn, hc⟩, fun o t h => ?_, hZA⟩
    obtain ⟨⟨u, e1, e2, e3⟩, hz, hk⟩ := h
    exact ⟨⟨u, e1, e2, hback κ' _ hj e3 hz hk⟩, hz, fun q h3 h4 => hk q h3 (fun h5 => h4 (hZA q h5))⟩)
theorem mu_upi {l : Launch} {y : MethodName} {bytes : ByteArray} {maxL fr lo mc ms : Nat} {ret : Option FieldType} {av : List Value} {γ : gE} {A : Nat → Prop} {κ κ' : Nat → Nat} {T : Int32 → Prop} (i : Nat) (h1 : 1 ≤ i) (h2 : i ≤ 10) (hj : ∀ j, j ≠ i → 1 ≤ j → j ≤ 10 → FF γ κ' j = FF γ κ j)
    (hM : ∀ Z, MU l y bytes maxL ret fr lo mc ms av γ Z (cmp γ (FF γ κ i) Z) (mQi (fun r H => T r ∧ cmp γ (FF γ κ' i) Z H) Z)) : MU l y bytes maxL ret fr lo mc ms av γ A (INV γ A κ) (mQi (fun r H => T r ∧ INV γ A κ' H) A) :=
  met_x hM (fun a U h => by
    obtain ⟨ha, hC, hA, hI⟩ := h
    obtain ⟨Z, hc, hZn, hZA, hback⟩ := inv_lift hI hA i h1 h2
    refine ⟨Z, ⟨ha, hC, hZn, hc⟩, fun o t h => ?_, hZA⟩
    obtain ⟨⟨r, u, e1, e2, e3, e4⟩, hz, hk⟩ := h
    exact ⟨⟨r, u, e1, e2, e3, hback κ' _ hj e4 hz hk⟩, hz, fun q h3 h4 => hk q h3 (fun h5 => h4 (hZA q h5))⟩)
/-- a field of a known object -/
def OF (γ : gE) (H : Heap) (a ci j : Nat) (v : Value) : Prop := ∃ fs : List Value, va_P γ.1 vwCl [(a, .inr (ci, fs))] H ∧ fs[j]? = some v
section OFS
variable {p : Program} {l : Launch} {e : Env} {R : Room} {s : State} {m : MethodId} {args : Array Value} {below : List Frame} {meth : Method} {c : Code} {H : Heap} {locs : List Loc} {cells slots : Nat} {Q : State → Prop}
variable {cc : ByteArray} {nL ci j N index pc a : Nat} {own C ref host : String} {T : u_T} {γ : gE} {v : Value} {ls : Array Slot} {rest : List Value}
theorem of_get (S : bs_F p s m args c cc nL own) (hC : CX γ s) (hO : OF γ H a ci j v) (hin : ∀ w ∈ u_ws C T N, w ∈ bs_W0) (hc : vwCl[ci]? = some (C, T, N)) (hj : j < N) (lk : Cond.fieldLink own index (T j).1 (T j).2.1 (T j).2.2.1 ∈ bs_W0) (hdg : decode cc pc = .ok (.getfield index, 3))
    (kk : W p l e R s m args below meth c H locs cells slots Q (F0 m (pc + 3) ls (v :: rest))) : W p l e R s m args below meth c H locs cells slots Q (F0 m pc ls (.ref a :: rest)) := by
  obtain ⟨fs, hP, hv⟩ := hO
  exact va_get (D := γ.1) (ci := ci) S.1 S.2.1 S.2.2.2.2 hin S.2.2.2.1 hC.1 hP 0 rfl hc j hj (S.2.2.2.2 _ lk) (fun _ h => h) hv hdg kk
theorem of_getN (S : bs_F p s m args c cc nL own) (hC : CX γ s) (hO : OF γ H a ci j v) (hin : ∀ w ∈ u_ws C T N, w ∈ bs_W0) (hc : vwCl[ci]? = some (C, T, N)) (hj : j < N) (lk : Cond.fieldLinkNest own index (T j).1 (T j).2.1 (T j).2.2.1 host ∈ lw_tbl) (hdg : decode cc pc = .ok (.getfield index, 3))
    (kk : W p l e R s m args below meth c H locs cells slots Q (F0 m (pc + 3) ls (v :: rest))) : W p l e R s m args below meth c H locs cells slots Q (F0 m pc ls (.ref a :: rest)) := by
  obtain ⟨fs, hP, hv⟩ := hO
  exact va_getN (D := γ.1) (ci := ci) S.1 S.2.1 S.2.2.2.2 hin S.2.2.2.1 hC.1 hP 0 rfl hc j hj (va_Nw.use rfl (hC.2 _ lk rfl)) (fun _ h => h) hv hdg kk
end OFS
theorem mu_up {k r : Int32} (h : ¬ r ≤ k) : (k + 1).toInt = k.toInt + 1 ∧ k.toInt < 2147483647 := by
  rw [Int32.le_iff_toInt_le] at h
  have h1 : r.toInt ≤ 2147483647 := by have h9 := Int32.toInt_le r; rw [show Int32.maxValue.toInt = 2147483647 by decide] at h9; exact h9
  have h2 : -2147483648 ≤ k.toInt := by have h9 := Int32.le_toInt k; omega
  refine ⟨?_, by omega⟩
  rw [Int32.toInt_add]
  have h3 : (1 : Int32).toInt = 1 := by decide
  rw [h3]
  exact Int.bmod_eq_of_le (by omega) (by omega)
theorem mu_lt {k : Int32} (h : k.toInt < 2147483647) : (k + 1).toInt = k.toInt + 1 := by
  have h2 : -2147483648 ≤ k.toInt := by have h9 := Int32.le_toInt k; omega
  rw [Int32.toInt_add]
  have h3 : (1 : Int32).toInt = 1 := by decide
  rw [h3]
  exact Int.bmod_eq_of_le (by omega) (by omega)
theorem has_ok {x : Int32} {N : Nat} (h0 : ¬ x < 0) (h1 : ¬ nI N ≤ x) (hN : N < 2 ^ 31) : ∃ j, j < N ∧ x = nI j := by
  rcases pk_ix x hN with h | h | h
  · exact absurd h h0
  · exact absurd h h1
  · exact h
theorem rv_0 {s : State} {γ : gE} {A : Nat → Prop} {κ : Nat → Nat} {H : Heap} (hC : CX γ s) (hI : INV γ A κ H) : ∃ cellB : Cell, H[γ.2.2.2 0]? = some cellB ∧ cellB.vm.isStatics = false ∧ s.vm.findClass R_TypeBook = some cellB.cls := by
  obtain ⟨Z, ws, ⟨b0, f0, vf, va, rfl, h1, h2⟩, hP, hD⟩ := inv_c hI 1 (by decide) (by decide)
  exact va_recv hC.1 hP (ci := 0) (q0 := 0) rfl rfl
theorem of_0_0 {γ : gE} {A : Nat → Prop} {κ : Nat → Nat} {H : Heap} (hI : INV γ A κ H) : OF γ H (γ.2.2.2 0) 0 0 (.ref (γ.2.2.2 1)) := by
  obtain ⟨Z, ws, ⟨b0, f0, vf, va, rfl, h1, h2⟩, hP, hD⟩ := inv_c hI 1 (by decide) (by decide)
  exact ⟨_, fun k q hq => hP 0 q (by cases k with | zero => exact hq | succ k => cases hq), rfl⟩
theorem of_0_1 {γ : gE} {A : Nat → Prop} {κ : Nat → Nat} {H : Heap} (hI : INV γ A κ H) : OF γ H (γ.2.2.2 0) 0 1 (.ref (γ.2.2.2 2)) := by
  obtain ⟨Z, ws, ⟨b0, f0, vf, va, rfl, h1, h2⟩, hP, hD⟩ := inv_c hI 1 (by decide) (by decide)
  exact ⟨_, fun k q hq => hP 0 q (by cases k with | zero => exact hq | succ k => cases hq), rfl⟩
theorem of_0_2 {γ : gE} {A : Nat → Prop} {κ : Nat → Nat} {H : Heap} (hI : INV γ A κ H) : OF γ H (γ.2.2.2 0) 0 2 (.ref (γ.2.2.2 3)) := by
  obtain ⟨Z, ws, ⟨b0, f0, vf, va, rfl, h1, h2⟩, hP, hD⟩ := inv_c hI 1 (by decide) (by decide)
  exact ⟨_, fun k q hq => hP 0 q (by cases k with | zero => exact hq | succ k => cases hq), rfl⟩
theorem of_0_3 {γ : gE} {A : Nat → Prop} {κ : Nat → Nat} {H : Heap} (hI : INV γ A κ H) : OF γ H (γ.2.2.2 0) 0 3 (.ref (γ.2.2.2 4)) := by
  obtain ⟨Z, ws, ⟨b0, f0, vf, va, rfl, h1, h2⟩, hP, hD⟩ := inv_c hI 1 (by decide) (by decide)
  exact ⟨_, fun k q hq => hP 0 q (by cases k with | zero => exact hq | succ k => cases hq), rfl⟩
theorem of_0_4 {γ : gE} {A : Nat → Prop} {κ : Nat → Nat} {H : Heap} (hI : INV γ A κ H) : OF γ H (γ.2.2.2 0) 0 4 (.ref (γ.2.2.2 6)) := by
  obtain ⟨Z, ws, ⟨b0, f0, vf, va, rfl, h1, h2⟩, hP, hD⟩ := inv_c hI 1 (by decide) (by decide)
  exact ⟨_, fun k q hq => hP 0 q (by cases k with | zero => exact hq | succ k => cases hq), rfl⟩
theorem of_0_5 {γ : gE} {A : Nat → Prop} {κ : Nat → Nat} {H : Heap} (hI : INV γ A κ H) : OF γ H (γ.2.2.2 0) 0 5 (.ref (γ.2.2.2 8)) := by
  obtain ⟨Z, ws, ⟨b0, f0, vf, va, rfl, h1, h2⟩, hP, hD⟩ := inv_c hI 1 (by decide) (by decide)
  exact ⟨_, fun k q hq => hP 0 q (by cases k with | zero => exact hq | succ k => cases hq), rfl⟩
theorem of_0_6 {γ : gE} {A : Nat → Prop} {κ : Nat → Nat} {H : Heap} (hI : INV γ A κ H) : ∃ v : Int32, OF γ H (γ.2.2.2 0) 0 6 (.int v) := by
  obtain ⟨Z, ws, ⟨b0, f0, vf, va, rfl, h1, h2⟩, hP, hD⟩ := inv_c hI 1 (by decide) (by decide)
  exact ⟨_, _, fun k q hq => hP 0 q (by cases k with | zero => exact hq | succ k => cases hq), rfl⟩
theorem rv_8 {s : State} {γ : gE} {A : Nat → Prop} {κ : Nat → Nat} {H : Heap} (hC : CX γ s) (hI : INV γ A κ H) : ∃ cellB : Cell, H[γ.2.2.2 8]? = some cellB ∧ cellB.vm.isStatics = false ∧ s.vm.findClass R_Looker = some cellB.cls := by
  obtain ⟨Z, ws, ⟨b0, f0, vf, va, rfl, h1, h2⟩, hP, hD⟩ := inv_c hI 1 (by decide) (by decide)
  exact va_recv hC.1 hP (ci := 7) (q0 := 1) rfl rfl
theorem of_8_0 {γ : gE} {A : Nat → Prop} {κ : Nat → Nat} {H : Heap} (hI : INV γ A κ H) : OF γ H (γ.2.2.2 8) 7 0 (.ref (γ.2.2.2 1)) := by
  obtain ⟨Z, ws, ⟨b0, f0, vf, va, rfl, h1, h2⟩, hP, hD⟩ := inv_c hI 1 (by decide) (by decide)
  exact ⟨_, fun k q hq => hP 1 q (by cases k with | zero => exact hq | succ k => cases hq), rfl⟩
theorem of_8_1 {γ : gE} {A : Nat → Prop} {κ : Nat → Nat} {H : Heap} (hI : INV γ A κ H) : OF γ H (γ.2.2.2 8) 7 1 (.ref (γ.2.2.2 2)) := by
  obtain ⟨Z, ws, ⟨b0, f0, vf, va, rfl, h1, h2⟩, hP, hD⟩ := inv_c hI 1 (by decide) (by decide)
  exact ⟨_, fun k q hq => hP 1 q (by cases k with | zero => exact hq | succ k => cases hq), rfl⟩
theorem of_8_2 {γ : gE} {A : Nat → Prop} {κ : Nat → Nat} {H : Heap} (hI : INV γ A κ H) : OF γ H (γ.2.2.2 8) 7 2 (.ref (γ.2.2.2 3)) := by
  obtain ⟨Z, ws, ⟨b0, f0, vf, va, rfl, h1, h2⟩, hP, hD⟩ := inv_c hI 1 (by decide) (by decide)
  exact ⟨_, fun k q hq => hP 1 q (by cases k with | zero => exact hq | succ k => cases hq), rfl⟩
theorem of_8_3 {γ : gE} {A : Nat → Prop} {κ : Nat → Nat} {H : Heap} (hI : INV γ A κ H) : OF γ H (γ.2.2.2 8) 7 3 (.ref (γ.2.2.2 9)) := by
  obtain ⟨Z, ws, ⟨b0, f0, vf, va, rfl, h1, h2⟩, hP, hD⟩ := inv_c hI 1 (by decide) (by decide)
  exact ⟨_, fun k q hq => hP 1 q (by cases k with | zero => exact hq | succ k => cases hq), rfl⟩
theorem of_8_4 {γ : gE} {A : Nat → Prop} {κ : Nat → Nat} {H : Heap} (hI : INV γ A κ H) : OF γ H (γ.2.2.2 8) 7 4 (.ref (γ.2.2.2 11)) := by
  obtain ⟨Z, ws, ⟨b0, f0, vf, va, rfl, h1, h2⟩, hP, hD⟩ := inv_c hI 1 (by decide) (by decide)
  exact ⟨_, fun k q hq => hP 1 q (by cases k with | zero => exact hq | succ k => cases hq), rfl⟩
theorem of_8_5 {γ : gE} {A : Nat → Prop} {κ : Nat → Nat} {H : Heap} (hI : INV γ A κ H) : OF γ H (γ.2.2.2 8) 7 5 (.ref (γ.2.2.2 12)) := by
  obtain ⟨Z, ws, ⟨b0, f0, vf, va, rfl, h1, h2⟩, hP, hD⟩ := inv_c hI 1 (by decide) (by decide)
  exact ⟨_, fun k q hq => hP 1 q (by cases k with | zero => exact hq | succ k => cases hq), rfl⟩
theorem of_8_7 {γ : gE} {A : Nat → Prop} {κ : Nat → Nat} {H : Heap} (hI : INV γ A κ H) : ∃ v : Int32, OF γ H (γ.2.2.2 8) 7 7 (.int v) := by
  obtain ⟨Z, ws, ⟨b0, f0, vf, va, rfl, h1, h2⟩, hP, hD⟩ := inv_c hI 1 (by decide) (by decide)
  exact ⟨_, _, fun k q hq => hP 1 q (by cases k with | zero => exact hq | succ k => cases hq), rfl⟩
theorem rv_11 {s : State} {γ : gE} {A : Nat → Prop} {κ : Nat → Nat} {H : Heap} (hC : CX γ s) (hI : INV γ A κ H) : ∃ cellB : Cell, H[γ.2.2.2 11]? = some cellB ∧ cellB.vm.isStatics = false ∧ s.vm.findClass R_Operators = some cellB.cls := by
  obtain ⟨Z, ws, ⟨b0, f0, vf, va, rfl, h1, h2⟩, hP, hD⟩ := inv_c hI 1 (by decide) (by decide)
  exact va_recv hC.1 hP (ci := 8) (q0 := 2) rfl rfl
theorem of_11_0 {γ : gE} {A : Nat → Prop} {κ : Nat → Nat} {H : Heap} (hI : INV γ A κ H) : OF γ H (γ.2.2.2 11) 8 0 (.ref (γ.2.2.2 9)) := by
  obtain ⟨Z, ws, ⟨b0, f0, vf, va, rfl, h1, h2⟩, hP, hD⟩ := inv_c hI 1 (by decide) (by decide)
  exact ⟨_, fun k q hq => hP 2 q (by cases k with | zero => exact hq | succ k => cases hq), rfl⟩
theorem rv_12 {s : State} {γ : gE} {A : Nat → Prop} {κ : Nat → Nat} {H : Heap} (hC : CX γ s) (hI : INV γ A κ H) : ∃ cellB : Cell, H[γ.2.2.2 12]? = some cellB ∧ cellB.vm.isStatics = false ∧ s.vm.findClass R_Meanings = some cellB.cls := by
  obtain ⟨Z, ws, ⟨b0, f0, vf, va, rfl, h1, h2⟩, hP, hD⟩ := inv_c hI 1 (by decide) (by decide)
  exact va_recv hC.1 hP (ci := 9) (q0 := 3) rfl rfl
theorem of_12_0 {γ : gE} {A : Nat → Prop} {κ : Nat → Nat} {H : Heap} (hI : INV γ A κ H) : OF γ H (γ.2.2.2 12) 9 0 (.ref (γ.2.2.2 1)) := by
  obtain ⟨Z, ws, ⟨b0, f0, vf, va, rfl, h1, h2⟩, hP, hD⟩ := inv_c hI 1 (by decide) (by decide)
  exact ⟨_, fun k q hq => hP 3 q (by cases k with | zero => exact hq | succ k => cases hq), rfl⟩
theorem of_12_1 {γ : gE} {A : Nat → Prop} {κ : Nat → Nat} {H : Heap} (hI : INV γ A κ H) : OF γ H (γ.2.2.2 12) 9 1 (.ref (γ.2.2.2 2)) := by
  obtain ⟨Z, ws, ⟨b0, f0, vf, va, rfl, h1, h2⟩, hP, hD⟩ := inv_c hI 1 (by decide) (by decide)
  exact ⟨_, fun k q hq => hP 3 q (by cases k with | zero => exact hq | succ k => cases hq), rfl⟩
theorem of_12_2 {γ : gE} {A : Nat → Prop} {κ : Nat → Nat} {H : Heap} (hI : INV γ A κ H) : OF γ H (γ.2.2.2 12) 9 2 (.ref (γ.2.2.2 3)) := by
  obtain ⟨Z, ws, ⟨b0, f0, vf, va, rfl, h1, h2⟩, hP, hD⟩ := inv_c hI 1 (by decide) (by decide)
  exact ⟨_, fun k q hq => hP 3 q (by cases k with | zero => exact hq | succ k => cases hq), rfl⟩
theorem of_12_3 {γ : gE} {A : Nat → Prop} {κ : Nat → Nat} {H : Heap} (hI : INV γ A κ H) : OF γ H (γ.2.2.2 12) 9 3 (.ref (γ.2.2.2 4)) := by
  obtain ⟨Z, ws, ⟨b0, f0, vf, va, rfl, h1, h2⟩, hP, hD⟩ := inv_c hI 1 (by decide) (by decide)
  exact ⟨_, fun k q hq => hP 3 q (by cases k with | zero => exact hq | succ k => cases hq), rfl⟩
theorem of_12_4 {γ : gE} {A : Nat → Prop} {κ : Nat → Nat} {H : Heap} (hI : INV γ A κ H) : OF γ H (γ.2.2.2 12) 9 4 (.ref (γ.2.2.2 9)) := by
  obtain ⟨Z, ws, ⟨b0, f0, vf, va, rfl, h1, h2⟩, hP, hD⟩ := inv_c hI 1 (by decide) (by decide)
  exact ⟨_, fun k q hq => hP 3 q (by cases k with | zero => exact hq | succ k => cases hq), rfl⟩
theorem rv_1 {s : State} {γ : gE} {A : Nat → Prop} {κ : Nat → Nat} {H : Heap} (hC : CX γ s) (hI : INV γ A κ H) : ∃ cellB : Cell, H[γ.2.2.2 1]? = some cellB ∧ cellB.vm.isStatics = false ∧ s.vm.findClass R_Trees = some cellB.cls := by
  obtain ⟨Z, ws, ⟨b0, b1, b2, b3, f0, f1, f2, f3, rfl, h1⟩, hP, hD⟩ := inv_c hI 2 (by decide) (by decide)
  exact va_recv hC.1 hP (ci := 1) (q0 := 0) rfl rfl
theorem of_1_4 {γ : gE} {A : Nat → Prop} {κ : Nat → Nat} {H : Heap} (hI : INV γ A κ H) : OF γ H (γ.2.2.2 1) 1 4 (.int (nI (κ 0))) := by
  obtain ⟨Z, ws, ⟨b0, b1, b2, b3, f0, f1, f2, f3, rfl, h1⟩, hP, hD⟩ := inv_c hI 2 (by decide) (by decide)
  exact ⟨_, fun k q hq => hP 0 q (by cases k with | zero => exact hq | succ k => cases hq), rfl⟩
theorem of_1_5 {γ : gE} {A : Nat → Prop} {κ : Nat → Nat} {H : Heap} (hI : INV γ A κ H) : OF γ H (γ.2.2.2 1) 1 5 (.int (nI (κ 1))) := by
  obtain ⟨Z, ws, ⟨b0, b1, b2, b3, f0, f1, f2, f3, rfl, h1⟩, hP, hD⟩ := inv_c hI 2 (by decide) (by decide)
  exact ⟨_, fun k q hq => hP 0 q (by cases k with | zero => exact hq | succ k => cases hq), rfl⟩
theorem rv_2 {s : State} {γ : gE} {A : Nat → Prop} {κ : Nat → Nat} {H : Heap} (hC : CX γ s) (hI : INV γ A κ H) : ∃ cellB : Cell, H[γ.2.2.2 2]? = some cellB ∧ cellB.vm.isStatics = false ∧ s.vm.findClass R_Names = some cellB.cls := by
  obtain ⟨Z, ws, ⟨b0, b1, b2, b3, b4, b5, b6, f0, f1, f2, f3, f4, f5, f6, rfl, h1⟩, hP, hD⟩ := inv_c hI 3 (by decide) (by decide)
  exact va_recv hC.1 hP (ci := 2) (q0 := 0) rfl rfl
theorem of_2_7 {γ : gE} {A : Nat → Prop} {κ : Nat → Nat} {H : Heap} (hI : INV γ A κ H) : OF γ H (γ.2.2.2 2) 2 7 (.int (nI (κ 2))) := by
  obtain ⟨Z, ws, ⟨b0, b1, b2, b3, b4, b5, b6, f0, f1, f2, f3, f4, f5, f6, rfl, h1⟩, hP, hD⟩ := inv_c hI 3 (by decide) (by decide)
  exact ⟨_, fun k q hq => hP 0 q (by cases k with | zero => exact hq | succ k => cases hq), rfl⟩
theorem of_2_8 {γ : gE} {A : Nat → Prop} {κ : Nat → Nat} {H : Heap} (hI : INV γ A κ H) : OF γ H (γ.2.2.2 2) 2 8 (.int (nI (κ 3))) := by
  obtain ⟨Z, ws, ⟨b0, b1, b2, b3, b4, b5, b6, f0, f1, f2, f3, f4, f5, f6, rfl, h1⟩, hP, hD⟩ := inv_c hI 3 (by decide) (by decide)
  exact ⟨_, fun k q hq => hP 0 q (by cases k with | zero => exact hq | succ k => cases hq), rfl⟩
theorem rv_3 {s : State} {γ : gE} {A : Nat → Prop} {κ : Nat → Nat} {H : Heap} (hC : CX γ s) (hI : INV γ A κ H) : ∃ cellB : Cell, H[γ.2.2.2 3]? = some cellB ∧ cellB.vm.isStatics = false ∧ s.vm.findClass R_Types = some cellB.cls := by
  obtain ⟨Z, ws, ⟨b0, b1, b2, b3, f0, f1, f2, f3, rfl, h1⟩, hP, hD⟩ := inv_c hI 4 (by decide) (by decide)
  exact va_recv hC.1 hP (ci := 3) (q0 := 0) rfl rfl
theorem of_3_4 {γ : gE} {A : Nat → Prop} {κ : Nat → Nat} {H : Heap} (hI : INV γ A κ H) : OF γ H (γ.2.2.2 3) 3 4 (.int (nI (κ 4))) := by
  obtain ⟨Z, ws, ⟨b0, b1, b2, b3, f0, f1, f2, f3, rfl, h1⟩, hP, hD⟩ := inv_c hI 4 (by decide) (by decide)
  exact ⟨_, fun k q hq => hP 0 q (by cases k with | zero => exact hq | succ k => cases hq), rfl⟩
theorem rv_4 {s : State} {γ : gE} {A : Nat → Prop} {κ : Nat → Nat} {H : Heap} (hC : CX γ s) (hI : INV γ A κ H) : ∃ cellB : Cell, H[γ.2.2.2 4]? = some cellB ∧ cellB.vm.isStatics = false ∧ s.vm.findClass R_Objects = some cellB.cls := by
  obtain ⟨Z, ws, ⟨b0, b1, b2, f0, f1, f2, rfl, h1⟩, hP, hD⟩ := inv_c hI 5 (by decide) (by decide)
  exact va_recv hC.1 hP (ci := 4) (q0 := 0) rfl rfl
theorem of_4_3 {γ : gE} {A : Nat → Prop} {κ : Nat → Nat} {H : Heap} (hI : INV γ A κ H) : OF γ H (γ.2.2.2 4) 4 3 (.ref (γ.2.2.2 5)) := by
  obtain ⟨Z, ws, ⟨b0, b1, b2, f0, f1, f2, rfl, h1⟩, hP, hD⟩ := inv_c hI 5 (by decide) (by decide)
  exact ⟨_, fun k q hq => hP 0 q (by cases k with | zero => exact hq | succ k => cases hq), rfl⟩
theorem of_4_4 {γ : gE} {A : Nat → Prop} {κ : Nat → Nat} {H : Heap} (hI : INV γ A κ H) : OF γ H (γ.2.2.2 4) 4 4 (.int (nI (κ 5))) := by
  obtain ⟨Z, ws, ⟨b0, b1, b2, f0, f1, f2, rfl, h1⟩, hP, hD⟩ := inv_c hI 5 (by decide) (by decide)
  exact ⟨_, fun k q hq => hP 0 q (by cases k with | zero => exact hq | succ k => cases hq), rfl⟩
theorem rv_5 {s : State} {γ : gE} {A : Nat → Prop} {κ : Nat → Nat} {H : Heap} (hC : CX γ s) (hI : INV γ A κ H) : ∃ cellB : Cell, H[γ.2.2.2 5]? = some cellB ∧ cellB.vm.isStatics = false ∧ s.vm.findClass R_Rows = some cellB.cls := by
  obtain ⟨Z, ws, ⟨b0, g0, rfl, h1⟩, hP, hD⟩ := inv_c hI 6 (by decide) (by decide)
  exact va_recv hC.1 hP (ci := 5) (q0 := 0) rfl rfl
theorem rv_7 {s : State} {γ : gE} {A : Nat → Prop} {κ : Nat → Nat} {H : Heap} (hC : CX γ s) (hI : INV γ A κ H) : ∃ cellB : Cell, H[γ.2.2.2 7]? = some cellB ∧ cellB.vm.isStatics = false ∧ s.vm.findClass R_Rows = some cellB.cls := by
  obtain ⟨Z, ws, ⟨b0, g0, rfl, h1⟩, hP, hD⟩ := inv_c hI 8 (by decide) (by decide)
  exact va_recv hC.1 hP (ci := 5) (q0 := 0) rfl rfl
theorem rv_10 {s : State} {γ : gE} {A : Nat → Prop} {κ : Nat → Nat} {H : Heap} (hC : CX γ s) (hI : INV γ A κ H) : ∃ cellB : Cell, H[γ.2.2.2 10]? = some cellB ∧ cellB.vm.isStatics = false ∧ s.vm.findClass R_Rows = some cellB.cls := by
  obtain ⟨Z, ws, ⟨b0, g0, rfl, h1⟩, hP, hD⟩ := inv_c hI 10 (by decide) (by decide)
  exact va_recv hC.1 hP (ci := 5) (q0 := 0) rfl rfl
theorem rv_6 {s : State} {γ : gE} {A : Nat → Prop} {κ : Nat → Nat} {H : Heap} (hC : CX γ s) (hI : INV γ A κ H) : ∃ cellB : Cell, H[γ.2.2.2 6]? = some cellB ∧ cellB.vm.isStatics = false ∧ s.vm.findClass R_Looks = some cellB.cls := by
  obtain ⟨Z, ws, ⟨b0, b1, b2, b3, b4, f0, f1, f2, f3, f4, rfl, h1⟩, hP, hD⟩ := inv_c hI 7 (by decide) (by decide)
  exact va_recv hC.1 hP (ci := 6) (q0 := 0) rfl rfl
theorem of_6_5 {γ : gE} {A : Nat → Prop} {κ : Nat → Nat} {H : Heap} (hI : INV γ A κ H) : OF γ H (γ.2.2.2 6) 6 5 (.ref (γ.2.2.2 7)) := by
  obtain ⟨Z, ws, ⟨b0, b1, b2, b3, b4, f0, f1, f2, f3, f4, rfl, h1⟩, hP, hD⟩ := inv_c hI 7 (by decide) (by decide)
  exact ⟨_, fun k q hq => hP 0 q (by cases k with | zero => exact hq | succ k => cases hq), rfl⟩
theorem rv_9 {s : State} {γ : gE} {A : Nat → Prop} {κ : Nat → Nat} {H : Heap} (hC : CX γ s) (hI : INV γ A κ H) : ∃ cellB : Cell, H[γ.2.2.2 9]? = some cellB ∧ cellB.vm.isStatics = false ∧ s.vm.findClass R_Looks = some cellB.cls := by
  obtain ⟨Z, ws, ⟨b0, b1, b2, b3, b4, f0, f1, f2, f3, f4, rfl, h1⟩, hP, hD⟩ := inv_c hI 9 (by decide) (by decide)
  exact va_recv hC.1 hP (ci := 6) (q0 := 0) rfl rfl
theorem of_9_5 {γ : gE} {A : Nat → Prop} {κ : Nat → Nat} {H : Heap} (hI : INV γ A κ H) : OF γ H (γ.2.2.2 9) 6 5 (.ref (γ.2.2.2 10)) := by
  obtain ⟨Z, ws, ⟨b0, b1, b2, b3, b4, f0, f1, f2, f3, f4, rfl, h1⟩, hP, hD⟩ := inv_c hI 9 (by decide) (by decide)
  exact ⟨_, fun k q hq => hP 0 q (by cases k with | zero => exact hq | succ k => cases hq), rfl⟩
