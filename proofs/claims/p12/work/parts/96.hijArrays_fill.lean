
theorem mu_openFV {l : Launch} {y : MethodName} {bytes : ByteArray} {maxL mc ms fr lo : Nat} {av : List Value} {γ : gE} {P : Heap → Prop} {A : Nat → Prop} {PO : Heap → Prop} (hy : plainFor y = true) (hn : (lg_sl av).length ≤ maxL)
    (body : ∀ (p : Program) (e : Env) (s : State) (m : MethodId) (args : Array Value) (below : List Frame) (meth : Method) (c : Code) (ls : Array Slot) (Q : State → Prop), bs_F p s m args c bytes maxL y.cls → CX γ s → (∀ q, s.heap.size ≤ q → A q) → P s.heap → (∀ (H : Heap) (locs : List Loc) (pc : Nat) (ls : Array Slot), va_S A s.heap H locs → PO H → decode bytes pc = .ok (.return_, 1) → W p l e (bs_rm fr mc ms lo) s m args below meth c H locs mc ms Q (F0 m pc ls [])) → lv_has ls maxL (lv_args 0 av) → W p l e (bs_rm fr mc ms lo) s m args below meth c s.heap [] 0 0 Q (F0 m 0 ls [])) : MU l y bytes maxL none fr lo mc ms av γ A P (mQv PO A) := by
  refine va_MetF (cc := bytes) (maxL := maxL) (ret := none) hy rfl ?_
  intro p e s m args below meth c s₁ B hml hv
  obtain ⟨rfl, hC, hA, hP⟩ := hv
  have hts := bs_hts (atoms_spec (ws := Cond.code y bytes maxL none :: bs_W0) B.pre)
  have hl := lv_entry av (n := maxL) hn
  rw [lg_entry_eq]
  exact body p e s m _ below meth c _ _ ⟨B.exec, B.bytes, hml, findClass_of_methodNamed B.named, hts⟩ hC hA hP (fun H locs _ _ hS hp hdg => W.vret B.exec B.bytes B.returns (fun t ht _ => ⟨⟨(), rfl, trivial, by show PO t.heap; rw [ht]; exact hp⟩, hS.F ht⟩) hS.2.2 hdg B.notSynchronized) hl
def fArr (γ : gE) (a n : Nat) (ws : va_W) : Prop := ∃ f : Nat → Int32, ws = [(a, .inl (γ.2.1, n, .inl f))]
set_option maxHeartbeats 4000000 in
set_option maxRecDepth 100000 in
theorem c_fill (l : Launch) (γ : gE) (A : Nat → Prop) (a n : Nat) (x : Int32) (hn : n ≤ 65536) : MU l yjArrays_fill bjArrays_fill 4 none 0 0 0 0 [.ref a, .int x] γ A (cmp γ (fArr γ a n) A) (mQv (fun H1 => cmp γ (fArr γ a n) A H1) A) := by
  refine mu_openFV (by decide +kernel) (Nat.le_of_ble_eq_true rfl) ?_
  intro p e s m args below meth c ls Q S hC hA hI hE hl
  obtain ⟨hx, hb, hml, hown, hW⟩ := id S
  have hS : va_S A s.heap s.heap [] := va_S.rf
  have hl : lv_has ls 4 [(0, .ref a), (1, .int x)] := hl
  have J5 : ∀ (N5 : Nat) (ls : Array Slot) (H : Heap) (locs : List Loc) (j : Nat), cmp γ (fArr γ a n) A H → va_S A s.heap H locs → j ≤ n → n - j = N5 → lv_has ls 4 [(0, .ref a), (1, .int x), (2, .int (nI j)), (3, .int (nI n))] → W p l e (bs_rm 0 0 0 0) s m args below meth c H locs 0 0 Q (F0 m 5 ls []) := by
    intro N5
    induction N5 using Nat.strongRecOn with
    | ind N5 ih =>
      intro ls H locs j hI hS hj hm hl
      refine lv_iload_n hx hb djArrays_fill_5 rfl (lv_at hl 2 rfl) ?_
      refine lv_iload_n hx hb djArrays_fill_6 rfl (lv_at hl 3 rfl) ?_
      refine lv_icmp_ge (tgt := 20) hx hb djArrays_fill_7 (by decide) (fun c1 => ?_) (fun c1 => ?_)
      · exact hE _ _ _ _ hS hI djArrays_fill_20
      · have hjn : j < n := by
          by_cases h : j < n
          · exact h
          · exact absurd (show nI n ≤ nI j by rw [show j = n by omega]; exact Int32.le_refl _) c1
        obtain ⟨ws, ⟨f, rfl⟩, hP, hD⟩ := hI
        refine lv_aload_n hx hb djArrays_fill_10 rfl (lv_at hl 0 rfl) ?_
        refine lv_iload_n hx hb djArrays_fill_11 rfl (lv_at hl 2 rfl) ?_
        refine lv_iload_n hx hb djArrays_fill_12 rfl (lv_at hl 1 rfl) ?_
        refine st_iast hx hb hC.1 hP hD (fun q h => h) hS 0 0 rfl rfl (vp_in_nI hjn (by omega)) djArrays_fill_13 (fun H locs hP hD hS hz ho => ?_)
        refine lv_iinc (v := nI (j + 1)) (lv' := [(2, .int (nI (j + 1))), (0, .ref a), (1, .int x), (3, .int (nI n))]) hx hb djArrays_fill_14 hl (k := 2) rfl (by rw [← nI_add]; rfl) (by decide) rfl (fun ls hl => ?_)
        refine lv_goto (tgt := 5) hx hb djArrays_fill_17 (by decide) ?_
        exact ih _ (by omega) ls _ _ (j + 1) ⟨_, ⟨_, rfl⟩, hP, hD⟩ hS hjn rfl (lv_sub hl [1, 2, 0, 3] rfl)
  refine lv_iconst (v := 0) hx hb djArrays_fill_0 (by decide) ?_
  refine lv_istore_n (lv' := [(2, .int 0), (0, .ref a), (1, .int x)]) hx hb djArrays_fill_1 rfl hl (by decide) rfl (fun ls hl => ?_)
  refine lv_aload_n hx hb djArrays_fill_2 rfl (lv_at hl 1 rfl) ?_
  obtain ⟨ws, ⟨f, rfl⟩, hP, hD⟩ := id hI
  refine va_alen hx hb hC.1 hP 0 0 rfl rfl (v := nI n) rfl djArrays_fill_3 ?_
  refine lv_istore_n (lv' := [(3, .int (nI n)), (2, .int 0), (0, .ref a), (1, .int x)]) hx hb djArrays_fill_4 rfl hl (by decide) rfl (fun ls hl => ?_)
  exact J5 _ ls _ _ 0 hI hS (Nat.zero_le _) rfl (lv_sub hl [2, 3, 1, 0] rfl)
/-- one cell of a world was written by another -/
theorem wr_D {Z : Nat → Prop} {ws : va_W} {i b : Nat} {e0 e1 : va_E} (hD : va_D Z ws) (hi : ws[i]? = some (b, e0)) : va_D Z (ws.set i (b, e1)) := hD.set hi
theorem nI_lt_of {j n : Nat} (hj : j ≤ n) (hn : n < 2 ^ 31) (h : ¬ nI n ≤ nI j) : j < n := Nat.lt_of_not_le fun q => h (nI_le q (by omega))
theorem nI_ge_of {j n : Nat} (hj : j ≤ n) (hn : n < 2 ^ 31) (h : nI n ≤ nI j) : j = n := Nat.le_antisymm hj ((nI_leI hn (by omega)).mp h)
theorem wl_0 {n N : Nat} (h : N ≤ n) : wl n N = n := if_pos h
theorem wc_0 {n N : Nat} (h : N ≤ n) : wc n N = 0 := if_pos h
theorem wm_0 {n N : Nat} (h : N ≤ n) : wm n N = 0 := if_pos h
theorem wr_set {D : va_G} {cl : List vw_C} {Z : Nat → Prop} {ws : va_W} {H H1 : Heap} {i b : Nat} {e0 e1 : va_E} (hP : va_P D cl ws H) (hD : va_D Z ws) (hi : ws[i]? = some (b, e0)) (hk : ∀ q : Nat, q < H.size → q ≠ b → H1[q]? = H[q]?) (hc : va_at D cl (b, e1) H1) : va_P D cl (ws.set i (b, e1)) H1 := by
  have hlt : i < ws.length := (List.getElem?_eq_some_iff.mp hi).1
  intro k q hq
  by_cases h : k = i
  · subst h
    rw [List.getElem?_set_self hlt] at hq
    cases hq
    exact hc
  · rw [List.getElem?_set_ne (Ne.symm h)] at hq
    exact (hP k q hq).kept (hk _ (hP k q hq).lt (fun h9 => h (hD.1 k i q (b, e0) hq hi h9)))
