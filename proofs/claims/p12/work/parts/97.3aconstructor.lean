-- THE REFERENCE's constructor: stage j has its first j arrays
def B0 (a k : Nat) : Nat := a + 1 + mdIx.idxOf k
def fsI (a : Nat) (V : Nat → Int32) (j : Nat) : List Value := (List.range 35).map (fun k => if mdS k then .int (V k) else if mdIx.idxOf k < j then .ref (B0 a k) else .null)
def wsI (γ : gE) (a : Nat) (V : Nat → Int32) (j : Nat) : va_W := (a, .inr (10, fsI a V j)) :: (mdIx.take j).map (mcell γ (B0 a) (fun _ _ => 0) (fun _ => 0))
theorem fsI_get {a : Nat} {V : Nat → Int32} {j k : Nat} (hk : k < 35) : (fsI a V j)[k]? = some (if mdS k then .int (V k) else if mdIx.idxOf k < j then .ref (B0 a k) else .null) := by
  unfold fsI
  rw [List.getElem?_map, List.getElem?_range hk]
  rfl
theorem fsI_len {a : Nat} {V : Nat → Int32} {j : Nat} : (fsI a V j).length = 35 := by simp [fsI]
theorem fsI_put {a : Nat} {V : Nat → Int32} {j k : Nat} {x : Int32} (hk : k < 35) (hs : mdS k = true) : (fsI a V j).set k (.int x) = fsI a (upd V k x) j := by
  apply List.ext_getElem?
  intro i
  by_cases hi : i < 35
  · rw [fsI_get hi, List.getElem?_set]
    by_cases h : k = i
    · subst h
      rw [if_pos rfl, if_pos (by rw [fsI_len]; exact hk), hs, pk_us]
      rfl
    · rw [if_neg h, fsI_get hi, pk_un (fun e => h e.symm)]
  · rw [List.getElem?_eq_none (by rw [List.length_set, fsI_len]; omega), List.getElem?_eq_none (by rw [fsI_len]; omega)]
theorem fsI_new {a : Nat} {V : Nat → Int32} {j k : Nat} (hk : k < 35) (hs : mdS k = false) (hp : mdIx.idxOf k = j) (hu : ∀ i, i < 35 → mdS i = false → mdIx.idxOf i = j → i = k) : (fsI a V j).set k (.ref (a + 1 + j)) = fsI a V (j + 1) := by
  apply List.ext_getElem?
  intro i
  by_cases hi : i < 35
  · rw [fsI_get hi, List.getElem?_set]
    by_cases h : k = i
    · subst h
      rw [if_pos rfl, if_pos (by rw [fsI_len]; exact hk), hs, if_pos (show mdIx.idxOf k < j + 1 by omega)]
      unfold B0
      rw [hp]
      rfl
    · rw [if_neg h, fsI_get hi]
      cases h2 : mdS i with
      | true => rfl
      | false =>
        have h3 : mdIx.idxOf i ≠ j := fun e => h (hu i hi h2 e).symm
        by_cases h4 : mdIx.idxOf i < j
        · rw [if_pos h4, if_pos (show mdIx.idxOf i < j + 1 by omega)]
        · rw [if_neg h4, if_neg (show ¬ mdIx.idxOf i < j + 1 by omega)]
  · rw [List.getElem?_eq_none (by rw [List.length_set, fsI_len]; omega), List.getElem?_eq_none (by rw [fsI_len]; omega)]
theorem wsI_new {γ : gE} {a : Nat} {V : Nat → Int32} {j k : Nat} (hj : mdIx[j]? = some k) (hk : k < 35) (hs : mdS k = false) (hp : mdIx.idxOf k = j) (hu : ∀ i, i < 35 → mdS i = false → mdIx.idxOf i = j → i = k) : (wsI γ a V j ++ [mcell γ (B0 a) (fun _ _ => 0) (fun _ => 0) k]).set 0 (a, .inr (10, (fsI a V j).set k (.ref (a + 1 + j)))) = wsI γ a V (j + 1) := by
  show (a, _) :: ((mdIx.take j).map _ ++ [_]) = (a, _) :: (mdIx.take (j + 1)).map _
  rw [fsI_new hk hs hp hu, List.take_succ, hj, List.map_append]
  rfl
theorem fsI_all {a : Nat} {V : Nat → Int32} : fsI a V 24 = fsM V (B0 a) := by
  apply List.ext_getElem?
  intro i
  by_cases hi : i < 35
  · rw [fsI_get hi, fs_get hi]
    cases h2 : mdS i with
    | true => rfl
    | false =>
      have h3 : ∀ i, i < 35 → mdS i = false → mdIx.idxOf i < 24 := by decide
      rw [if_pos (h3 i hi h2)]
  · rw [List.getElem?_eq_none (by rw [fsI_len]; omega), List.getElem?_eq_none (by rw [fs_len]; omega)]
theorem wsI_all {γ : gE} {a : Nat} {V : Nat → Int32} : wsI γ a V 24 = wsM γ a (B0 a) V (fun _ _ => 0) (fun _ => 0) := by
  unfold wsI wsM
  rw [fsI_all]
  rfl
theorem mv_self {V : Nat → Int32} : mv V V = V := by
  funext k
  unfold mv
  exact ite_self _
theorem ma_self {A : Nat → Nat → Int32} : ma A A = A := by
  funext k
  unfold ma
  exact ite_self _
theorem md_of {γ : gE} {a : Nat} {B : Nat → Nat} {Z : Nat → Prop} {V : Nat → Int32} {A : Nat → Nat → Int32} {nu : Nat → Int64} {H : Heap} (h : MDb γ a B Z V A nu H) : MD γ a B Z V A V A nu H := by
  unfold MD
  rw [mv_self, ma_self]
  exact h
theorem mi_st : ST (fun k => if k = 5 then 1 else 0) (fun _ => 0) (fun _ => 0) (upd (upd (fun _ => 0) 1 (-1)) 31 1) (fun _ _ => 0) :=
  ⟨⟨by decide, by decide, by decide, by decide, by decide, by decide, by decide⟩, ⟨rfl, rfl, rfl, rfl, rfl, rfl⟩, ⟨fun c hc => absurd hc (Nat.not_lt_zero _), fun c hc => absurd hc (Nat.not_lt_zero _), fun c hc => absurd hc (Nat.not_lt_zero _)⟩, fun t _ h => absurd h (show ¬ (0 : Int32) = 3 by decide), fun o _ => ⟨0, by omega, rfl⟩, fun k _ => ⟨fun h => absurd h (show ¬ (0 : Int32) = 1 by decide), fun h => absurd h (show ¬ (0 : Int32) = 2 by decide), fun h => absurd h (show ¬ (0 : Int32) = 4 by decide)⟩⟩
theorem md_sz {γ : gE} {a : Nat} {Z : Nat → Prop} {ν σ : Nat → Int32} {τ F : Nat → Nat → Int32} {nu : Nat → Int64} {H : Heap} (hM : MD γ a (B0 a) Z ν τ σ F nu H) : a + 24 < H.size := by
  have h := (hM.1 24 _ (ws_get (k := 29) (q := 23) rfl (by decide))).lt
  have e : B0 a 29 = a + 24 := by
    unfold B0
    rw [show mdIx.idxOf 29 = 23 by decide]
  rw [← e]
  exact h
theorem sz_25 {h a n c : Nat} (h1 : h ≤ n + c) (hc : c = 24) (hn : n = a + 1) (h2 : a + 24 < h) : h = a + 25 := by omega
theorem sz_0 : SZ (fun _ _ => 0) := fun f _ => ⟨0, by omega, rfl⟩
theorem gd_0 {nu : Nat → Int64} : GD (fun _ _ => 0) nu := fun f _ _ h => absurd h (show ¬ (0 : Int32) = 2 by decide)
theorem fd_0 {σ : Nat → Int32} (h : σ 32 = 0) : FD σ := ⟨fun h2 => absurd (h.symm.trans h2) (by decide), fun h2 => absurd (h.symm.trans h2) (by decide), fun h2 => absurd (h.symm.trans h2) (by decide)⟩
section MIS
variable {p : Program} {l : Launch} {e : Env} {R : Room} {s : State} {m : MethodId} {args : Array Value} {below : List Frame} {meth : Method} {c : Code} {H H0 : Heap} {locs : List Loc} {cells slots : Nat} {Q : State → Prop}
variable {nL index pc a : Nat} {γ : gE} {ls : Array Slot} {rest : List Value} {Z : Nat → Prop} {ws : va_W} {cc : ByteArray} {own : String}
theorem cw_new_int (S : bs_F p s m args c cc nL own) (hC : CX γ s) (harr : Cond.arrayClass .int ∈ bs_W0) (hP : va_P γ.1 vwCl ws H) (hD : va_D Z ws) (hS : va_S Z H0 H locs) (hZ : ∀ q, H0.size ≤ q → Z q) {k : Nat} (hk : H.size = k) {x : Int32} (N : Nat) (hx : x = nI N) (hN : N ≤ 1000000) (hc : cells + 1 ≤ R.cells) (hs : slots + N ≤ R.slots) (hdg : decode cc pc = .ok (.newarray .int, 2))
    (kk : ∀ H1 : Heap, va_P γ.1 vwCl (ws ++ [(k, .inl (γ.2.1, N, .inl (fun _ => 0)))]) H1 → va_D Z (ws ++ [(k, .inl (γ.2.1, N, .inl (fun _ => 0)))]) → va_S Z H0 H1 locs → H1.size = k + 1 → (∀ q : Nat, q < k → H1[q]? = H[q]?) → W p l e R s m args below meth c H1 locs (cells + 1) (slots + N) Q (F0 m (pc + 2) ls (.ref k :: rest))) : W p l e R s m args below meth c H locs cells slots Q (F0 m pc ls (.int x :: rest)) := by
  subst hx
  subst hk
  refine va_newaK (atype := .int) (N := N) S.1 S.2.1 (S.2.2.2.2 _ harr) rfl hdg rfl (nI_pos (by omega)) (nI_clamp (by omega)) (by show N * 4 ≤ _; omega) hc hs rfl (fun H1 cA e1 z1 o1 hAr hNm => ?_)
  have hcA : cA = γ.2.1 := Option.some.inj (hNm.symm.trans (hC.1.2 0 _ rfl).2)
  subst hcA
  have hq : ∀ (k : Nat) (x : Nat × va_E), ws[k]? = some x → H1[x.1]? = H[x.1]? := fun k x hx => o1 x.1 ((hP k x hx).lt)
  exact kk H1 ((hP.kept hq).app (one_P e1)) (hD.push hP rfl (hZ _ hS.1)) ⟨Nat.le_trans hS.1 (by omega), fun x h1 h2 => (o1 x (Nat.lt_of_lt_of_le h1 hS.1)).trans (hS.2.1 x h1 h2), hS.2.2⟩ z1 o1
theorem mi_int {V : Nat → Int32} {j k : Nat} (S : bs_F p s m args c bModel_init nL R_Model) (hnm : meth.name = "<init>") (hC : CX γ s) (hP : va_P γ.1 vwCl (wsI γ a V j) H) (hD : va_D (fun q => a ≤ q) (wsI γ a V j)) (hS : va_S (fun q => a ≤ q) s.heap H locs) (hA : ∀ q, s.heap.size ≤ q → a ≤ q) (hz : H.size = a + 1 + j) (hj : mdIx[j]? = some k) (hp : mdIx.idxOf k = j) (hk : k < 35) (hs : mdS k = false) (hu : ∀ i, i < 35 → mdS i = false → mdIx.idxOf i = j → i = k) (hcell : mcell γ (B0 a) (fun _ _ => 0) (fun _ => 0) k = (a + 1 + j, .inl (γ.2.1, mdN k, .inl (fun _ => 0)))) {x : Int32} (hx : x = nI (mdN k)) (hN : mdN k ≤ 1000000) (hc : cells + 1 ≤ R.cells) (hsl : slots + mdN k ≤ R.slots) (harr : Cond.arrayClass .int ∈ bs_W0) (lk : Cond.fieldLink R_Model index (T_Model k).1 (T_Model k).2.1 (T_Model k).2.2.1 ∈ bs_W0) (hfin : (T_Model k).2.2.2 = true) (hdecl : (T_Model k).1 = R_Model) (hd : parseFieldDescriptor (T_Model k).2.2.1 = some (.array .int)) (d1 : decode bModel_init pc = .ok (.newarray .int, 2)) (d2 : decode bModel_init (pc + 2) = .ok (.putfield index, 3))
    (kk : ∀ (H : Heap) (locs : List Loc), va_P γ.1 vwCl (wsI γ a V (j + 1)) H → va_D (fun q => a ≤ q) (wsI γ a V (j + 1)) → va_S (fun q => a ≤ q) s.heap H locs → H.size = a + 1 + (j + 1) → W p l e R s m args below meth c H locs (cells + 1) (slots + mdN k) Q (F0 m (pc + 5) ls rest)) : W p l e R s m args below meth c H locs cells slots Q (F0 m pc ls (.int x :: .ref a :: rest)) := by
  refine cw_new_int S hC harr hP hD hS hA hz (mdN k) hx hN hc hsl d1 (fun H1 hP1 hD1 hS1 hz1 _ => ?_)
  rw [← hcell] at hP1 hD1
  refine st_putF (D := γ.1) (ci := 10) (v := .ref (a + 1 + j)) (ty := .array .int) (C := R_Model) (T := T_Model) (N := 35) (Ts := bs_W0) S.1 S.2.1 S.2.2.2.2 in_Model t_Model t_Model_ok n_Model S.2.2.2.1 hC.1 hP1 hD1 (fun q h => h) hS1 0 rfl rfl k hk (S.2.2.2.2 _ lk) (fun _ h => h) hfin hnm hdecl hd rfl rfl (by rw [fsI_len]; exact hk) d2 (fun H2 locs2 hP2 hD2 hS2 hz2 _ => ?_)
  rw [wsI_new hj hk hs hp hu] at hP2 hD2
  exact kk H2 locs2 hP2 hD2 hS2 (hz2.trans hz1)
theorem cw_new_long (S : bs_F p s m args c cc nL own) (hC : CX γ s) (harr : Cond.arrayClass .long ∈ bs_W0) (hP : va_P γ.1 vwCl ws H) (hD : va_D Z ws) (hS : va_S Z H0 H locs) (hZ : ∀ q, H0.size ≤ q → Z q) {k : Nat} (hk : H.size = k) {x : Int32} (N : Nat) (hx : x = nI N) (hN : N ≤ 1000000) (hc : cells + 1 ≤ R.cells) (hs : slots + N ≤ R.slots) (hdg : decode cc pc = .ok (.newarray .long, 2))
    (kk : ∀ H1 : Heap, va_P γ.1 vwCl (ws ++ [(k, .inl (γ.2.2.1, N, .inr (.inl (fun _ => 0))))]) H1 → va_D Z (ws ++ [(k, .inl (γ.2.2.1, N, .inr (.inl (fun _ => 0))))]) → va_S Z H0 H1 locs → H1.size = k + 1 → (∀ q : Nat, q < k → H1[q]? = H[q]?) → W p l e R s m args below meth c H1 locs (cells + 1) (slots + N) Q (F0 m (pc + 2) ls (.ref k :: rest))) : W p l e R s m args below meth c H locs cells slots Q (F0 m pc ls (.int x :: rest)) := by
  subst hx
  subst hk
  refine va_newaK (atype := .long) (N := N) S.1 S.2.1 (S.2.2.2.2 _ harr) rfl hdg rfl (nI_pos (by omega)) (nI_clamp (by omega)) (by show N * 8 ≤ _; omega) hc hs rfl (fun H1 cA e1 z1 o1 hAr hNm => ?_)
  have hcA : cA = γ.2.2.1 := Option.some.inj (hNm.symm.trans (hC.1.2 1 _ rfl).2)
  subst hcA
  have hq : ∀ (k : Nat) (x : Nat × va_E), ws[k]? = some x → H1[x.1]? = H[x.1]? := fun k x hx => o1 x.1 ((hP k x hx).lt)
  exact kk H1 ((hP.kept hq).app (one_P e1)) (hD.push hP rfl (hZ _ hS.1)) ⟨Nat.le_trans hS.1 (by omega), fun x h1 h2 => (o1 x (Nat.lt_of_lt_of_le h1 hS.1)).trans (hS.2.1 x h1 h2), hS.2.2⟩ z1 o1
theorem mi_long {V : Nat → Int32} {j k : Nat} (S : bs_F p s m args c bModel_init nL R_Model) (hnm : meth.name = "<init>") (hC : CX γ s) (hP : va_P γ.1 vwCl (wsI γ a V j) H) (hD : va_D (fun q => a ≤ q) (wsI γ a V j)) (hS : va_S (fun q => a ≤ q) s.heap H locs) (hA : ∀ q, s.heap.size ≤ q → a ≤ q) (hz : H.size = a + 1 + j) (hj : mdIx[j]? = some k) (hp : mdIx.idxOf k = j) (hk : k < 35) (hs : mdS k = false) (hu : ∀ i, i < 35 → mdS i = false → mdIx.idxOf i = j → i = k) (hcell : mcell γ (B0 a) (fun _ _ => 0) (fun _ => 0) k = (a + 1 + j, .inl (γ.2.2.1, mdN k, .inr (.inl (fun _ => 0))))) {x : Int32} (hx : x = nI (mdN k)) (hN : mdN k ≤ 1000000) (hc : cells + 1 ≤ R.cells) (hsl : slots + mdN k ≤ R.slots) (harr : Cond.arrayClass .long ∈ bs_W0) (lk : Cond.fieldLink R_Model index (T_Model k).1 (T_Model k).2.1 (T_Model k).2.2.1 ∈ bs_W0) (hfin : (T_Model k).2.2.2 = true) (hdecl : (T_Model k).1 = R_Model) (hd : parseFieldDescriptor (T_Model k).2.2.1 = some (.array .long)) (d1 : decode bModel_init pc = .ok (.newarray .long, 2)) (d2 : decode bModel_init (pc + 2) = .ok (.putfield index, 3))
    (kk : ∀ (H : Heap) (locs : List Loc), va_P γ.1 vwCl (wsI γ a V (j + 1)) H → va_D (fun q => a ≤ q) (wsI γ a V (j + 1)) → va_S (fun q => a ≤ q) s.heap H locs → H.size = a + 1 + (j + 1) → W p l e R s m args below meth c H locs (cells + 1) (slots + mdN k) Q (F0 m (pc + 5) ls rest)) : W p l e R s m args below meth c H locs cells slots Q (F0 m pc ls (.int x :: .ref a :: rest)) := by
  refine cw_new_long S hC harr hP hD hS hA hz (mdN k) hx hN hc hsl d1 (fun H1 hP1 hD1 hS1 hz1 _ => ?_)
  rw [← hcell] at hP1 hD1
  refine st_putF (D := γ.1) (ci := 10) (v := .ref (a + 1 + j)) (ty := .array .long) (C := R_Model) (T := T_Model) (N := 35) (Ts := bs_W0) S.1 S.2.1 S.2.2.2.2 in_Model t_Model t_Model_ok n_Model S.2.2.2.1 hC.1 hP1 hD1 (fun q h => h) hS1 0 rfl rfl k hk (S.2.2.2.2 _ lk) (fun _ h => h) hfin hnm hdecl hd rfl rfl (by rw [fsI_len]; exact hk) d2 (fun H2 locs2 hP2 hD2 hS2 hz2 _ => ?_)
  rw [wsI_new hj hk hs hp hu] at hP2 hD2
  exact kk H2 locs2 hP2 hD2 hS2 (hz2.trans hz1)
theorem cw_new_boolean (S : bs_F p s m args c cc nL own) (hC : CX γ s) (harr : Cond.arrayClass .boolean ∈ bs_W0) (hP : va_P γ.1 vwCl ws H) (hD : va_D Z ws) (hS : va_S Z H0 H locs) (hZ : ∀ q, H0.size ≤ q → Z q) {k : Nat} (hk : H.size = k) {x : Int32} (N : Nat) (hx : x = nI N) (hN : N ≤ 1000000) (hc : cells + 1 ≤ R.cells) (hs : slots + N ≤ R.slots) (hdg : decode cc pc = .ok (.newarray .boolean, 2))
    (kk : ∀ H1 : Heap, va_P γ.1 vwCl (ws ++ [(k, .inl (γ.2.2.2 21, N, .inl (fun _ => 0)))]) H1 → va_D Z (ws ++ [(k, .inl (γ.2.2.2 21, N, .inl (fun _ => 0)))]) → va_S Z H0 H1 locs → H1.size = k + 1 → (∀ q : Nat, q < k → H1[q]? = H[q]?) → W p l e R s m args below meth c H1 locs (cells + 1) (slots + N) Q (F0 m (pc + 2) ls (.ref k :: rest))) : W p l e R s m args below meth c H locs cells slots Q (F0 m pc ls (.int x :: rest)) := by
  subst hx
  subst hk
  refine va_newaK (atype := .boolean) (N := N) S.1 S.2.1 (S.2.2.2.2 _ harr) rfl hdg rfl (nI_pos (by omega)) (nI_clamp (by omega)) (by show N * 1 ≤ _; omega) hc hs rfl (fun H1 cA e1 z1 o1 hAr hNm => ?_)
  have hcA : cA = γ.2.2.2 21 := Option.some.inj (hNm.symm.trans (hC.1.2 3 _ rfl).2)
  subst hcA
  have hq : ∀ (k : Nat) (x : Nat × va_E), ws[k]? = some x → H1[x.1]? = H[x.1]? := fun k x hx => o1 x.1 ((hP k x hx).lt)
  exact kk H1 ((hP.kept hq).app (one_P e1)) (hD.push hP rfl (hZ _ hS.1)) ⟨Nat.le_trans hS.1 (by omega), fun x h1 h2 => (o1 x (Nat.lt_of_lt_of_le h1 hS.1)).trans (hS.2.1 x h1 h2), hS.2.2⟩ z1 o1
theorem mi_boolean {V : Nat → Int32} {j k : Nat} (S : bs_F p s m args c bModel_init nL R_Model) (hnm : meth.name = "<init>") (hC : CX γ s) (hP : va_P γ.1 vwCl (wsI γ a V j) H) (hD : va_D (fun q => a ≤ q) (wsI γ a V j)) (hS : va_S (fun q => a ≤ q) s.heap H locs) (hA : ∀ q, s.heap.size ≤ q → a ≤ q) (hz : H.size = a + 1 + j) (hj : mdIx[j]? = some k) (hp : mdIx.idxOf k = j) (hk : k < 35) (hs : mdS k = false) (hu : ∀ i, i < 35 → mdS i = false → mdIx.idxOf i = j → i = k) (hcell : mcell γ (B0 a) (fun _ _ => 0) (fun _ => 0) k = (a + 1 + j, .inl (γ.2.2.2 21, mdN k, .inl (fun _ => 0)))) {x : Int32} (hx : x = nI (mdN k)) (hN : mdN k ≤ 1000000) (hc : cells + 1 ≤ R.cells) (hsl : slots + mdN k ≤ R.slots) (harr : Cond.arrayClass .boolean ∈ bs_W0) (lk : Cond.fieldLink R_Model index (T_Model k).1 (T_Model k).2.1 (T_Model k).2.2.1 ∈ bs_W0) (hfin : (T_Model k).2.2.2 = true) (hdecl : (T_Model k).1 = R_Model) (hd : parseFieldDescriptor (T_Model k).2.2.1 = some (.array .boolean)) (d1 : decode bModel_init pc = .ok (.newarray .boolean, 2)) (d2 : decode bModel_init (pc + 2) = .ok (.putfield index, 3))
    (kk : ∀ (H : Heap) (locs : List Loc), va_P γ.1 vwCl (wsI γ a V (j + 1)) H → va_D (fun q => a ≤ q) (wsI γ a V (j + 1)) → va_S (fun q => a ≤ q) s.heap H locs → H.size = a + 1 + (j + 1) → W p l e R s m args below meth c H locs (cells + 1) (slots + mdN k) Q (F0 m (pc + 5) ls rest)) : W p l e R s m args below meth c H locs cells slots Q (F0 m pc ls (.int x :: .ref a :: rest)) := by
  refine cw_new_boolean S hC harr hP hD hS hA hz (mdN k) hx hN hc hsl d1 (fun H1 hP1 hD1 hS1 hz1 _ => ?_)
  rw [← hcell] at hP1 hD1
  refine st_putF (D := γ.1) (ci := 10) (v := .ref (a + 1 + j)) (ty := .array .boolean) (C := R_Model) (T := T_Model) (N := 35) (Ts := bs_W0) S.1 S.2.1 S.2.2.2.2 in_Model t_Model t_Model_ok n_Model S.2.2.2.1 hC.1 hP1 hD1 (fun q h => h) hS1 0 rfl rfl k hk (S.2.2.2.2 _ lk) (fun _ h => h) hfin hnm hdecl hd rfl rfl (by rw [fsI_len]; exact hk) d2 (fun H2 locs2 hP2 hD2 hS2 hz2 _ => ?_)
  rw [wsI_new hj hk hs hp hu] at hP2 hD2
  exact kk H2 locs2 hP2 hD2 hS2 (hz2.trans hz1)
theorem cw_new_byte (S : bs_F p s m args c cc nL own) (hC : CX γ s) (harr : Cond.arrayClass .byte ∈ bs_W0) (hP : va_P γ.1 vwCl ws H) (hD : va_D Z ws) (hS : va_S Z H0 H locs) (hZ : ∀ q, H0.size ≤ q → Z q) {k : Nat} (hk : H.size = k) {x : Int32} (N : Nat) (hx : x = nI N) (hN : N ≤ 1000000) (hc : cells + 1 ≤ R.cells) (hs : slots + N ≤ R.slots) (hdg : decode cc pc = .ok (.newarray .byte, 2))
    (kk : ∀ H1 : Heap, va_P γ.1 vwCl (ws ++ [(k, .inl (γ.2.2.2 20, N, .inl (fun _ => 0)))]) H1 → va_D Z (ws ++ [(k, .inl (γ.2.2.2 20, N, .inl (fun _ => 0)))]) → va_S Z H0 H1 locs → H1.size = k + 1 → (∀ q : Nat, q < k → H1[q]? = H[q]?) → W p l e R s m args below meth c H1 locs (cells + 1) (slots + N) Q (F0 m (pc + 2) ls (.ref k :: rest))) : W p l e R s m args below meth c H locs cells slots Q (F0 m pc ls (.int x :: rest)) := by
  subst hx
  subst hk
  refine va_newaK (atype := .byte) (N := N) S.1 S.2.1 (S.2.2.2.2 _ harr) rfl hdg rfl (nI_pos (by omega)) (nI_clamp (by omega)) (by show N * 1 ≤ _; omega) hc hs rfl (fun H1 cA e1 z1 o1 hAr hNm => ?_)
  have hcA : cA = γ.2.2.2 20 := Option.some.inj (hNm.symm.trans (hC.1.2 2 _ rfl).2)
  subst hcA
  have hq : ∀ (k : Nat) (x : Nat × va_E), ws[k]? = some x → H1[x.1]? = H[x.1]? := fun k x hx => o1 x.1 ((hP k x hx).lt)
  exact kk H1 ((hP.kept hq).app (one_P e1)) (hD.push hP rfl (hZ _ hS.1)) ⟨Nat.le_trans hS.1 (by omega), fun x h1 h2 => (o1 x (Nat.lt_of_lt_of_le h1 hS.1)).trans (hS.2.1 x h1 h2), hS.2.2⟩ z1 o1
theorem mi_byte {V : Nat → Int32} {j k : Nat} (S : bs_F p s m args c bModel_init nL R_Model) (hnm : meth.name = "<init>") (hC : CX γ s) (hP : va_P γ.1 vwCl (wsI γ a V j) H) (hD : va_D (fun q => a ≤ q) (wsI γ a V j)) (hS : va_S (fun q => a ≤ q) s.heap H locs) (hA : ∀ q, s.heap.size ≤ q → a ≤ q) (hz : H.size = a + 1 + j) (hj : mdIx[j]? = some k) (hp : mdIx.idxOf k = j) (hk : k < 35) (hs : mdS k = false) (hu : ∀ i, i < 35 → mdS i = false → mdIx.idxOf i = j → i = k) (hcell : mcell γ (B0 a) (fun _ _ => 0) (fun _ => 0) k = (a + 1 + j, .inl (γ.2.2.2 20, mdN k, .inl (fun _ => 0)))) {x : Int32} (hx : x = nI (mdN k)) (hN : mdN k ≤ 1000000) (hc : cells + 1 ≤ R.cells) (hsl : slots + mdN k ≤ R.slots) (harr : Cond.arrayClass .byte ∈ bs_W0) (lk : Cond.fieldLink R_Model index (T_Model k).1 (T_Model k).2.1 (T_Model k).2.2.1 ∈ bs_W0) (hfin : (T_Model k).2.2.2 = true) (hdecl : (T_Model k).1 = R_Model) (hd : parseFieldDescriptor (T_Model k).2.2.1 = some (.array .byte)) (d1 : decode bModel_init pc = .ok (.newarray .byte, 2)) (d2 : decode bModel_init (pc + 2) = .ok (.putfield index, 3))
    (kk : ∀ (H : Heap) (locs : List Loc), va_P γ.1 vwCl (wsI γ a V (j + 1)) H → va_D (fun q => a ≤ q) (wsI γ a V (j + 1)) → va_S (fun q => a ≤ q) s.heap H locs → H.size = a + 1 + (j + 1) → W p l e R s m args below meth c H locs (cells + 1) (slots + mdN k) Q (F0 m (pc + 5) ls rest)) : W p l e R s m args below meth c H locs cells slots Q (F0 m pc ls (.int x :: .ref a :: rest)) := by
  refine cw_new_byte S hC harr hP hD hS hA hz (mdN k) hx hN hc hsl d1 (fun H1 hP1 hD1 hS1 hz1 _ => ?_)
  rw [← hcell] at hP1 hD1
  refine st_putF (D := γ.1) (ci := 10) (v := .ref (a + 1 + j)) (ty := .array .byte) (C := R_Model) (T := T_Model) (N := 35) (Ts := bs_W0) S.1 S.2.1 S.2.2.2.2 in_Model t_Model t_Model_ok n_Model S.2.2.2.1 hC.1 hP1 hD1 (fun q h => h) hS1 0 rfl rfl k hk (S.2.2.2.2 _ lk) (fun _ h => h) hfin hnm hdecl hd rfl rfl (by rw [fsI_len]; exact hk) d2 (fun H2 locs2 hP2 hD2 hS2 hz2 _ => ?_)
  rw [wsI_new hj hk hs hp hu] at hP2 hD2
  exact kk H2 locs2 hP2 hD2 hS2 (hz2.trans hz1)
end MIS
