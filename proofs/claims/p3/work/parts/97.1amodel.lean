-- THE REFERENCE's object: its fields by their numbers; V the ints, A the arrays of ints, booleans, bytes, nu the array of longs
def mdS : Nat → Bool
  | 0 => true | 1 => true | 6 => true | 8 => true | 21 => true | 24 => true | 30 => true | 31 => true | 32 => true | 33 => true | 34 => true | _ => false
def mdIx : List Nat := [2, 3, 4, 5, 7, 9, 10, 11, 12, 13, 14, 15, 16, 17, 18, 19, 20, 22, 23, 25, 26, 27, 28, 29]
theorem mdIx_nd : mdIx.Nodup := by decide
def mdN : Nat → Nat
  | 9 => 10000 | 10 => 10000 | 11 => 10000 | 12 => 10000 | 13 => 10000 | 14 => 640000 | 16 => 1000 | 17 => 1000 | 18 => 1000 | 19 => 1000 | 20 => 1000 | 22 => 2000 | 23 => 2000 | 25 => 3000 | 26 => 3000 | 27 => 3000 | 28 => 3000 | 29 => 3000 | _ => 4000
def mdT (γ : gE) : Nat → ClassId
  | 11 => γ.2.2.2 21 | 13 => γ.2.2.1 | 14 => γ.2.2.2 20 | 15 => γ.2.2.2 21 | 20 => γ.2.2.2 21 | _ => γ.2.1
def fsM (V : Nat → Int32) (B : Nat → Nat) : List Value := (List.range 35).map (fun k => if mdS k then .int (V k) else .ref (B k))
def mcell (γ : gE) (B : Nat → Nat) (A : Nat → Nat → Int32) (nu : Nat → Int64) (k : Nat) : Nat × va_E := (B k, .inl (mdT γ k, mdN k, if k = 13 then .inr (.inl nu) else .inl (A k)))
def wsM (γ : gE) (a : Nat) (B : Nat → Nat) (V : Nat → Int32) (A : Nat → Nat → Int32) (nu : Nat → Int64) : va_W := (a, .inr (10, fsM V B)) :: mdIx.map (mcell γ B A nu)
def MDb (γ : gE) (a : Nat) (B : Nat → Nat) (Z : Nat → Prop) (V : Nat → Int32) (A : Nat → Nat → Int32) (nu : Nat → Int64) (H : Heap) : Prop := va_P γ.1 vwCl (wsM γ a B V A nu) H ∧ va_D Z (wsM γ a B V A nu)
theorem fs_get {V : Nat → Int32} {B : Nat → Nat} {k : Nat} (hk : k < 35) : (fsM V B)[k]? = some (if mdS k then .int (V k) else .ref (B k)) := by
  unfold fsM
  rw [List.getElem?_map, List.getElem?_range hk]
  rfl
theorem fs_len {V : Nat → Int32} {B : Nat → Nat} : (fsM V B).length = 35 := by simp [fsM]
theorem fs_set {V : Nat → Int32} {B : Nat → Nat} {k : Nat} {x : Int32} (hk : k < 35) (hs : mdS k = true) : (fsM V B).set k (.int x) = fsM (upd V k x) B := by
  apply List.ext_getElem?
  intro i
  by_cases hi : i < 35
  · rw [fs_get hi, List.getElem?_set]
    by_cases h : k = i
    · subst h
      rw [if_pos rfl, if_pos (by rw [fs_len]; exact hk), hs, pk_us]
      rfl
    · rw [if_neg h, fs_get hi, pk_un (fun e => h e.symm)]
  · rw [List.getElem?_eq_none (by rw [List.length_set, fs_len]; omega), List.getElem?_eq_none (by rw [fs_len]; omega)]
theorem mx_set {β : Type} {l : List Nat} {f f' : Nat → β} {q k : Nat} (hq : l[q]? = some k) (hnd : l.Nodup) (hff : ∀ j, j ≠ k → f' j = f j) : (l.map f).set q (f' k) = l.map f' := by
  apply List.ext_getElem?
  intro i
  rw [List.getElem?_set, List.getElem?_map, List.getElem?_map, List.length_map]
  have hql : q < l.length := (List.getElem?_eq_some_iff.mp hq).1
  by_cases h : q = i
  · subst h
    rw [if_pos rfl, if_pos hql, hq]
    rfl
  · rw [if_neg h]
    cases hi : l[i]? with
    | none => rfl
    | some j =>
      have hne : j ≠ k := by
        intro e
        subst e
        obtain ⟨h1, e1⟩ := List.getElem?_eq_some_iff.mp hq
        obtain ⟨h2, e2⟩ := List.getElem?_eq_some_iff.mp hi
        exact h ((List.getElem_inj hnd).mp (e1.trans e2.symm))
      show some (f j) = some (f' j)
      rw [hff j hne]
def Au (A : Nat → Nat → Int32) (k i : Nat) (x : Int32) : Nat → Nat → Int32 := fun j => if j = k then upd (A k) i x else A j
theorem au_s {A : Nat → Nat → Int32} {k i : Nat} {x : Int32} : Au A k i x k = upd (A k) i x := if_pos rfl
theorem au_n {A : Nat → Nat → Int32} {k i j : Nat} {x : Int32} (h : j ≠ k) : Au A k i x j = A j := if_neg h
theorem ws_put {γ : gE} {a : Nat} {B : Nat → Nat} {V : Nat → Int32} {A : Nat → Nat → Int32} {nu : Nat → Int64} {k : Nat} {x : Int32} (hk : k < 35) (hs : mdS k = true) : (wsM γ a B V A nu).set 0 (a, .inr (10, (fsM V B).set k (.int x))) = wsM γ a B (upd V k x) A nu := by
  rw [fs_set hk hs]
  rfl
theorem ws_get {γ : gE} {a : Nat} {B : Nat → Nat} {V : Nat → Int32} {A : Nat → Nat → Int32} {nu : Nat → Int64} {k q : Nat} (hq : mdIx[q]? = some k) (hk : k ≠ 13) : (wsM γ a B V A nu)[q + 1]? = some (B k, .inl (mdT γ k, mdN k, .inl (A k))) := by
  show (mdIx.map (mcell γ B A nu))[q]? = _
  rw [List.getElem?_map, hq]
  show some (mcell γ B A nu k) = _
  unfold mcell
  rw [if_neg hk]
theorem ws_getL {γ : gE} {a : Nat} {B : Nat → Nat} {V : Nat → Int32} {A : Nat → Nat → Int32} {nu : Nat → Int64} : (wsM γ a B V A nu)[10]? = some (B 13, .inl (γ.2.2.1, 10000, .inr (.inl nu))) := rfl
theorem ws_st {γ : gE} {a : Nat} {B : Nat → Nat} {V : Nat → Int32} {A : Nat → Nat → Int32} {nu : Nat → Int64} {k q i : Nat} {x : Int32} (hq : mdIx[q]? = some k) (hk : k ≠ 13) : (wsM γ a B V A nu).set (q + 1) (B k, .inl (mdT γ k, mdN k, .inl (upd (A k) i x))) = wsM γ a B V (Au A k i x) nu := by
  show _ :: (mdIx.map (mcell γ B A nu)).set q _ = _ :: _
  have h : (B k, Sum.inl (mdT γ k, mdN k, Sum.inl (upd (A k) i x))) = mcell γ B (Au A k i x) nu k := by
    unfold mcell
    rw [if_neg hk, au_s]
  rw [h, mx_set hq mdIx_nd]
  intro j hj
  unfold mcell
  rw [au_n hj]
theorem ws_stL {γ : gE} {a : Nat} {B : Nat → Nat} {V : Nat → Int32} {A : Nat → Nat → Int32} {nu nu' : Nat → Int64} : (wsM γ a B V A nu).set 10 (B 13, .inl (γ.2.2.1, 10000, .inr (.inl nu'))) = wsM γ a B V A nu' := rfl
-- what may change while trees are looked at (σ, F, nu), and what not (ν, τ)
def mdc : Nat → Bool
  | 0 => true | 1 => true | 32 => true | 33 => true | 34 => true | _ => false
def mdq : Nat → Bool
  | 9 => true | 10 => true | 11 => true | 12 => true | 14 => true | 15 => true | _ => false
def mv (ν σ : Nat → Int32) : Nat → Int32 := fun k => if mdc k then σ k else ν k
def ma (τ F : Nat → Nat → Int32) : Nat → Nat → Int32 := fun k => if mdq k then F k else τ k
theorem mv_d {ν σ : Nat → Int32} {k : Nat} {x : Int32} (h : mdc k = true) : upd (mv ν σ) k x = mv ν (upd σ k x) := by
  funext j
  unfold mv upd
  by_cases hj : j = k
  · subst hj
    simp [h]
  · simp [hj]
theorem mv_s {ν σ : Nat → Int32} {k : Nat} {x : Int32} (h : mdc k = false) : upd (mv ν σ) k x = mv (upd ν k x) σ := by
  funext j
  unfold mv upd
  by_cases hj : j = k
  · subst hj
    simp [h]
  · simp [hj]
theorem ma_d {τ F : Nat → Nat → Int32} {k i : Nat} {x : Int32} (h : mdq k = true) : Au (ma τ F) k i x = ma τ (Au F k i x) := by
  funext j
  unfold ma Au
  by_cases hj : j = k
  · subst hj
    simp [h]
  · simp [hj]
theorem ma_s {τ F : Nat → Nat → Int32} {k i : Nat} {x : Int32} (h : mdq k = false) : Au (ma τ F) k i x = ma (Au τ k i x) F := by
  funext j
  unfold ma Au
  by_cases hj : j = k
  · subst hj
    simp [h]
  · simp [hj]
def MD (γ : gE) (a : Nat) (B : Nat → Nat) (Z : Nat → Prop) (ν : Nat → Int32) (τ : Nat → Nat → Int32) (σ : Nat → Int32) (F : Nat → Nat → Int32) (nu : Nat → Int64) (H : Heap) : Prop := MDb γ a B Z (mv ν σ) (ma τ F) nu H
theorem md_rv {s : State} {γ : gE} {a : Nat} {B : Nat → Nat} {Z : Nat → Prop} {ν σ : Nat → Int32} {τ F : Nat → Nat → Int32} {nu : Nat → Int64} {H : Heap} (hC : CX γ s) (hM : MD γ a B Z ν τ σ F nu H) : ∃ cellB : Cell, H[a]? = some cellB ∧ cellB.vm.isStatics = false ∧ s.vm.findClass R_Model = some cellB.cls := va_recv hC.1 hM.1 (ci := 10) (q0 := 0) rfl rfl
section MDR
variable {p : Program} {l : Launch} {e : Env} {R : Room} {s : State} {m : MethodId} {args : Array Value} {below : List Frame} {meth : Method} {c : Code} {H H0 : Heap} {locs : List Loc} {cells slots : Nat} {Q : State → Prop}
variable {cc : ByteArray} {nL index pc a : Nat} {γ : gE} {ls : Array Slot} {rest : List Value} {B : Nat → Nat} {Z : Nat → Prop} {ν σ : Nat → Int32} {τ F : Nat → Nat → Int32} {nu : Nat → Int64}
theorem md_gI (S : bs_F p s m args c cc nL R_Model) (hC : CX γ s) (hM : MD γ a B Z ν τ σ F nu H) (k : Nat) {v : Int32} (hv : mv ν σ k = v) (hk : k < 35) (hs : mdS k = true) (lk : Cond.fieldLink R_Model index (T_Model k).1 (T_Model k).2.1 (T_Model k).2.2.1 ∈ bs_W0) (hdg : decode cc pc = .ok (.getfield index, 3))
    (kk : W p l e R s m args below meth c H locs cells slots Q (F0 m (pc + 3) ls (.int v :: rest))) : W p l e R s m args below meth c H locs cells slots Q (F0 m pc ls (.ref a :: rest)) :=
  va_get (D := γ.1) (ci := 10) (C := R_Model) (T := T_Model) (N := 35) S.1 S.2.1 S.2.2.2.2 in_Model S.2.2.2.1 hC.1 hM.1 0 rfl rfl k hk (S.2.2.2.2 _ lk) (fun _ h => h) (by rw [fs_get hk, hs, hv]; rfl) hdg kk
theorem md_gA (S : bs_F p s m args c cc nL R_Model) (hC : CX γ s) (hM : MD γ a B Z ν τ σ F nu H) (k : Nat) (hk : k < 35) (hs : mdS k = false) (lk : Cond.fieldLink R_Model index (T_Model k).1 (T_Model k).2.1 (T_Model k).2.2.1 ∈ bs_W0) (hdg : decode cc pc = .ok (.getfield index, 3))
    (kk : W p l e R s m args below meth c H locs cells slots Q (F0 m (pc + 3) ls (.ref (B k) :: rest))) : W p l e R s m args below meth c H locs cells slots Q (F0 m pc ls (.ref a :: rest)) :=
  va_get (D := γ.1) (ci := 10) (C := R_Model) (T := T_Model) (N := 35) S.1 S.2.1 S.2.2.2.2 in_Model S.2.2.2.1 hC.1 hM.1 0 rfl rfl k hk (S.2.2.2.2 _ lk) (fun _ h => h) (by rw [fs_get hk, hs]; rfl) hdg kk
theorem mb_pI {V : Nat → Int32} {A : Nat → Nat → Int32} (S : bs_F p s m args c cc nL R_Model) (hC : CX γ s) (hM : MDb γ a B Z V A nu H) (hS : va_S Z H0 H locs) (k : Nat) (hk : k < 35) (hs : mdS k = true) (lk : Cond.fieldLink R_Model index (T_Model k).1 (T_Model k).2.1 (T_Model k).2.2.1 ∈ bs_W0) (hfin : (T_Model k).2.2.2 = false) (hd : parseFieldDescriptor (T_Model k).2.2.1 = some .int) {x : Int32} (hdg : decode cc pc = .ok (.putfield index, 3))
    (kk : ∀ (H : Heap) (locs : List Loc), MDb γ a B Z (upd V k x) A nu H → va_S Z H0 H locs → W p l e R s m args below meth c H locs cells slots Q (F0 m (pc + 3) ls rest)) : W p l e R s m args below meth c H locs cells slots Q (F0 m pc ls (.int x :: .ref a :: rest)) := by
  refine va_put (D := γ.1) (ci := 10) (v := .int x) (ty := .int) (C := R_Model) (T := T_Model) (N := 35) S.1 S.2.1 S.2.2.2.2 in_Model t_Model t_Model_ok n_Model S.2.2.2.1 hC.1 hM.1 hM.2 hS 0 rfl rfl k hk (S.2.2.2.2 _ lk) (fun _ h => h) hfin hd rfl rfl (by rw [fs_len]; exact hk) hdg (fun H1 locs1 hP hD hS1 => ?_)
  rw [ws_put hk hs] at hP hD
  exact kk H1 locs1 ⟨hP, hD⟩ hS1
theorem md_pD (S : bs_F p s m args c cc nL R_Model) (hC : CX γ s) (hM : MD γ a B Z ν τ σ F nu H) (hS : va_S Z H0 H locs) (k : Nat) (hq : mdc k = true) (hk : k < 35) (hs : mdS k = true) (lk : Cond.fieldLink R_Model index (T_Model k).1 (T_Model k).2.1 (T_Model k).2.2.1 ∈ bs_W0) (hfin : (T_Model k).2.2.2 = false) (hd : parseFieldDescriptor (T_Model k).2.2.1 = some .int) {x : Int32} (hdg : decode cc pc = .ok (.putfield index, 3))
    (kk : ∀ (H : Heap) (locs : List Loc), MD γ a B Z ν τ (upd σ k x) F nu H → va_S Z H0 H locs → W p l e R s m args below meth c H locs cells slots Q (F0 m (pc + 3) ls rest)) : W p l e R s m args below meth c H locs cells slots Q (F0 m pc ls (.int x :: .ref a :: rest)) :=
  mb_pI S hC hM hS k hk hs lk hfin hd hdg (fun H1 locs1 hM1 hS1 => kk H1 locs1 (by rw [mv_d hq] at hM1; exact hM1) hS1)
theorem md_pS (S : bs_F p s m args c cc nL R_Model) (hC : CX γ s) (hM : MD γ a B Z ν τ σ F nu H) (hS : va_S Z H0 H locs) (k : Nat) (hq : mdc k = false) (hk : k < 35) (hs : mdS k = true) (lk : Cond.fieldLink R_Model index (T_Model k).1 (T_Model k).2.1 (T_Model k).2.2.1 ∈ bs_W0) (hfin : (T_Model k).2.2.2 = false) (hd : parseFieldDescriptor (T_Model k).2.2.1 = some .int) {x : Int32} (hdg : decode cc pc = .ok (.putfield index, 3))
    (kk : ∀ (H : Heap) (locs : List Loc), MD γ a B Z (upd ν k x) τ σ F nu H → va_S Z H0 H locs → W p l e R s m args below meth c H locs cells slots Q (F0 m (pc + 3) ls rest)) : W p l e R s m args below meth c H locs cells slots Q (F0 m pc ls (.int x :: .ref a :: rest)) :=
  mb_pI S hC hM hS k hk hs lk hfin hd hdg (fun H1 locs1 hM1 hS1 => kk H1 locs1 (by rw [mv_s hq] at hM1; exact hM1) hS1)
theorem md_ild (S : bs_F p s m args c cc nL R_Model) (hC : CX γ s) (hM : MD γ a B Z ν τ σ F nu H) (k q n : Nat) (f : Nat → Int32) (hf : ma τ F k = f) (hq : mdIx[q]? = some k) (hk : k ≠ 13) (ht : mdT γ k = γ.2.1) (hn : mdN k = n) {i : Int32} (hin : vp_in i n) (hdg : decode cc pc = .ok (.iaload, 1))
    (kk : W p l e R s m args below meth c H locs cells slots Q (F0 m (pc + 1) ls (.int (f i.toNatClampNeg) :: rest))) : W p l e R s m args below meth c H locs cells slots Q (F0 m pc ls (.int i :: .ref (B k) :: rest)) := by
  subst hf
  subst hn
  exact va_iald S.1 S.2.1 hC.1 hM.1 (q + 1) 0 (ws_get hq hk) (by rw [ht]; rfl) hin hdg kk
theorem md_zld (S : bs_F p s m args c cc nL R_Model) (hC : CX γ s) (hM : MD γ a B Z ν τ σ F nu H) (k q n : Nat) (f : Nat → Int32) (hf : ma τ F k = f) (hq : mdIx[q]? = some k) (hk : k ≠ 13) (ht : mdT γ k = γ.2.2.2 21) (hn : mdN k = n) {i : Int32} (hin : vp_in i n) (hdg : decode cc pc = .ok (.baload, 1))
    (kk : W p l e R s m args below meth c H locs cells slots Q (F0 m (pc + 1) ls (.int (f i.toNatClampNeg) :: rest))) : W p l e R s m args below meth c H locs cells slots Q (F0 m pc ls (.int i :: .ref (B k) :: rest)) := by
  subst hf
  subst hn
  exact va_zald S.1 S.2.1 hC.1 hM.1 (q + 1) 3 (ws_get hq hk) (by rw [ht]; rfl) hin hdg kk
theorem md_bld (S : bs_F p s m args c cc nL R_Model) (hC : CX γ s) (hM : MD γ a B Z ν τ σ F nu H) (k q n : Nat) (f : Nat → Int32) (hf : ma τ F k = f) (hq : mdIx[q]? = some k) (hk : k ≠ 13) (ht : mdT γ k = γ.2.2.2 20) (hn : mdN k = n) {i : Int32} (hin : vp_in i n) (hdg : decode cc pc = .ok (.baload, 1))
    (kk : W p l e R s m args below meth c H locs cells slots Q (F0 m (pc + 1) ls (.int (f i.toNatClampNeg) :: rest))) : W p l e R s m args below meth c H locs cells slots Q (F0 m pc ls (.int i :: .ref (B k) :: rest)) := by
  subst hf
  subst hn
  exact va_bald S.1 S.2.1 hC.1 hM.1 (q + 1) 2 (ws_get hq hk) (by rw [ht]; rfl) hin hdg kk
theorem md_lld (S : bs_F p s m args c cc nL R_Model) (hC : CX γ s) (hM : MD γ a B Z ν τ σ F nu H) {i : Int32} (hin : vp_in i 10000) (hdg : decode cc pc = .ok (.laload, 1))
    (kk : W p l e R s m args below meth c H locs cells slots Q (F0 m (pc + 1) ls (.long (nu i.toNatClampNeg) :: rest))) : W p l e R s m args below meth c H locs cells slots Q (F0 m pc ls (.int i :: .ref (B 13) :: rest)) :=
  va_lald S.1 S.2.1 hC.1 hM.1 10 1 ws_getL rfl hin hdg kk
theorem mb_ist {V : Nat → Int32} {A : Nat → Nat → Int32} (S : bs_F p s m args c cc nL R_Model) (hC : CX γ s) (hM : MDb γ a B Z V A nu H) (hS : va_S Z H0 H locs) (k q n : Nat) (hq : mdIx[q]? = some k) (hk : k ≠ 13) (ht : mdT γ k = γ.2.1) (hn : mdN k = n) {i x : Int32} (hin : vp_in i n) (hdg : decode cc pc = .ok (.iastore, 1))
    (kk : ∀ (H : Heap) (locs : List Loc), MDb γ a B Z V (Au A k i.toNatClampNeg x) nu H → va_S Z H0 H locs → W p l e R s m args below meth c H locs cells slots Q (F0 m (pc + 1) ls rest)) : W p l e R s m args below meth c H locs cells slots Q (F0 m pc ls (.int x :: .int i :: .ref (B k) :: rest)) := by
  subst hn
  refine va_iast S.1 S.2.1 hC.1 hM.1 hM.2 hS (q + 1) 0 (ws_get hq hk) (by rw [ht]; rfl) hin hdg (fun H1 locs1 hP hD hS1 => ?_)
  rw [ws_st hq hk] at hP hD
  exact kk H1 locs1 ⟨hP, hD⟩ hS1
theorem md_istD (S : bs_F p s m args c cc nL R_Model) (hC : CX γ s) (hM : MD γ a B Z ν τ σ F nu H) (hS : va_S Z H0 H locs) (k q n : Nat) (hd : mdq k = true) (hq : mdIx[q]? = some k) (hk : k ≠ 13) (ht : mdT γ k = γ.2.1) (hn : mdN k = n) {i x : Int32} (hin : vp_in i n) (hdg : decode cc pc = .ok (.iastore, 1))
    (kk : ∀ (H : Heap) (locs : List Loc), MD γ a B Z ν τ σ (Au F k i.toNatClampNeg x) nu H → va_S Z H0 H locs → W p l e R s m args below meth c H locs cells slots Q (F0 m (pc + 1) ls rest)) : W p l e R s m args below meth c H locs cells slots Q (F0 m pc ls (.int x :: .int i :: .ref (B k) :: rest)) :=
  mb_ist S hC hM hS k q n hq hk ht hn hin hdg (fun H1 locs1 hM1 hS1 => kk H1 locs1 (by rw [ma_d hd] at hM1; exact hM1) hS1)
theorem md_istS (S : bs_F p s m args c cc nL R_Model) (hC : CX γ s) (hM : MD γ a B Z ν τ σ F nu H) (hS : va_S Z H0 H locs) (k q n : Nat) (hd : mdq k = false) (hq : mdIx[q]? = some k) (hk : k ≠ 13) (ht : mdT γ k = γ.2.1) (hn : mdN k = n) {i x : Int32} (hin : vp_in i n) (hdg : decode cc pc = .ok (.iastore, 1))
    (kk : ∀ (H : Heap) (locs : List Loc), MD γ a B Z ν (Au τ k i.toNatClampNeg x) σ F nu H → va_S Z H0 H locs → W p l e R s m args below meth c H locs cells slots Q (F0 m (pc + 1) ls rest)) : W p l e R s m args below meth c H locs cells slots Q (F0 m pc ls (.int x :: .int i :: .ref (B k) :: rest)) :=
  mb_ist S hC hM hS k q n hq hk ht hn hin hdg (fun H1 locs1 hM1 hS1 => kk H1 locs1 (by rw [ma_s hd] at hM1; exact hM1) hS1)
theorem mb_zst {V : Nat → Int32} {A : Nat → Nat → Int32} (S : bs_F p s m args c cc nL R_Model) (hC : CX γ s) (hM : MDb γ a B Z V A nu H) (hS : va_S Z H0 H locs) (k q n : Nat) (hq : mdIx[q]? = some k) (hk : k ≠ 13) (ht : mdT γ k = γ.2.2.2 21) (hn : mdN k = n) {i x : Int32} (hin : vp_in i n) (hdg : decode cc pc = .ok (.bastore, 1))
    (kk : ∀ (H : Heap) (locs : List Loc), MDb γ a B Z V (Au A k i.toNatClampNeg (vp_nar .boolean x)) nu H → va_S Z H0 H locs → W p l e R s m args below meth c H locs cells slots Q (F0 m (pc + 1) ls rest)) : W p l e R s m args below meth c H locs cells slots Q (F0 m pc ls (.int x :: .int i :: .ref (B k) :: rest)) := by
  subst hn
  refine va_zast S.1 S.2.1 hC.1 hM.1 hM.2 hS (q + 1) 3 (ws_get hq hk) (by rw [ht]; rfl) hin hdg (fun H1 locs1 hP hD hS1 => ?_)
  rw [ws_st hq hk] at hP hD
  exact kk H1 locs1 ⟨hP, hD⟩ hS1
theorem md_zstD (S : bs_F p s m args c cc nL R_Model) (hC : CX γ s) (hM : MD γ a B Z ν τ σ F nu H) (hS : va_S Z H0 H locs) (k q n : Nat) (hd : mdq k = true) (hq : mdIx[q]? = some k) (hk : k ≠ 13) (ht : mdT γ k = γ.2.2.2 21) (hn : mdN k = n) {i x : Int32} (hin : vp_in i n) (hdg : decode cc pc = .ok (.bastore, 1))
    (kk : ∀ (H : Heap) (locs : List Loc), MD γ a B Z ν τ σ (Au F k i.toNatClampNeg (vp_nar .boolean x)) nu H → va_S Z H0 H locs → W p l e R s m args below meth c H locs cells slots Q (F0 m (pc + 1) ls rest)) : W p l e R s m args below meth c H locs cells slots Q (F0 m pc ls (.int x :: .int i :: .ref (B k) :: rest)) :=
  mb_zst S hC hM hS k q n hq hk ht hn hin hdg (fun H1 locs1 hM1 hS1 => kk H1 locs1 (by rw [ma_d hd] at hM1; exact hM1) hS1)
theorem md_zstS (S : bs_F p s m args c cc nL R_Model) (hC : CX γ s) (hM : MD γ a B Z ν τ σ F nu H) (hS : va_S Z H0 H locs) (k q n : Nat) (hd : mdq k = false) (hq : mdIx[q]? = some k) (hk : k ≠ 13) (ht : mdT γ k = γ.2.2.2 21) (hn : mdN k = n) {i x : Int32} (hin : vp_in i n) (hdg : decode cc pc = .ok (.bastore, 1))
    (kk : ∀ (H : Heap) (locs : List Loc), MD γ a B Z ν (Au τ k i.toNatClampNeg (vp_nar .boolean x)) σ F nu H → va_S Z H0 H locs → W p l e R s m args below meth c H locs cells slots Q (F0 m (pc + 1) ls rest)) : W p l e R s m args below meth c H locs cells slots Q (F0 m pc ls (.int x :: .int i :: .ref (B k) :: rest)) :=
  mb_zst S hC hM hS k q n hq hk ht hn hin hdg (fun H1 locs1 hM1 hS1 => kk H1 locs1 (by rw [ma_s hd] at hM1; exact hM1) hS1)
theorem mb_bst {V : Nat → Int32} {A : Nat → Nat → Int32} (S : bs_F p s m args c cc nL R_Model) (hC : CX γ s) (hM : MDb γ a B Z V A nu H) (hS : va_S Z H0 H locs) (k q n : Nat) (hq : mdIx[q]? = some k) (hk : k ≠ 13) (ht : mdT γ k = γ.2.2.2 20) (hn : mdN k = n) {i x : Int32} (hin : vp_in i n) (hdg : decode cc pc = .ok (.bastore, 1))
    (kk : ∀ (H : Heap) (locs : List Loc), MDb γ a B Z V (Au A k i.toNatClampNeg (vp_nar .byte x)) nu H → va_S Z H0 H locs → W p l e R s m args below meth c H locs cells slots Q (F0 m (pc + 1) ls rest)) : W p l e R s m args below meth c H locs cells slots Q (F0 m pc ls (.int x :: .int i :: .ref (B k) :: rest)) := by
  subst hn
  refine va_bast S.1 S.2.1 hC.1 hM.1 hM.2 hS (q + 1) 2 (ws_get hq hk) (by rw [ht]; rfl) hin hdg (fun H1 locs1 hP hD hS1 => ?_)
  rw [ws_st hq hk] at hP hD
  exact kk H1 locs1 ⟨hP, hD⟩ hS1
theorem md_bstD (S : bs_F p s m args c cc nL R_Model) (hC : CX γ s) (hM : MD γ a B Z ν τ σ F nu H) (hS : va_S Z H0 H locs) (k q n : Nat) (hd : mdq k = true) (hq : mdIx[q]? = some k) (hk : k ≠ 13) (ht : mdT γ k = γ.2.2.2 20) (hn : mdN k = n) {i x : Int32} (hin : vp_in i n) (hdg : decode cc pc = .ok (.bastore, 1))
    (kk : ∀ (H : Heap) (locs : List Loc), MD γ a B Z ν τ σ (Au F k i.toNatClampNeg (vp_nar .byte x)) nu H → va_S Z H0 H locs → W p l e R s m args below meth c H locs cells slots Q (F0 m (pc + 1) ls rest)) : W p l e R s m args below meth c H locs cells slots Q (F0 m pc ls (.int x :: .int i :: .ref (B k) :: rest)) :=
  mb_bst S hC hM hS k q n hq hk ht hn hin hdg (fun H1 locs1 hM1 hS1 => kk H1 locs1 (by rw [ma_d hd] at hM1; exact hM1) hS1)
theorem md_bstS (S : bs_F p s m args c cc nL R_Model) (hC : CX γ s) (hM : MD γ a B Z ν τ σ F nu H) (hS : va_S Z H0 H locs) (k q n : Nat) (hd : mdq k = false) (hq : mdIx[q]? = some k) (hk : k ≠ 13) (ht : mdT γ k = γ.2.2.2 20) (hn : mdN k = n) {i x : Int32} (hin : vp_in i n) (hdg : decode cc pc = .ok (.bastore, 1))
    (kk : ∀ (H : Heap) (locs : List Loc), MD γ a B Z ν (Au τ k i.toNatClampNeg (vp_nar .byte x)) σ F nu H → va_S Z H0 H locs → W p l e R s m args below meth c H locs cells slots Q (F0 m (pc + 1) ls rest)) : W p l e R s m args below meth c H locs cells slots Q (F0 m pc ls (.int x :: .int i :: .ref (B k) :: rest)) :=
  mb_bst S hC hM hS k q n hq hk ht hn hin hdg (fun H1 locs1 hM1 hS1 => kk H1 locs1 (by rw [ma_s hd] at hM1; exact hM1) hS1)
theorem md_lst (S : bs_F p s m args c cc nL R_Model) (hC : CX γ s) (hM : MD γ a B Z ν τ σ F nu H) (hS : va_S Z H0 H locs) {i : Int32} {x : Int64} (hin : vp_in i 10000) (hdg : decode cc pc = .ok (.lastore, 1))
    (kk : ∀ (H : Heap) (locs : List Loc), MD γ a B Z ν τ σ F (vp_updL nu i.toNatClampNeg x) H → va_S Z H0 H locs → W p l e R s m args below meth c H locs cells slots Q (F0 m (pc + 1) ls rest)) : W p l e R s m args below meth c H locs cells slots Q (F0 m pc ls (.long x :: .int i :: .ref (B 13) :: rest)) := by
  refine va_last S.1 S.2.1 hC.1 hM.1 hM.2 hS 10 1 ws_getL rfl hin hdg (fun H1 locs1 hP hD hS1 => ?_)
  rw [ws_stL] at hP hD
  exact kk H1 locs1 ⟨hP, hD⟩ hS1
end MDR
