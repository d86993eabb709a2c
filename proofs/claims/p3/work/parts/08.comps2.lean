-- STORES that tell what else stays; fields of the skeleton
section STS
variable {p : Program} {l : Launch} {e : Env} {R : Room} {s : State} {m : MethodId} {args : Array Value} {below : List Frame} {meth : Method} {c : Code} {H : Heap} {locs : List Loc} {cells slots : Nat} {Q : State → Prop}
variable {cc : ByteArray} {pc : Nat} {ls : Array Slot} {rest : List Value} {D : va_G} {cl : List vw_C} {A Z : Nat → Prop} {a : Nat} {tys : List (ClassId × FieldType)} {ws : va_W} {H0 : Heap} {nL index : Nat} {own : String} {γ : gE} {κ : Nat → Nat}
theorem st_put (hexec : p.tables.exec = Jvm.exec) (hb : c.code = cc) {ref C : String} {T : u_T} {N ci : Nat} {Ts : List Cond} (hts : ∀ w ∈ Ts, w.before args s = true) (hin : ∀ w ∈ u_ws C T N, w ∈ Ts) (ty0 : Nat → FieldType) (hty : ∀ k, k < N → parseFieldDescriptor (T k).2.2.1 = some (ty0 k)) (hnm : ∀ a, a < N → ∀ b, b < N → a ≠ b → (T a).2.1 ≠ (T b).2.1) (hown : s.vm.findClass own = some m.cls) (hK : va_K D cl tys s) (hP : va_P D cl ws H) (hD : va_D Z ws) (hZA : ∀ q, Z q → A q) (hS0 : va_S A H0 H locs) (q0 : Nat) {fs : List Value} (he : ws[q0]? = some (a, .inr (ci, fs))) (hc : cl[ci]? = some (C, T, N)) (k : Nat) (hk : k < N) (hlink : (Cond.fieldLink own index ref (T k).2.1 (T k).2.2.1).before args s = true) (hsame : ∀ x, s.fieldFound? (T k).1 (T k).2.1 (T k).2.2.1 = some x → s.fieldFound? ref (T k).2.1 (T k).2.2.1 = some x) (hfin : (T k).2.2.2 = false) {ty : FieldType} {v : Value} (hd : parseFieldDescriptor (T k).2.2.1 = some ty) (hn : narrow ty v = v) (hfit : fits ty v = true) (hl : k < fs.length)
    (hdg : decode cc pc = .ok (.putfield index, 3)) (kk : ∀ (H1 : Heap) (locs1 : List Loc), va_P D cl (ws.set q0 (a, .inr (ci, fs.set k v))) H1 → va_D Z (ws.set q0 (a, .inr (ci, fs.set k v))) → va_S A H0 H1 locs1 → H1.size = H.size → (∀ q, q ≠ a → H1[q]? = H[q]?) → W p l e R s m args below meth c H1 locs1 cells slots Q (F0 m (pc + 3) ls rest)) : W p l e R s m args below meth c H locs cells slots Q (F0 m pc ls (v :: .ref a :: rest)) := by
  have hap := va_apart (own := own) hts hin ty0 hty hnm hK hc
  obtain ⟨r, h1, cell, q1, q2, q3, q4⟩ := hP q0 _ he
  cases (Option.some.inj (h1.symm.trans hc))
  obtain ⟨hS, hfc, kC, hkC, hkind⟩ := hK.1 ci _ hc
  obtain ⟨cf, kf, fi, f, hi, hsl⟩ := hS k hk
  have hlay := hts _ (hin _ (u_in_lay hk))
  unfold u_lay at hlay
  rw [if_neg (by rw [hfin]; decide)] at hlay
  have hst := (u_facts hfc hkC (u_lays hts hin hk) hi).1
  have h6 := u_store hfc hkC hkind hlay hi hd hn hfit
  refine W.putK hexec hb (f := f) ⟨hown, hlink, ⟨_, _, _, hsame _ hi⟩, hst⟩ (by rw [q2]; exact h6) q1 q3 (by rw [hsl]; exact k2_hasslot (q4 k hk)) rfl rfl hdg fun H' e1 e2 e3 => ?_
  rw [hsl] at e1 ⊢
  exact kk H' _ (hP.set hD he ⟨_, hc, t_OB.to (V := updV (vp_V fs) k v) ⟨_, e1, q2, q3, t_set q4 hap hk v⟩ (fun j _ => vp_updV_set hl v j)⟩ e3) (hD.set he) (hS0.put e2 e3 (hZA _ (hD.2 q0 _ he))) e2 e3
theorem st_iast (hexec : p.tables.exec = Jvm.exec) (hb : c.code = cc) (hK : va_K D cl tys s) (hP : va_P D cl ws H) (hD : va_D Z ws) (hZA : ∀ q, Z q → A q) (hS : va_S A H0 H locs) (q0 t0 : Nat) {cA : ClassId} {n : Nat} {f : Nat → Int32} (ha : ws[q0]? = some (a, .inl (cA, n, .inl f))) (ht : tys[t0]? = some (cA, .int)) {i : Int32} {x : Int32} (hin : vp_in i n) (hdg : decode cc pc = .ok (.iastore, 1))
    (kk : ∀ (H1 : Heap) (locs1 : List Loc), va_P D cl (ws.set q0 (a, .inl (cA, n, .inl (upd f i.toNatClampNeg x)))) H1 → va_D Z (ws.set q0 (a, .inl (cA, n, .inl (upd f i.toNatClampNeg x)))) → va_S A H0 H1 locs1 → H1.size = H.size → (∀ q, q ≠ a → H1[q]? = H[q]?) → W p l e R s m args below meth c H1 locs1 cells slots Q (F0 m (pc + 1) ls rest)) : W p l e R s m args below meth c H locs cells slots Q (F0 m pc ls (.int x :: .int i :: .ref a :: rest)) := by
  refine W.iast hexec hb (hP q0 _ ha) ((hK.2 t0 _ ht).1 n (fun j => .int (f j))) (fun q => by cases q) (by show ¬ (i < 0 ∨ (arrV _ _ _).slots.size ≤ _); rw [arrV_size]; exact hin) rfl rfl hdg fun H1 e z oq => ?_
  refine kk H1 _ (hP.set hD ha ?_ oq) (hD.set ha) (hS.put z oq (hZA _ (hD.2 q0 _ ha))) z oq
  show H1[a]? = some (vp_cell _ _)
  rw [e, vp_cell_i, vp_cell_i, arrV_store]
  congr 2
  funext q
  by_cases hq : q = i.toNatClampNeg
  · subst hq
    simp [updV, upd]
  · simp [updV, upd, hq]
theorem iv_fault (S : bs_F p s m args c cc nL R_TypeBook) (hC : CX γ s) (hI : INV γ A κ H) (hA : ∀ q, H.size ≤ q → A q) (hS : va_S A H0 H locs) (lk : Cond.fieldLink R_TypeBook index R_TypeBook "faultNode" "I" ∈ bs_W0) {x : Int32} (hdg : decode cc pc = .ok (.putfield index, 3))
    (kk : ∀ (H1 : Heap) (locs1 : List Loc), INV γ A κ H1 → va_S A H0 H1 locs1 → W p l e R s m args below meth c H1 locs1 cells slots Q (F0 m (pc + 3) ls rest)) : W p l e R s m args below meth c H locs cells slots Q (F0 m pc ls (.int x :: .ref (γ.2.2.2 0) :: rest)) := by
  obtain ⟨Z, ⟨ws, ⟨b0, f0, vf, va, rfl, h1, h2⟩, hP, hD⟩, hZn, hZA, hback⟩ := inv_lift hI hA 1 (by decide) (by decide)
  refine st_put (D := γ.1) (ci := 0) (v := .int x) (ty := .int) (C := R_TypeBook) (T := T_TypeBook) (N := 7) S.1 S.2.1 S.2.2.2.2 in_TypeBook t_TypeBook t_TypeBook_ok n_TypeBook S.2.2.2.1 hC.1 hP hD hZA hS 0 rfl rfl 6 (by decide) (S.2.2.2.2 _ lk) (fun _ h => h) rfl (by decide +kernel) rfl rfl (Nat.le_of_ble_eq_true rfl) hdg (fun H1 locs1 hP1 hD1 hS1 hz ho => ?_)
  exact kk H1 locs1 (hback κ H1 (fun _ _ _ _ => rfl) ⟨_, ⟨b0, f0, x, va, rfl, h1, h2⟩, hP1, hD1⟩ (Nat.le_of_eq hz.symm) (fun q _ hq => ho q (fun e9 => hq (by rw [e9]; exact hD.2 0 _ rfl)))) hS1
theorem iv_at (S : bs_F p s m args c cc nL R_Looker) (hC : CX γ s) (hI : INV γ A κ H) (hA : ∀ q, H.size ≤ q → A q) (hS : va_S A H0 H locs) (lk : Cond.fieldLink R_Looker index R_Looker "at" "I" ∈ bs_W0) {x : Int32} (hdg : decode cc pc = .ok (.putfield index, 3))
    (kk : ∀ (H1 : Heap) (locs1 : List Loc), INV γ A κ H1 → va_S A H0 H1 locs1 → W p l e R s m args below meth c H1 locs1 cells slots Q (F0 m (pc + 3) ls rest)) : W p l e R s m args below meth c H locs cells slots Q (F0 m pc ls (.int x :: .ref (γ.2.2.2 8) :: rest)) := by
  obtain ⟨Z, ⟨ws, ⟨b0, f0, vf, va, rfl, h1, h2⟩, hP, hD⟩, hZn, hZA, hback⟩ := inv_lift hI hA 1 (by decide) (by decide)
  refine st_put (D := γ.1) (ci := 7) (v := .int x) (ty := .int) (C := R_Looker) (T := T_Looker) (N := 8) S.1 S.2.1 S.2.2.2.2 in_Looker t_Looker t_Looker_ok n_Looker S.2.2.2.1 hC.1 hP hD hZA hS 1 rfl rfl 7 (by decide) (S.2.2.2.2 _ lk) (fun _ h => h) rfl (by decide +kernel) rfl rfl (Nat.le_of_ble_eq_true rfl) hdg (fun H1 locs1 hP1 hD1 hS1 hz ho => ?_)
  exact kk H1 locs1 (hback κ H1 (fun _ _ _ _ => rfl) ⟨_, ⟨b0, f0, vf, x, rfl, h1, h2⟩, hP1, hD1⟩ (Nat.le_of_eq hz.symm) (fun q _ hq => ho q (fun e9 => hq (by rw [e9]; exact hD.2 1 _ rfl)))) hS1
end STS
