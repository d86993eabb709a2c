theorem qw_7252111190 : (Cond.methodLink R_Operators 3 Lib.objectInit) ∈ bs_W0 := bs_in (in_tables_1_1 (List.mem_of_getElem? (i := 239) rfl)) rfl
set_option maxHeartbeats 4000000 in
set_option maxRecDepth 100000 in
theorem i_Operators (l : Launch) (γ : gE) (s0 : State) (hw0 : SW s0) (a : Nat) (H0 : Heap) (t1 : Nat)  : MS l yOperators_init bOperators_init 2 none 1 12 0 0 [.ref a, .ref t1] γ (fun q => a ≤ q) (ct_P s0 a H0 γ [(a, .inr (8, [.null]))]) (mQv (fun H => cmp γ (fun ws => ws = [(a, .inr (8, [.ref t1]))]) (iv a (a + 1)) H ∧ H.size = a + 1) (fun q => a ≤ q)) := by
  refine ms_openV (by decide) (Nat.le_of_ble_eq_true rfl) ?_
  intro p e s m args below meth c ls Q S hnm hC hA hPS hE hl
  obtain ⟨⟨hF0, hA1⟩, hH0, hz, hP⟩ := hPS
  subst hH0
  have hA0 : ∀ q, a ≤ q → s0.heap.size ≤ q := fun q h => Nat.le_trans hA1 h
  have hA : ∀ q, s.heap.size ≤ q → a ≤ q := hA
  obtain ⟨hx, hb, hml, hown, hW⟩ := id S
  have hS : va_S (fun q => a ≤ q) s.heap s.heap [] := va_S.rf
  have hD : va_D (fun q => a ≤ q) [(a, .inr (8, [.null]))] := one_D (Nat.le_refl a)
  have hl : lv_has ls 2 [(0, .ref a), (1, .ref t1)] := hl
  refine lv_aload_n hx hb dOperators_init_0 rfl (lv_at hl 0 rfl) ?_
  refine W.objInit hx hb hown (hW _ qw_7252111190) (hW _ qw_aaa073e22d) (hW _ qc_obj) rfl (hl.1.trans hml.symm) rfl dOperators_init_1 (Nat.le_of_ble_eq_true rfl) (Nat.le_of_ble_eq_true rfl) ?_
  refine lv_aload_n hx hb dOperators_init_4 rfl (lv_at hl 0 rfl) ?_
  refine lv_aload_n hx hb dOperators_init_5 rfl (lv_at hl 1 rfl) ?_
  refine st_putF (D := γ.1) (ci := 8) (v := .ref t1) (ty := .object "TypeBook$Looks") (C := R_Operators) (T := T_Operators) (N := 1) (Ts := bs_W0) hx hb hW in_Operators t_Operators t_Operators_ok n_Operators hown hC.1 hP hD (fun q h => h) hS 0 rfl rfl 0 (by decide) (hW _ qw_46160f6e07) (fun _ h9 => h9) rfl hnm rfl (by decide +kernel) rfl rfl (Nat.le_of_ble_eq_true rfl) dOperators_init_6 (fun H locs hP hD hS hz9 ho9 => ?_)
  have hz : H.size = a + 1 := hz9.trans hz
  have hP : va_P γ.1 vwCl [(a, .inr (8, [.ref t1]))] _ := hP
  have hD : va_D _ [(a, .inr (8, [.ref t1]))] := hD
  refine hE _ _ _ _ _ _ hS (Nat.le_of_ble_eq_true rfl) (Nat.le_of_ble_eq_true rfl) (fun hG => ?_) dOperators_init_9
  exact ⟨iv_of ⟨_, rfl, hP, hD⟩ hz, hz⟩
