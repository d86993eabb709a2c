theorem qw_3df6fda851 : (Cond.methodLink R_Trees 3 Lib.objectInit) ∈ bs_W0 := bs_in (in_tables_1_1 (List.mem_of_getElem? (i := 37) rfl)) rfl
theorem qw_aaa073e22d : (Cond.instanceMethod Lib.objectInit) ∈ bs_W0 := bs_in (in_tables_1_1 (List.mem_of_getElem? (i := 30) rfl)) rfl
set_option maxHeartbeats 4000000 in
set_option maxRecDepth 100000 in
theorem i_Trees (l : Launch) (γ : gE) (s0 : State) (hw0 : SW s0) (a : Nat) (H0 : Heap)   : MS l yTrees_init bTrees_init 1 none 1 12 4 256 [.ref a] γ (fun q => a ≤ q) (ct_P s0 a H0 γ [(a, .inr (1, [.null, .null, .null, .null, .int 0, .int 0]))]) (mQv (fun H => cmp γ (fTrees γ a 0 0 64) (iv a (a + 5)) H ∧ H.size = a + 5) (fun q => a ≤ q)) := by
  refine ms_openV (by decide) (Nat.le_of_ble_eq_true rfl) ?_
  intro p e s m args below meth c ls Q S hnm hC hA hPS hE hl
  obtain ⟨⟨hF0, hA1⟩, hH0, hz, hP⟩ := hPS
  subst hH0
  have hA0 : ∀ q, a ≤ q → s0.heap.size ≤ q := fun q h => Nat.le_trans hA1 h
  have hA : ∀ q, s.heap.size ≤ q → a ≤ q := hA
  obtain ⟨hx, hb, hml, hown, hW⟩ := id S
  have hS : va_S (fun q => a ≤ q) s.heap s.heap [] := va_S.rf
  have hD : va_D (fun q => a ≤ q) [(a, .inr (1, [.null, .null, .null, .null, .int 0, .int 0]))] := one_D (Nat.le_refl a)
  have hl : lv_has ls 1 [(0, .ref a)] := hl
  refine lv_aload_n hx hb dTrees_init_0 rfl (lv_at hl 0 rfl) ?_
  refine W.objInit hx hb hown (hW _ qw_3df6fda851) (hW _ qw_aaa073e22d) (hW _ qc_obj) rfl (hl.1.trans hml.symm) rfl dTrees_init_1 (Nat.le_of_ble_eq_true rfl) (Nat.le_of_ble_eq_true rfl) ?_
  refine lv_aload_n hx hb dTrees_init_4 rfl (lv_at hl 0 rfl) ?_
  refine lv_bipush (v := 64) hx hb dTrees_init_5 (by decide) ?_
  refine cw_newa S hC qw_8e969fb20a hP hD hS hA hz 64 rfl (by omega) (Nat.le_of_ble_eq_true rfl) (Nat.le_of_ble_eq_true rfl) dTrees_init_7 (fun H hP hD hS hz hk9 => ?_)
  have hz : H.size = a + 2 := hz
  have hP : va_P γ.1 vwCl [(a, .inr (1, [.null, .null, .null, .null, .int 0, .int 0])), (a + 1, .inl (γ.2.1, 64, .inl (fun _ => 0)))] _ := hP
  have hD : va_D _ [(a, .inr (1, [.null, .null, .null, .null, .int 0, .int 0])), (a + 1, .inl (γ.2.1, 64, .inl (fun _ => 0)))] := hD
  refine st_put (D := γ.1) (ci := 1) (v := .ref (a + 1)) (ty := .array .int) (C := R_Trees) (T := T_Trees) (N := 6) (Ts := bs_W0) hx hb hW in_Trees t_Trees t_Trees_ok n_Trees hown hC.1 hP hD (fun q h => h) hS 0 rfl rfl 0 (by decide) (hW _ qw_ffd9ddfb57) (fun _ h9 => h9) rfl (by decide +kernel) rfl rfl (Nat.le_of_ble_eq_true rfl) dTrees_init_9 (fun H locs hP hD hS hz9 ho9 => ?_)
  have hz : H.size = a + 2 := hz9.trans hz
  have hP : va_P γ.1 vwCl [(a, .inr (1, [.ref (a + 1), .null, .null, .null, .int 0, .int 0])), (a + 1, .inl (γ.2.1, 64, .inl (fun _ => 0)))] _ := hP
  have hD : va_D _ [(a, .inr (1, [.ref (a + 1), .null, .null, .null, .int 0, .int 0])), (a + 1, .inl (γ.2.1, 64, .inl (fun _ => 0)))] := hD
  refine lv_aload_n hx hb dTrees_init_12 rfl (lv_at hl 0 rfl) ?_
  refine lv_bipush (v := 64) hx hb dTrees_init_13 (by decide) ?_
  refine cw_newa S hC qw_8e969fb20a hP hD hS hA hz 64 rfl (by omega) (Nat.le_of_ble_eq_true rfl) (Nat.le_of_ble_eq_true rfl) dTrees_init_15 (fun H hP hD hS hz hk9 => ?_)
  have hz : H.size = a + 3 := hz
  have hP : va_P γ.1 vwCl [(a, .inr (1, [.ref (a + 1), .null, .null, .null, .int 0, .int 0])), (a + 1, .inl (γ.2.1, 64, .inl (fun _ => 0))), (a + 2, .inl (γ.2.1, 64, .inl (fun _ => 0)))] _ := hP
  have hD : va_D _ [(a, .inr (1, [.ref (a + 1), .null, .null, .null, .int 0, .int 0])), (a + 1, .inl (γ.2.1, 64, .inl (fun _ => 0))), (a + 2, .inl (γ.2.1, 64, .inl (fun _ => 0)))] := hD
  refine st_put (D := γ.1) (ci := 1) (v := .ref (a + 2)) (ty := .array .int) (C := R_Trees) (T := T_Trees) (N := 6) (Ts := bs_W0) hx hb hW in_Trees t_Trees t_Trees_ok n_Trees hown hC.1 hP hD (fun q h => h) hS 0 rfl rfl 1 (by decide) (hW _ qw_fdd50f5077) (fun _ h9 => h9) rfl (by decide +kernel) rfl rfl (Nat.le_of_ble_eq_true rfl) dTrees_init_17 (fun H locs hP hD hS hz9 ho9 => ?_)
  have hz : H.size = a + 3 := hz9.trans hz
  have hP : va_P γ.1 vwCl [(a, .inr (1, [.ref (a + 1), .ref (a + 2), .null, .null, .int 0, .int 0])), (a + 1, .inl (γ.2.1, 64, .inl (fun _ => 0))), (a + 2, .inl (γ.2.1, 64, .inl (fun _ => 0)))] _ := hP
  have hD : va_D _ [(a, .inr (1, [.ref (a + 1), .ref (a + 2), .null, .null, .int 0, .int 0])), (a + 1, .inl (γ.2.1, 64, .inl (fun _ => 0))), (a + 2, .inl (γ.2.1, 64, .inl (fun _ => 0)))] := hD
  refine lv_aload_n hx hb dTrees_init_20 rfl (lv_at hl 0 rfl) ?_
  refine lv_bipush (v := 64) hx hb dTrees_init_21 (by decide) ?_
  refine cw_newa S hC qw_8e969fb20a hP hD hS hA hz 64 rfl (by omega) (Nat.le_of_ble_eq_true rfl) (Nat.le_of_ble_eq_true rfl) dTrees_init_23 (fun H hP hD hS hz hk9 => ?_)
  have hz : H.size = a + 4 := hz
  have hP : va_P γ.1 vwCl [(a, .inr (1, [.ref (a + 1), .ref (a + 2), .null, .null, .int 0, .int 0])), (a + 1, .inl (γ.2.1, 64, .inl (fun _ => 0))), (a + 2, .inl (γ.2.1, 64, .inl (fun _ => 0))), (a + 3, .inl (γ.2.1, 64, .inl (fun _ => 0)))] _ := hP
  have hD : va_D _ [(a, .inr (1, [.ref (a + 1), .ref (a + 2), .null, .null, .int 0, .int 0])), (a + 1, .inl (γ.2.1, 64, .inl (fun _ => 0))), (a + 2, .inl (γ.2.1, 64, .inl (fun _ => 0))), (a + 3, .inl (γ.2.1, 64, .inl (fun _ => 0)))] := hD
  refine st_put (D := γ.1) (ci := 1) (v := .ref (a + 3)) (ty := .array .int) (C := R_Trees) (T := T_Trees) (N := 6) (Ts := bs_W0) hx hb hW in_Trees t_Trees t_Trees_ok n_Trees hown hC.1 hP hD (fun q h => h) hS 0 rfl rfl 2 (by decide) (hW _ qw_887ccc8355) (fun _ h9 => h9) rfl (by decide +kernel) rfl rfl (Nat.le_of_ble_eq_true rfl) dTrees_init_25 (fun H locs hP hD hS hz9 ho9 => ?_)
  have hz : H.size = a + 4 := hz9.trans hz
  have hP : va_P γ.1 vwCl [(a, .inr (1, [.ref (a + 1), .ref (a + 2), .ref (a + 3), .null, .int 0, .int 0])), (a + 1, .inl (γ.2.1, 64, .inl (fun _ => 0))), (a + 2, .inl (γ.2.1, 64, .inl (fun _ => 0))), (a + 3, .inl (γ.2.1, 64, .inl (fun _ => 0)))] _ := hP
  have hD : va_D _ [(a, .inr (1, [.ref (a + 1), .ref (a + 2), .ref (a + 3), .null, .int 0, .int 0])), (a + 1, .inl (γ.2.1, 64, .inl (fun _ => 0))), (a + 2, .inl (γ.2.1, 64, .inl (fun _ => 0))), (a + 3, .inl (γ.2.1, 64, .inl (fun _ => 0)))] := hD
  refine lv_aload_n hx hb dTrees_init_28 rfl (lv_at hl 0 rfl) ?_
  refine lv_bipush (v := 64) hx hb dTrees_init_29 (by decide) ?_
  refine cw_newa S hC qw_8e969fb20a hP hD hS hA hz 64 rfl (by omega) (Nat.le_of_ble_eq_true rfl) (Nat.le_of_ble_eq_true rfl) dTrees_init_31 (fun H hP hD hS hz hk9 => ?_)
  have hz : H.size = a + 5 := hz
  have hP : va_P γ.1 vwCl [(a, .inr (1, [.ref (a + 1), .ref (a + 2), .ref (a + 3), .null, .int 0, .int 0])), (a + 1, .inl (γ.2.1, 64, .inl (fun _ => 0))), (a + 2, .inl (γ.2.1, 64, .inl (fun _ => 0))), (a + 3, .inl (γ.2.1, 64, .inl (fun _ => 0))), (a + 4, .inl (γ.2.1, 64, .inl (fun _ => 0)))] _ := hP
  have hD : va_D _ [(a, .inr (1, [.ref (a + 1), .ref (a + 2), .ref (a + 3), .null, .int 0, .int 0])), (a + 1, .inl (γ.2.1, 64, .inl (fun _ => 0))), (a + 2, .inl (γ.2.1, 64, .inl (fun _ => 0))), (a + 3, .inl (γ.2.1, 64, .inl (fun _ => 0))), (a + 4, .inl (γ.2.1, 64, .inl (fun _ => 0)))] := hD
  refine st_put (D := γ.1) (ci := 1) (v := .ref (a + 4)) (ty := .array .int) (C := R_Trees) (T := T_Trees) (N := 6) (Ts := bs_W0) hx hb hW in_Trees t_Trees t_Trees_ok n_Trees hown hC.1 hP hD (fun q h => h) hS 0 rfl rfl 3 (by decide) (hW _ qw_3682c3415f) (fun _ h9 => h9) rfl (by decide +kernel) rfl rfl (Nat.le_of_ble_eq_true rfl) dTrees_init_33 (fun H locs hP hD hS hz9 ho9 => ?_)
  have hz : H.size = a + 5 := hz9.trans hz
  have hP : va_P γ.1 vwCl [(a, .inr (1, [.ref (a + 1), .ref (a + 2), .ref (a + 3), .ref (a + 4), .int 0, .int 0])), (a + 1, .inl (γ.2.1, 64, .inl (fun _ => 0))), (a + 2, .inl (γ.2.1, 64, .inl (fun _ => 0))), (a + 3, .inl (γ.2.1, 64, .inl (fun _ => 0))), (a + 4, .inl (γ.2.1, 64, .inl (fun _ => 0)))] _ := hP
  have hD : va_D _ [(a, .inr (1, [.ref (a + 1), .ref (a + 2), .ref (a + 3), .ref (a + 4), .int 0, .int 0])), (a + 1, .inl (γ.2.1, 64, .inl (fun _ => 0))), (a + 2, .inl (γ.2.1, 64, .inl (fun _ => 0))), (a + 3, .inl (γ.2.1, 64, .inl (fun _ => 0))), (a + 4, .inl (γ.2.1, 64, .inl (fun _ => 0)))] := hD
  refine lv_aload_n hx hb dTrees_init_36 rfl (lv_at hl 0 rfl) ?_
  refine lv_iconst (v := 0) hx hb dTrees_init_37 (by decide) ?_
  refine st_put (D := γ.1) (ci := 1) (v := .int 0) (ty := .int) (C := R_Trees) (T := T_Trees) (N := 6) (Ts := bs_W0) hx hb hW in_Trees t_Trees t_Trees_ok n_Trees hown hC.1 hP hD (fun q h => h) hS 0 rfl rfl 4 (by decide) (hW _ qw_adbe8dbe65) (fun _ h9 => h9) rfl (by decide +kernel) rfl rfl (Nat.le_of_ble_eq_true rfl) dTrees_init_38 (fun H locs hP hD hS hz9 ho9 => ?_)
  have hz : H.size = a + 5 := hz9.trans hz
  have hP : va_P γ.1 vwCl [(a, .inr (1, [.ref (a + 1), .ref (a + 2), .ref (a + 3), .ref (a + 4), .int 0, .int 0])), (a + 1, .inl (γ.2.1, 64, .inl (fun _ => 0))), (a + 2, .inl (γ.2.1, 64, .inl (fun _ => 0))), (a + 3, .inl (γ.2.1, 64, .inl (fun _ => 0))), (a + 4, .inl (γ.2.1, 64, .inl (fun _ => 0)))] _ := hP
  have hD : va_D _ [(a, .inr (1, [.ref (a + 1), .ref (a + 2), .ref (a + 3), .ref (a + 4), .int 0, .int 0])), (a + 1, .inl (γ.2.1, 64, .inl (fun _ => 0))), (a + 2, .inl (γ.2.1, 64, .inl (fun _ => 0))), (a + 3, .inl (γ.2.1, 64, .inl (fun _ => 0))), (a + 4, .inl (γ.2.1, 64, .inl (fun _ => 0)))] := hD
  refine lv_aload_n hx hb dTrees_init_41 rfl (lv_at hl 0 rfl) ?_
  refine lv_iconst (v := 0) hx hb dTrees_init_42 (by decide) ?_
  refine st_put (D := γ.1) (ci := 1) (v := .int 0) (ty := .int) (C := R_Trees) (T := T_Trees) (N := 6) (Ts := bs_W0) hx hb hW in_Trees t_Trees t_Trees_ok n_Trees hown hC.1 hP hD (fun q h => h) hS 0 rfl rfl 5 (by decide) (hW _ qw_986a639143) (fun _ h9 => h9) rfl (by decide +kernel) rfl rfl (Nat.le_of_ble_eq_true rfl) dTrees_init_43 (fun H locs hP hD hS hz9 ho9 => ?_)
  have hz : H.size = a + 5 := hz9.trans hz
  have hP : va_P γ.1 vwCl [(a, .inr (1, [.ref (a + 1), .ref (a + 2), .ref (a + 3), .ref (a + 4), .int 0, .int 0])), (a + 1, .inl (γ.2.1, 64, .inl (fun _ => 0))), (a + 2, .inl (γ.2.1, 64, .inl (fun _ => 0))), (a + 3, .inl (γ.2.1, 64, .inl (fun _ => 0))), (a + 4, .inl (γ.2.1, 64, .inl (fun _ => 0)))] _ := hP
  have hD : va_D _ [(a, .inr (1, [.ref (a + 1), .ref (a + 2), .ref (a + 3), .ref (a + 4), .int 0, .int 0])), (a + 1, .inl (γ.2.1, 64, .inl (fun _ => 0))), (a + 2, .inl (γ.2.1, 64, .inl (fun _ => 0))), (a + 3, .inl (γ.2.1, 64, .inl (fun _ => 0))), (a + 4, .inl (γ.2.1, 64, .inl (fun _ => 0)))] := hD
  refine hE _ _ _ _ _ _ hS (Nat.le_of_ble_eq_true rfl) (Nat.le_of_ble_eq_true rfl) (fun hG => ?_) dTrees_init_46
  exact ⟨iv_of ⟨_, ⟨(a + 1), (a + 2), (a + 3), (a + 4), (fun _ => 0), (fun _ => 0), (fun _ => 0), (fun _ => 0), rfl, (Nat.le_of_ble_eq_true rfl), (Nat.le_of_ble_eq_true rfl), (Nat.le_of_ble_eq_true rfl), (Nat.le_of_ble_eq_true rfl), fun k hk => absurd hk (Nat.not_lt_zero k), fun k hk => absurd hk (Nat.not_lt_zero k)⟩, hP, hD⟩ hz, hz⟩
