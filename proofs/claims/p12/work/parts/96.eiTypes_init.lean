theorem qw_f0d7e04424 : (Cond.methodLink R_Types 3 Lib.objectInit) ∈ bs_W0 := bs_in (in_tables_1_1 (List.mem_of_getElem? (i := 133) rfl)) rfl
theorem qw_3143413b72 : (Cond.methodLink R_Types 28 yTypes_put) ∈ bs_W0 := bs_in (in_tables_1_1 (List.mem_of_getElem? (i := 134) rfl)) rfl
theorem qw_079460d786 : (Cond.constant R_Types 32 (-2147483647)) ∈ bs_W0 := bs_in (in_tables_1_1 (List.mem_of_getElem? (i := 139) rfl)) rfl
theorem qw_3e6fd5ff1a : (Cond.constant R_Types 33 2147483647) ∈ bs_W0 := bs_in (in_tables_1_1 (List.mem_of_getElem? (i := 140) rfl)) rfl
set_option maxHeartbeats 4000000 in
set_option maxRecDepth 100000 in
theorem i_Types (l : Launch) (γ : gE) (s0 : State) (hw0 : SW s0) (a : Nat) (H0 : Heap)   : MS l yTypes_init bTypes_init 1 none 4 127 4 64 [.ref a] γ (fun q => a ≤ q) (ct_P s0 a H0 γ [(a, .inr (3, [.null, .null, .null, .null, .int 0]))]) (mQv (fun H => cmp γ (fTypes γ a 5 16) (iv a (a + 5)) H ∧ H.size = a + 5) (fun q => a ≤ q)) := by
  refine ms_openV (by decide) (Nat.le_of_ble_eq_true rfl) ?_
  intro p e s m args below meth c ls Q S hnm hC hA hPS hE hl
  obtain ⟨⟨hF0, hA1⟩, hH0, hz, hP⟩ := hPS
  subst hH0
  have hA0 : ∀ q, a ≤ q → s0.heap.size ≤ q := fun q h => Nat.le_trans hA1 h
  have hA : ∀ q, s.heap.size ≤ q → a ≤ q := hA
  obtain ⟨hx, hb, hml, hown, hW⟩ := id S
  have hS : va_S (fun q => a ≤ q) s.heap s.heap [] := va_S.rf
  have hD : va_D (fun q => a ≤ q) [(a, .inr (3, [.null, .null, .null, .null, .int 0]))] := one_D (Nat.le_refl a)
  have hl : lv_has ls 1 [(0, .ref a)] := hl
  refine lv_aload_n hx hb dTypes_init_0 rfl (lv_at hl 0 rfl) ?_
  refine W.objInit hx hb hown (hW _ qw_f0d7e04424) (hW _ qw_aaa073e22d) (hW _ qc_obj) rfl (hl.1.trans hml.symm) rfl dTypes_init_1 (Nat.le_of_ble_eq_true rfl) (Nat.le_of_ble_eq_true rfl) ?_
  refine lv_aload_n hx hb dTypes_init_4 rfl (lv_at hl 0 rfl) ?_
  refine lv_bipush (v := 16) hx hb dTypes_init_5 (by decide) ?_
  refine cw_newa S hC qw_8e969fb20a hP hD hS hA hz 16 rfl (by omega) (Nat.le_of_ble_eq_true rfl) (Nat.le_of_ble_eq_true rfl) dTypes_init_7 (fun H hP hD hS hz hk9 => ?_)
  have hz : H.size = a + 2 := hz
  have hP : va_P γ.1 vwCl [(a, .inr (3, [.null, .null, .null, .null, .int 0])), (a + 1, .inl (γ.2.1, 16, .inl (fun _ => 0)))] _ := hP
  have hD : va_D _ [(a, .inr (3, [.null, .null, .null, .null, .int 0])), (a + 1, .inl (γ.2.1, 16, .inl (fun _ => 0)))] := hD
  refine st_put (D := γ.1) (ci := 3) (v := .ref (a + 1)) (ty := .array .int) (C := R_Types) (T := T_Types) (N := 5) (Ts := bs_W0) hx hb hW in_Types t_Types t_Types_ok n_Types hown hC.1 hP hD (fun q h => h) hS 0 rfl rfl 0 (by decide) (hW _ qw_9652573c2f) (fun _ h9 => h9) rfl (by decide +kernel) rfl rfl (Nat.le_of_ble_eq_true rfl) dTypes_init_9 (fun H locs hP hD hS hz9 ho9 => ?_)
  have hz : H.size = a + 2 := hz9.trans hz
  have hP : va_P γ.1 vwCl [(a, .inr (3, [.ref (a + 1), .null, .null, .null, .int 0])), (a + 1, .inl (γ.2.1, 16, .inl (fun _ => 0)))] _ := hP
  have hD : va_D _ [(a, .inr (3, [.ref (a + 1), .null, .null, .null, .int 0])), (a + 1, .inl (γ.2.1, 16, .inl (fun _ => 0)))] := hD
  refine lv_aload_n hx hb dTypes_init_12 rfl (lv_at hl 0 rfl) ?_
  refine lv_bipush (v := 16) hx hb dTypes_init_13 (by decide) ?_
  refine cw_newa S hC qw_8e969fb20a hP hD hS hA hz 16 rfl (by omega) (Nat.le_of_ble_eq_true rfl) (Nat.le_of_ble_eq_true rfl) dTypes_init_15 (fun H hP hD hS hz hk9 => ?_)
  have hz : H.size = a + 3 := hz
  have hP : va_P γ.1 vwCl [(a, .inr (3, [.ref (a + 1), .null, .null, .null, .int 0])), (a + 1, .inl (γ.2.1, 16, .inl (fun _ => 0))), (a + 2, .inl (γ.2.1, 16, .inl (fun _ => 0)))] _ := hP
  have hD : va_D _ [(a, .inr (3, [.ref (a + 1), .null, .null, .null, .int 0])), (a + 1, .inl (γ.2.1, 16, .inl (fun _ => 0))), (a + 2, .inl (γ.2.1, 16, .inl (fun _ => 0)))] := hD
  refine st_put (D := γ.1) (ci := 3) (v := .ref (a + 2)) (ty := .array .int) (C := R_Types) (T := T_Types) (N := 5) (Ts := bs_W0) hx hb hW in_Types t_Types t_Types_ok n_Types hown hC.1 hP hD (fun q h => h) hS 0 rfl rfl 1 (by decide) (hW _ qw_3e3b315a67) (fun _ h9 => h9) rfl (by decide +kernel) rfl rfl (Nat.le_of_ble_eq_true rfl) dTypes_init_17 (fun H locs hP hD hS hz9 ho9 => ?_)
  have hz : H.size = a + 3 := hz9.trans hz
  have hP : va_P γ.1 vwCl [(a, .inr (3, [.ref (a + 1), .ref (a + 2), .null, .null, .int 0])), (a + 1, .inl (γ.2.1, 16, .inl (fun _ => 0))), (a + 2, .inl (γ.2.1, 16, .inl (fun _ => 0)))] _ := hP
  have hD : va_D _ [(a, .inr (3, [.ref (a + 1), .ref (a + 2), .null, .null, .int 0])), (a + 1, .inl (γ.2.1, 16, .inl (fun _ => 0))), (a + 2, .inl (γ.2.1, 16, .inl (fun _ => 0)))] := hD
  refine lv_aload_n hx hb dTypes_init_20 rfl (lv_at hl 0 rfl) ?_
  refine lv_bipush (v := 16) hx hb dTypes_init_21 (by decide) ?_
  refine cw_newa S hC qw_8e969fb20a hP hD hS hA hz 16 rfl (by omega) (Nat.le_of_ble_eq_true rfl) (Nat.le_of_ble_eq_true rfl) dTypes_init_23 (fun H hP hD hS hz hk9 => ?_)
  have hz : H.size = a + 4 := hz
  have hP : va_P γ.1 vwCl [(a, .inr (3, [.ref (a + 1), .ref (a + 2), .null, .null, .int 0])), (a + 1, .inl (γ.2.1, 16, .inl (fun _ => 0))), (a + 2, .inl (γ.2.1, 16, .inl (fun _ => 0))), (a + 3, .inl (γ.2.1, 16, .inl (fun _ => 0)))] _ := hP
  have hD : va_D _ [(a, .inr (3, [.ref (a + 1), .ref (a + 2), .null, .null, .int 0])), (a + 1, .inl (γ.2.1, 16, .inl (fun _ => 0))), (a + 2, .inl (γ.2.1, 16, .inl (fun _ => 0))), (a + 3, .inl (γ.2.1, 16, .inl (fun _ => 0)))] := hD
  refine st_put (D := γ.1) (ci := 3) (v := .ref (a + 3)) (ty := .array .int) (C := R_Types) (T := T_Types) (N := 5) (Ts := bs_W0) hx hb hW in_Types t_Types t_Types_ok n_Types hown hC.1 hP hD (fun q h => h) hS 0 rfl rfl 2 (by decide) (hW _ qw_dd571233a8) (fun _ h9 => h9) rfl (by decide +kernel) rfl rfl (Nat.le_of_ble_eq_true rfl) dTypes_init_25 (fun H locs hP hD hS hz9 ho9 => ?_)
  have hz : H.size = a + 4 := hz9.trans hz
  have hP : va_P γ.1 vwCl [(a, .inr (3, [.ref (a + 1), .ref (a + 2), .ref (a + 3), .null, .int 0])), (a + 1, .inl (γ.2.1, 16, .inl (fun _ => 0))), (a + 2, .inl (γ.2.1, 16, .inl (fun _ => 0))), (a + 3, .inl (γ.2.1, 16, .inl (fun _ => 0)))] _ := hP
  have hD : va_D _ [(a, .inr (3, [.ref (a + 1), .ref (a + 2), .ref (a + 3), .null, .int 0])), (a + 1, .inl (γ.2.1, 16, .inl (fun _ => 0))), (a + 2, .inl (γ.2.1, 16, .inl (fun _ => 0))), (a + 3, .inl (γ.2.1, 16, .inl (fun _ => 0)))] := hD
  refine lv_aload_n hx hb dTypes_init_28 rfl (lv_at hl 0 rfl) ?_
  refine lv_bipush (v := 16) hx hb dTypes_init_29 (by decide) ?_
  refine cw_newa S hC qw_8e969fb20a hP hD hS hA hz 16 rfl (by omega) (Nat.le_of_ble_eq_true rfl) (Nat.le_of_ble_eq_true rfl) dTypes_init_31 (fun H hP hD hS hz hk9 => ?_)
  have hz : H.size = a + 5 := hz
  have hP : va_P γ.1 vwCl [(a, .inr (3, [.ref (a + 1), .ref (a + 2), .ref (a + 3), .null, .int 0])), (a + 1, .inl (γ.2.1, 16, .inl (fun _ => 0))), (a + 2, .inl (γ.2.1, 16, .inl (fun _ => 0))), (a + 3, .inl (γ.2.1, 16, .inl (fun _ => 0))), (a + 4, .inl (γ.2.1, 16, .inl (fun _ => 0)))] _ := hP
  have hD : va_D _ [(a, .inr (3, [.ref (a + 1), .ref (a + 2), .ref (a + 3), .null, .int 0])), (a + 1, .inl (γ.2.1, 16, .inl (fun _ => 0))), (a + 2, .inl (γ.2.1, 16, .inl (fun _ => 0))), (a + 3, .inl (γ.2.1, 16, .inl (fun _ => 0))), (a + 4, .inl (γ.2.1, 16, .inl (fun _ => 0)))] := hD
  refine st_put (D := γ.1) (ci := 3) (v := .ref (a + 4)) (ty := .array .int) (C := R_Types) (T := T_Types) (N := 5) (Ts := bs_W0) hx hb hW in_Types t_Types t_Types_ok n_Types hown hC.1 hP hD (fun q h => h) hS 0 rfl rfl 3 (by decide) (hW _ qw_dded4610c2) (fun _ h9 => h9) rfl (by decide +kernel) rfl rfl (Nat.le_of_ble_eq_true rfl) dTypes_init_33 (fun H locs hP hD hS hz9 ho9 => ?_)
  have hz : H.size = a + 5 := hz9.trans hz
  have hP : va_P γ.1 vwCl [(a, .inr (3, [.ref (a + 1), .ref (a + 2), .ref (a + 3), .ref (a + 4), .int 0])), (a + 1, .inl (γ.2.1, 16, .inl (fun _ => 0))), (a + 2, .inl (γ.2.1, 16, .inl (fun _ => 0))), (a + 3, .inl (γ.2.1, 16, .inl (fun _ => 0))), (a + 4, .inl (γ.2.1, 16, .inl (fun _ => 0)))] _ := hP
  have hD : va_D _ [(a, .inr (3, [.ref (a + 1), .ref (a + 2), .ref (a + 3), .ref (a + 4), .int 0])), (a + 1, .inl (γ.2.1, 16, .inl (fun _ => 0))), (a + 2, .inl (γ.2.1, 16, .inl (fun _ => 0))), (a + 3, .inl (γ.2.1, 16, .inl (fun _ => 0))), (a + 4, .inl (γ.2.1, 16, .inl (fun _ => 0)))] := hD
  refine lv_aload_n hx hb dTypes_init_36 rfl (lv_at hl 0 rfl) ?_
  refine lv_iconst (v := 0) hx hb dTypes_init_37 (by decide) ?_
  refine st_put (D := γ.1) (ci := 3) (v := .int 0) (ty := .int) (C := R_Types) (T := T_Types) (N := 5) (Ts := bs_W0) hx hb hW in_Types t_Types t_Types_ok n_Types hown hC.1 hP hD (fun q h => h) hS 0 rfl rfl 4 (by decide) (hW _ qw_f9da65449d) (fun _ h9 => h9) rfl (by decide +kernel) rfl rfl (Nat.le_of_ble_eq_true rfl) dTypes_init_38 (fun H locs hP hD hS hz9 ho9 => ?_)
  have hz : H.size = a + 5 := hz9.trans hz
  have hP : va_P γ.1 vwCl [(a, .inr (3, [.ref (a + 1), .ref (a + 2), .ref (a + 3), .ref (a + 4), .int 0])), (a + 1, .inl (γ.2.1, 16, .inl (fun _ => 0))), (a + 2, .inl (γ.2.1, 16, .inl (fun _ => 0))), (a + 3, .inl (γ.2.1, 16, .inl (fun _ => 0))), (a + 4, .inl (γ.2.1, 16, .inl (fun _ => 0)))] _ := hP
  have hD : va_D _ [(a, .inr (3, [.ref (a + 1), .ref (a + 2), .ref (a + 3), .ref (a + 4), .int 0])), (a + 1, .inl (γ.2.1, 16, .inl (fun _ => 0))), (a + 2, .inl (γ.2.1, 16, .inl (fun _ => 0))), (a + 3, .inl (γ.2.1, 16, .inl (fun _ => 0))), (a + 4, .inl (γ.2.1, 16, .inl (fun _ => 0)))] := hD
  refine lv_aload_n hx hb dTypes_init_41 rfl (lv_at hl 0 rfl) ?_
  refine lv_iconst (v := 0) hx hb dTypes_init_42 (by decide) ?_
  refine lv_iconst (v := 0) hx hb dTypes_init_43 (by decide) ?_
  refine lv_iconst (v := 0) hx hb dTypes_init_44 (by decide) ?_
  refine lv_iconst (v := 0) hx hb dTypes_init_45 (by decide) ?_
  have hI : cmp γ (fTypes γ a 0 16) (fun q => a ≤ q) _ := ⟨_, ⟨(a + 1), (a + 2), (a + 3), (a + 4), (fun _ => 0), (fun _ => 0), (fun _ => 0), (fun _ => 0), rfl, (Nat.le_of_ble_eq_true rfl), (Nat.le_of_ble_eq_true rfl), (Nat.le_of_ble_eq_true rfl)⟩, hP, hD⟩
  refine mu_Vi (rest := []) S hC (fun q h => hA q (Nat.le_trans hS.1 h)) (fun q h => h) hS (c_Types_put l γ (fun q => a ≤ q) a 0 16 0 0 0 0 (by omega)) meTypes_put qw_3143413b72 ⟨(Nat.le_of_ble_eq_true rfl), (Nat.le_of_ble_eq_true rfl)⟩ (va_recv hC.1 hP (ci := 3) (q0 := 0) rfl rfl) hI rfl hl.1 rfl (Nat.le_of_ble_eq_true rfl) dTypes_init_46 ⟨(Nat.le_of_ble_eq_true rfl), (Nat.le_of_ble_eq_true rfl)⟩ (fun r6 H1 locs ⟨hr6, hI⟩ hS hz9 _ => ?_)
  have hI : cmp γ (fTypes γ a 1 16) (fun q => a ≤ q) _ := hI
  have hz9 : a + 5 ≤ H1.size := by omega
  refine W.cs (cells' := 0 + 1 + 1 + 1 + 1) (slots' := 0 + 16 + 16 + 16 + 16) rfl rfl ?_
  refine lv_pop hx hb dTypes_init_49 rfl ?_
  refine lv_aload_n hx hb dTypes_init_50 rfl (lv_at hl 0 rfl) ?_
  refine lv_iconst (v := 1) hx hb dTypes_init_51 (by decide) ?_
  refine lv_iconst (v := 0) hx hb dTypes_init_52 (by decide) ?_
  refine lv_iconst (v := 0) hx hb dTypes_init_53 (by decide) ?_
  refine lv_iconst (v := 0) hx hb dTypes_init_54 (by decide) ?_
  obtain ⟨ws_1, ⟨b0_1, b1_1, b2_1, b3_1, f0_1, f1_1, f2_1, f3_1, rfl, -, -, -⟩, hP, hD⟩ := id hI
  refine mu_Vi (rest := []) S hC (fun q h => hA q (Nat.le_trans hS.1 h)) (fun q h => h) hS (c_Types_put l γ (fun q => a ≤ q) a 1 16 1 0 0 0 (by omega)) meTypes_put qw_3143413b72 ⟨(Nat.le_of_ble_eq_true rfl), (Nat.le_of_ble_eq_true rfl)⟩ (va_recv hC.1 hP (ci := 3) (q0 := 0) rfl rfl) hI rfl hl.1 rfl (Nat.le_of_ble_eq_true rfl) dTypes_init_55 ⟨(Nat.le_of_ble_eq_true rfl), (Nat.le_of_ble_eq_true rfl)⟩ (fun r7 H1 locs ⟨hr7, hI⟩ hS hz9 _ => ?_)
  have hI : cmp γ (fTypes γ a 2 16) (fun q => a ≤ q) _ := hI
  have hz9 : a + 5 ≤ H1.size := by omega
  refine W.cs (cells' := 0 + 1 + 1 + 1 + 1) (slots' := 0 + 16 + 16 + 16 + 16) rfl rfl ?_
  refine lv_pop hx hb dTypes_init_58 rfl ?_
  refine lv_aload_n hx hb dTypes_init_59 rfl (lv_at hl 0 rfl) ?_
  refine lv_iconst (v := 2) hx hb dTypes_init_60 (by decide) ?_
  refine lv_ldc (v := (-2147483647)) hx hb hown (hW _ qw_079460d786) dTypes_init_61 ?_
  refine lv_ldc (v := 2147483647) hx hb hown (hW _ qw_3e6fd5ff1a) dTypes_init_63 ?_
  refine lv_iconst (v := 0) hx hb dTypes_init_65 (by decide) ?_
  obtain ⟨ws_2, ⟨b0_2, b1_2, b2_2, b3_2, f0_2, f1_2, f2_2, f3_2, rfl, -, -, -⟩, hP, hD⟩ := id hI
  refine mu_Vi (rest := []) S hC (fun q h => hA q (Nat.le_trans hS.1 h)) (fun q h => h) hS (c_Types_put l γ (fun q => a ≤ q) a 2 16 2 (-2147483647) 2147483647 0 (by omega)) meTypes_put qw_3143413b72 ⟨(Nat.le_of_ble_eq_true rfl), (Nat.le_of_ble_eq_true rfl)⟩ (va_recv hC.1 hP (ci := 3) (q0 := 0) rfl rfl) hI rfl hl.1 rfl (Nat.le_of_ble_eq_true rfl) dTypes_init_66 ⟨(Nat.le_of_ble_eq_true rfl), (Nat.le_of_ble_eq_true rfl)⟩ (fun r8 H1 locs ⟨hr8, hI⟩ hS hz9 _ => ?_)
  have hI : cmp γ (fTypes γ a 3 16) (fun q => a ≤ q) _ := hI
  have hz9 : a + 5 ≤ H1.size := by omega
  refine W.cs (cells' := 0 + 1 + 1 + 1 + 1) (slots' := 0 + 16 + 16 + 16 + 16) rfl rfl ?_
  refine lv_pop hx hb dTypes_init_69 rfl ?_
  refine lv_aload_n hx hb dTypes_init_70 rfl (lv_at hl 0 rfl) ?_
  refine lv_iconst (v := 2) hx hb dTypes_init_71 (by decide) ?_
  refine lv_iconst (v := 0) hx hb dTypes_init_72 (by decide) ?_
  refine lv_ldc (v := 2147483647) hx hb hown (hW _ qw_3e6fd5ff1a) dTypes_init_73 ?_
  refine lv_iconst (v := 0) hx hb dTypes_init_75 (by decide) ?_
  obtain ⟨ws_3, ⟨b0_3, b1_3, b2_3, b3_3, f0_3, f1_3, f2_3, f3_3, rfl, -, -, -⟩, hP, hD⟩ := id hI
  refine mu_Vi (rest := []) S hC (fun q h => hA q (Nat.le_trans hS.1 h)) (fun q h => h) hS (c_Types_put l γ (fun q => a ≤ q) a 3 16 2 0 2147483647 0 (by omega)) meTypes_put qw_3143413b72 ⟨(Nat.le_of_ble_eq_true rfl), (Nat.le_of_ble_eq_true rfl)⟩ (va_recv hC.1 hP (ci := 3) (q0 := 0) rfl rfl) hI rfl hl.1 rfl (Nat.le_of_ble_eq_true rfl) dTypes_init_76 ⟨(Nat.le_of_ble_eq_true rfl), (Nat.le_of_ble_eq_true rfl)⟩ (fun r9 H1 locs ⟨hr9, hI⟩ hS hz9 _ => ?_)
  have hI : cmp γ (fTypes γ a 4 16) (fun q => a ≤ q) _ := hI
  have hz9 : a + 5 ≤ H1.size := by omega
  refine W.cs (cells' := 0 + 1 + 1 + 1 + 1) (slots' := 0 + 16 + 16 + 16 + 16) rfl rfl ?_
  refine lv_pop hx hb dTypes_init_79 rfl ?_
  refine lv_aload_n hx hb dTypes_init_80 rfl (lv_at hl 0 rfl) ?_
  refine lv_iconst (v := 2) hx hb dTypes_init_81 (by decide) ?_
  refine lv_iconst (v := 1) hx hb dTypes_init_82 (by decide) ?_
  refine lv_ldc (v := 2147483647) hx hb hown (hW _ qw_3e6fd5ff1a) dTypes_init_83 ?_
  refine lv_iconst (v := 0) hx hb dTypes_init_85 (by decide) ?_
  obtain ⟨ws_4, ⟨b0_4, b1_4, b2_4, b3_4, f0_4, f1_4, f2_4, f3_4, rfl, -, -, -⟩, hP, hD⟩ := id hI
  refine mu_Vi (rest := []) S hC (fun q h => hA q (Nat.le_trans hS.1 h)) (fun q h => h) hS (c_Types_put l γ (fun q => a ≤ q) a 4 16 2 1 2147483647 0 (by omega)) meTypes_put qw_3143413b72 ⟨(Nat.le_of_ble_eq_true rfl), (Nat.le_of_ble_eq_true rfl)⟩ (va_recv hC.1 hP (ci := 3) (q0 := 0) rfl rfl) hI rfl hl.1 rfl (Nat.le_of_ble_eq_true rfl) dTypes_init_86 ⟨(Nat.le_of_ble_eq_true rfl), (Nat.le_of_ble_eq_true rfl)⟩ (fun r10 H1 locs ⟨hr10, hI⟩ hS hz9 _ => ?_)
  have hI : cmp γ (fTypes γ a 5 16) (fun q => a ≤ q) _ := hI
  have hz9 : a + 5 ≤ H1.size := by omega
  refine W.cs (cells' := 0 + 1 + 1 + 1 + 1) (slots' := 0 + 16 + 16 + 16 + 16) rfl rfl ?_
  refine lv_pop hx hb dTypes_init_89 rfl ?_
  refine hE _ _ _ _ _ _ hS (Nat.le_of_ble_eq_true rfl) (Nat.le_of_ble_eq_true rfl) (fun hG => ?_) dTypes_init_90
  have hz1 : H1.size ≤ s.heap.size + 4 := hG.2.1
  have hz2 : H1.size = a + 5 := by omega
  exact ⟨iv_of hI hz2, hz2⟩
