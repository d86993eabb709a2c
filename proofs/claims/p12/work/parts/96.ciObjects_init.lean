theorem qw_68fe5073a1 : (Cond.methodLink R_Objects 3 Lib.objectInit) ∈ bs_W0 := bs_in (in_tables_1_1 (List.mem_of_getElem? (i := 163) rfl)) rfl
theorem qw_7ba584ae21 : (Cond.classLink R_Objects 21 R_Rows) ∈ bs_W0 := bs_in (in_tables_1_1 (List.mem_of_getElem? (i := 164) rfl)) rfl
theorem qw_65d8f04d58 : (Cond.instantiable R_Rows 1) ∈ bs_W0 := bs_in (in_tables_1_1 (List.mem_of_getElem? (i := 165) rfl)) rfl
theorem qw_c14c91c04c : (Cond.initialized R_Rows) ∈ bs_W0 := bs_in (in_tables_1_1 (List.mem_of_getElem? (i := 9) rfl)) rfl
theorem qw_bfe3cbf49d : (Cond.methodLink R_Objects 23 yRows_init) ∈ bs_W0 := bs_in (in_tables_1_1 (List.mem_of_getElem? (i := 166) rfl)) rfl
set_option maxHeartbeats 4000000 in
set_option maxRecDepth 100000 in
theorem i_Objects (l : Launch) (γ : gE) (s0 : State) (hw0 : SW s0) (a : Nat) (H0 : Heap)   : MS l yObjects_init bObjects_init 1 none 2 35 5 113 [.ref a] γ (fun q => a ≤ q) (ct_P s0 a H0 γ [(a, .inr (4, [.null, .null, .null, .null, .int 0]))]) (mQv (fun H => (cmp γ (fObjects γ a (a + 4) 0 16) (iv a (a + 4)) H ∧ cmp γ (fRows γ (a + 4) 16) (iv (a + 4) (a + 6)) H) ∧ H.size = a + 6) (fun q => a ≤ q)) := by
  refine ms_openV (by decide) (Nat.le_of_ble_eq_true rfl) ?_
  intro p e s m args below meth c ls Q S hnm hC hA hPS hE hl
  obtain ⟨⟨hF0, hA1⟩, hH0, hz, hP⟩ := hPS
  subst hH0
  have hA0 : ∀ q, a ≤ q → s0.heap.size ≤ q := fun q h => Nat.le_trans hA1 h
  have hA : ∀ q, s.heap.size ≤ q → a ≤ q := hA
  obtain ⟨hx, hb, hml, hown, hW⟩ := id S
  have hS : va_S (fun q => a ≤ q) s.heap s.heap [] := va_S.rf
  have hD : va_D (fun q => a ≤ q) [(a, .inr (4, [.null, .null, .null, .null, .int 0]))] := one_D (Nat.le_refl a)
  have hl : lv_has ls 1 [(0, .ref a)] := hl
  refine lv_aload_n hx hb dObjects_init_0 rfl (lv_at hl 0 rfl) ?_
  refine W.objInit hx hb hown (hW _ qw_68fe5073a1) (hW _ qw_aaa073e22d) (hW _ qc_obj) rfl (hl.1.trans hml.symm) rfl dObjects_init_1 (Nat.le_of_ble_eq_true rfl) (Nat.le_of_ble_eq_true rfl) ?_
  refine lv_aload_n hx hb dObjects_init_4 rfl (lv_at hl 0 rfl) ?_
  refine lv_bipush (v := 16) hx hb dObjects_init_5 (by decide) ?_
  refine cw_newa S hC qw_8e969fb20a hP hD hS hA hz 16 rfl (by omega) (Nat.le_of_ble_eq_true rfl) (Nat.le_of_ble_eq_true rfl) dObjects_init_7 (fun H hP hD hS hz hk9 => ?_)
  have hz : H.size = a + 2 := hz
  have hP : va_P γ.1 vwCl [(a, .inr (4, [.null, .null, .null, .null, .int 0])), (a + 1, .inl (γ.2.1, 16, .inl (fun _ => 0)))] _ := hP
  have hD : va_D _ [(a, .inr (4, [.null, .null, .null, .null, .int 0])), (a + 1, .inl (γ.2.1, 16, .inl (fun _ => 0)))] := hD
  refine st_put (D := γ.1) (ci := 4) (v := .ref (a + 1)) (ty := .array .int) (C := R_Objects) (T := T_Objects) (N := 5) (Ts := bs_W0) hx hb hW in_Objects t_Objects t_Objects_ok n_Objects hown hC.1 hP hD (fun q h => h) hS 0 rfl rfl 0 (by decide) (hW _ qw_bb1fa418e1) (fun _ h9 => h9) rfl (by decide +kernel) rfl rfl (Nat.le_of_ble_eq_true rfl) dObjects_init_9 (fun H locs hP hD hS hz9 ho9 => ?_)
  have hz : H.size = a + 2 := hz9.trans hz
  have hP : va_P γ.1 vwCl [(a, .inr (4, [.ref (a + 1), .null, .null, .null, .int 0])), (a + 1, .inl (γ.2.1, 16, .inl (fun _ => 0)))] _ := hP
  have hD : va_D _ [(a, .inr (4, [.ref (a + 1), .null, .null, .null, .int 0])), (a + 1, .inl (γ.2.1, 16, .inl (fun _ => 0)))] := hD
  refine lv_aload_n hx hb dObjects_init_12 rfl (lv_at hl 0 rfl) ?_
  refine lv_bipush (v := 16) hx hb dObjects_init_13 (by decide) ?_
  refine cw_newa S hC qw_8e969fb20a hP hD hS hA hz 16 rfl (by omega) (Nat.le_of_ble_eq_true rfl) (Nat.le_of_ble_eq_true rfl) dObjects_init_15 (fun H hP hD hS hz hk9 => ?_)
  have hz : H.size = a + 3 := hz
  have hP : va_P γ.1 vwCl [(a, .inr (4, [.ref (a + 1), .null, .null, .null, .int 0])), (a + 1, .inl (γ.2.1, 16, .inl (fun _ => 0))), (a + 2, .inl (γ.2.1, 16, .inl (fun _ => 0)))] _ := hP
  have hD : va_D _ [(a, .inr (4, [.ref (a + 1), .null, .null, .null, .int 0])), (a + 1, .inl (γ.2.1, 16, .inl (fun _ => 0))), (a + 2, .inl (γ.2.1, 16, .inl (fun _ => 0)))] := hD
  refine st_put (D := γ.1) (ci := 4) (v := .ref (a + 2)) (ty := .array .int) (C := R_Objects) (T := T_Objects) (N := 5) (Ts := bs_W0) hx hb hW in_Objects t_Objects t_Objects_ok n_Objects hown hC.1 hP hD (fun q h => h) hS 0 rfl rfl 1 (by decide) (hW _ qw_541217fbcc) (fun _ h9 => h9) rfl (by decide +kernel) rfl rfl (Nat.le_of_ble_eq_true rfl) dObjects_init_17 (fun H locs hP hD hS hz9 ho9 => ?_)
  have hz : H.size = a + 3 := hz9.trans hz
  have hP : va_P γ.1 vwCl [(a, .inr (4, [.ref (a + 1), .ref (a + 2), .null, .null, .int 0])), (a + 1, .inl (γ.2.1, 16, .inl (fun _ => 0))), (a + 2, .inl (γ.2.1, 16, .inl (fun _ => 0)))] _ := hP
  have hD : va_D _ [(a, .inr (4, [.ref (a + 1), .ref (a + 2), .null, .null, .int 0])), (a + 1, .inl (γ.2.1, 16, .inl (fun _ => 0))), (a + 2, .inl (γ.2.1, 16, .inl (fun _ => 0)))] := hD
  refine lv_aload_n hx hb dObjects_init_20 rfl (lv_at hl 0 rfl) ?_
  refine lv_bipush (v := 16) hx hb dObjects_init_21 (by decide) ?_
  refine cw_newa S hC qw_8e969fb20a hP hD hS hA hz 16 rfl (by omega) (Nat.le_of_ble_eq_true rfl) (Nat.le_of_ble_eq_true rfl) dObjects_init_23 (fun H hP hD hS hz hk9 => ?_)
  have hz : H.size = a + 4 := hz
  have hP : va_P γ.1 vwCl [(a, .inr (4, [.ref (a + 1), .ref (a + 2), .null, .null, .int 0])), (a + 1, .inl (γ.2.1, 16, .inl (fun _ => 0))), (a + 2, .inl (γ.2.1, 16, .inl (fun _ => 0))), (a + 3, .inl (γ.2.1, 16, .inl (fun _ => 0)))] _ := hP
  have hD : va_D _ [(a, .inr (4, [.ref (a + 1), .ref (a + 2), .null, .null, .int 0])), (a + 1, .inl (γ.2.1, 16, .inl (fun _ => 0))), (a + 2, .inl (γ.2.1, 16, .inl (fun _ => 0))), (a + 3, .inl (γ.2.1, 16, .inl (fun _ => 0)))] := hD
  refine st_put (D := γ.1) (ci := 4) (v := .ref (a + 3)) (ty := .array .int) (C := R_Objects) (T := T_Objects) (N := 5) (Ts := bs_W0) hx hb hW in_Objects t_Objects t_Objects_ok n_Objects hown hC.1 hP hD (fun q h => h) hS 0 rfl rfl 2 (by decide) (hW _ qw_0ed5786ef0) (fun _ h9 => h9) rfl (by decide +kernel) rfl rfl (Nat.le_of_ble_eq_true rfl) dObjects_init_25 (fun H locs hP hD hS hz9 ho9 => ?_)
  have hz : H.size = a + 4 := hz9.trans hz
  have hP : va_P γ.1 vwCl [(a, .inr (4, [.ref (a + 1), .ref (a + 2), .ref (a + 3), .null, .int 0])), (a + 1, .inl (γ.2.1, 16, .inl (fun _ => 0))), (a + 2, .inl (γ.2.1, 16, .inl (fun _ => 0))), (a + 3, .inl (γ.2.1, 16, .inl (fun _ => 0)))] _ := hP
  have hD : va_D _ [(a, .inr (4, [.ref (a + 1), .ref (a + 2), .ref (a + 3), .null, .int 0])), (a + 1, .inl (γ.2.1, 16, .inl (fun _ => 0))), (a + 2, .inl (γ.2.1, 16, .inl (fun _ => 0))), (a + 3, .inl (γ.2.1, 16, .inl (fun _ => 0)))] := hD
  refine lv_aload_n hx hb dObjects_init_28 rfl (lv_at hl 0 rfl) ?_
  have hlw4 : ∀ (i : Nat) (x9 : Nat × va_E), ([(a, .inr (4, [.ref (a + 1), .ref (a + 2), .ref (a + 3), .null, .int 0])), (a + 1, .inl (γ.2.1, 16, .inl (fun _ => 0))), (a + 2, .inl (γ.2.1, 16, .inl (fun _ => 0))), (a + 3, .inl (γ.2.1, 16, .inl (fun _ => 0)))] : va_W)[i]? = some x9 → x9.1 < a + 4 := fun i x9 hx9 => by rw [← hz]; exact (hP i x9 hx9).lt
  refine cw_new (fs := [.null]) (C := R_Rows) (T := T_Rows) (N := 1) (ci := 5) S hC in_Rows t_Rows t_Rows_ok qw_7ba584ae21 qw_65d8f04d58 qw_c14c91c04c rfl (fun j hj => by obtain rfl : j = 0 := (by omega); rfl) hP hS hA hz (Nat.le_of_ble_eq_true rfl) (Nat.le_of_ble_eq_true rfl) dObjects_init_29 (fun H hPn hP hS hz hk9 => ?_)
  have hz : H.size = a + 5 := hz
  refine lv_dup hx hb dObjects_init_32 rfl ?_
  refine lv_bipush (v := 16) hx hb dObjects_init_33 (by decide) ?_
  refine ms_I (rest := [.ref (a + 4), .ref a]) S hC (fun q h => Nat.le_trans (by omega) h) (fun q h => Nat.le_trans (by omega) h) hS (i_Rows l γ s0 hw0 (a + 4) _ 16 ⟨by omega, by omega⟩) ct_blind meRows_init qw_bfe3cbf49d ⟨(Nat.le_of_ble_eq_true rfl), (Nat.le_of_ble_eq_true rfl)⟩ (fun U hU hW9 => ⟨⟨by rw [hU]; exact (hF0.step hA0 hS.1 hS.2.1).warm hW9, by omega⟩, hU, hz, hPn⟩) rfl hl.1 rfl (Nat.le_of_ble_eq_true rfl) dObjects_init_35 ⟨(Nat.le_of_ble_eq_true rfl), (Nat.le_of_ble_eq_true rfl)⟩ (fun H1 locs hPO hS hz9 hk9 => ?_)
  obtain ⟨hc4, hzn⟩ := hPO
  have hc4 : cmp γ (fRows γ (a + 4) 16) (iv (a + 4) (a + 6)) H1 := hc4
  have hz : H1.size = a + 6 := hzn
  have hP : va_P γ.1 vwCl [(a, .inr (4, [.ref (a + 1), .ref (a + 2), .ref (a + 3), .null, .int 0])), (a + 1, .inl (γ.2.1, 16, .inl (fun _ => 0))), (a + 2, .inl (γ.2.1, 16, .inl (fun _ => 0))), (a + 3, .inl (γ.2.1, 16, .inl (fun _ => 0)))] H1 := hP.kept (fun i x9 hx9 => hk9 x9.1 (hP i x9 hx9).lt (fun h9 => absurd (hlw4 i x9 hx9) (Nat.not_lt.mpr h9)))
  refine st_putF (D := γ.1) (ci := 4) (v := .ref (a + 4)) (ty := .object "TypeBook$Rows") (C := R_Objects) (T := T_Objects) (N := 5) (Ts := bs_W0) hx hb hW in_Objects t_Objects t_Objects_ok n_Objects hown hC.1 hP hD (fun q h => h) hS 0 rfl rfl 3 (by decide) (hW _ qw_f4aeeaf054) (fun _ h9 => h9) rfl hnm rfl (by decide +kernel) rfl rfl (Nat.le_of_ble_eq_true rfl) dObjects_init_38 (fun H locs hP hD hS hz9 ho9 => ?_)
  have hz : H.size = a + 6 := hz9.trans hz
  have hP : va_P γ.1 vwCl [(a, .inr (4, [.ref (a + 1), .ref (a + 2), .ref (a + 3), .ref (a + 4), .int 0])), (a + 1, .inl (γ.2.1, 16, .inl (fun _ => 0))), (a + 2, .inl (γ.2.1, 16, .inl (fun _ => 0))), (a + 3, .inl (γ.2.1, 16, .inl (fun _ => 0)))] _ := hP
  have hD : va_D _ [(a, .inr (4, [.ref (a + 1), .ref (a + 2), .ref (a + 3), .ref (a + 4), .int 0])), (a + 1, .inl (γ.2.1, 16, .inl (fun _ => 0))), (a + 2, .inl (γ.2.1, 16, .inl (fun _ => 0))), (a + 3, .inl (γ.2.1, 16, .inl (fun _ => 0)))] := hD
  have hc4 : cmp γ (fRows γ (a + 4) 16) (iv (a + 4) (a + 6)) _ := iv_kept hc4 (fun q k1 k2 k3 => ho9 q (by omega))
  refine lv_aload_n hx hb dObjects_init_41 rfl (lv_at hl 0 rfl) ?_
  refine lv_iconst (v := 0) hx hb dObjects_init_42 (by decide) ?_
  refine st_put (D := γ.1) (ci := 4) (v := .int 0) (ty := .int) (C := R_Objects) (T := T_Objects) (N := 5) (Ts := bs_W0) hx hb hW in_Objects t_Objects t_Objects_ok n_Objects hown hC.1 hP hD (fun q h => h) hS 0 rfl rfl 4 (by decide) (hW _ qw_1a9a6fdaf2) (fun _ h9 => h9) rfl (by decide +kernel) rfl rfl (Nat.le_of_ble_eq_true rfl) dObjects_init_43 (fun H locs hP hD hS hz9 ho9 => ?_)
  have hz : H.size = a + 6 := hz9.trans hz
  have hP : va_P γ.1 vwCl [(a, .inr (4, [.ref (a + 1), .ref (a + 2), .ref (a + 3), .ref (a + 4), .int 0])), (a + 1, .inl (γ.2.1, 16, .inl (fun _ => 0))), (a + 2, .inl (γ.2.1, 16, .inl (fun _ => 0))), (a + 3, .inl (γ.2.1, 16, .inl (fun _ => 0)))] _ := hP
  have hD : va_D _ [(a, .inr (4, [.ref (a + 1), .ref (a + 2), .ref (a + 3), .ref (a + 4), .int 0])), (a + 1, .inl (γ.2.1, 16, .inl (fun _ => 0))), (a + 2, .inl (γ.2.1, 16, .inl (fun _ => 0))), (a + 3, .inl (γ.2.1, 16, .inl (fun _ => 0)))] := hD
  have hc4 : cmp γ (fRows γ (a + 4) 16) (iv (a + 4) (a + 6)) _ := iv_kept hc4 (fun q k1 k2 k3 => ho9 q (by omega))
  refine hE _ _ _ _ _ _ hS (Nat.le_of_ble_eq_true rfl) (Nat.le_of_ble_eq_true rfl) (fun hG => ?_) dObjects_init_46
  exact ⟨⟨⟨_, ⟨(a + 1), (a + 2), (a + 3), (fun _ => 0), (fun _ => 0), (fun _ => 0), rfl, (Nat.le_of_ble_eq_true rfl), (Nat.le_of_ble_eq_true rfl), (Nat.le_of_ble_eq_true rfl)⟩, hP, hD.1, (fun i x9 hx9 => by have h9 : x9 ∈ ([(a, .inr (4, [.ref (a + 1), .ref (a + 2), .ref (a + 3), .ref (a + 4), .int 0])), (a + 1, .inl (γ.2.1, 16, .inl (fun _ => 0))), (a + 2, .inl (γ.2.1, 16, .inl (fun _ => 0))), (a + 3, .inl (γ.2.1, 16, .inl (fun _ => 0)))] : va_W) := List.mem_of_getElem? hx9; simp only [List.mem_cons, List.not_mem_nil, or_false] at h9; rcases h9 with rfl | rfl | rfl | rfl <;> (unfold iv; dsimp only; omega))⟩, hc4⟩, hz⟩
