theorem qw_453de1dfc7 : (Cond.methodLink R_Looks 3 Lib.objectInit) ∈ bs_W0 := bs_in (in_tables_1_1 (List.mem_of_getElem? (i := 199) rfl)) rfl
theorem qw_97cb1153a6 : (Cond.classLink R_Looks 27 R_Rows) ∈ bs_W0 := bs_in (in_tables_1_1 (List.mem_of_getElem? (i := 200) rfl)) rfl
theorem qw_33db77e6ce : (Cond.methodLink R_Looks 29 yRows_init) ∈ bs_W0 := bs_in (in_tables_1_1 (List.mem_of_getElem? (i := 201) rfl)) rfl
set_option maxHeartbeats 4000000 in
set_option maxRecDepth 100000 in
theorem i_Looks (l : Launch) (γ : gE) (s0 : State) (hw0 : SW s0) (a : Nat) (H0 : Heap)   : MS l yLooks_init bLooks_init 1 none 2 35 7 577 [.ref a] γ (fun q => a ≤ q) (ct_P s0 a H0 γ [(a, .inr (6, [.null, .null, .null, .null, .null, .null]))]) (mQv (fun H => (cmp γ (fLooks γ a (a + 6) 64) (iv a (a + 6)) H ∧ cmp γ (fRows γ (a + 6) 64) (iv (a + 6) (a + 8)) H) ∧ H.size = a + 8) (fun q => a ≤ q)) := by
  refine ms_openV (by decide) (Nat.le_of_ble_eq_true rfl) ?_
  intro p e s m args below meth c ls Q S hnm hC hA hPS hE hl
  obtain ⟨⟨hF0, hA1⟩, hH0, hz, hP⟩ := hPS
  subst hH0
  have hA0 : ∀ q, a ≤ q → s0.heap.size ≤ q := fun q h => Nat.le_trans hA1 h
  have hA : ∀ q, s.heap.size ≤ q → a ≤ q := hA
  obtain ⟨hx, hb, hml, hown, hW⟩ := id S
  have hS : va_S (fun q => a ≤ q) s.heap s.heap [] := va_S.rf
  have hD : va_D (fun q => a ≤ q) [(a, .inr (6, [.null, .null, .null, .null, .null, .null]))] := one_D (Nat.le_refl a)
  have hl : lv_has ls 1 [(0, .ref a)] := hl
  refine lv_aload_n hx hb dLooks_init_0 rfl (lv_at hl 0 rfl) ?_
  refine W.objInit hx hb hown (hW _ qw_453de1dfc7) (hW _ qw_aaa073e22d) (hW _ qc_obj) rfl (hl.1.trans hml.symm) rfl dLooks_init_1 (Nat.le_of_ble_eq_true rfl) (Nat.le_of_ble_eq_true rfl) ?_
  refine lv_aload_n hx hb dLooks_init_4 rfl (lv_at hl 0 rfl) ?_
  refine lv_bipush (v := 64) hx hb dLooks_init_5 (by decide) ?_
  refine cw_newa S hC qw_8e969fb20a hP hD hS hA hz 64 rfl (by omega) (Nat.le_of_ble_eq_true rfl) (Nat.le_of_ble_eq_true rfl) dLooks_init_7 (fun H hP hD hS hz hk9 => ?_)
  have hz : H.size = a + 2 := hz
  have hP : va_P γ.1 vwCl [(a, .inr (6, [.null, .null, .null, .null, .null, .null])), (a + 1, .inl (γ.2.1, 64, .inl (fun _ => 0)))] _ := hP
  have hD : va_D _ [(a, .inr (6, [.null, .null, .null, .null, .null, .null])), (a + 1, .inl (γ.2.1, 64, .inl (fun _ => 0)))] := hD
  refine st_put (D := γ.1) (ci := 6) (v := .ref (a + 1)) (ty := .array .int) (C := R_Looks) (T := T_Looks) (N := 6) (Ts := bs_W0) hx hb hW in_Looks t_Looks t_Looks_ok n_Looks hown hC.1 hP hD (fun q h => h) hS 0 rfl rfl 0 (by decide) (hW _ qw_ac7df03aa7) (fun _ h9 => h9) rfl (by decide +kernel) rfl rfl (Nat.le_of_ble_eq_true rfl) dLooks_init_9 (fun H locs hP hD hS hz9 ho9 => ?_)
  have hz : H.size = a + 2 := hz9.trans hz
  have hP : va_P γ.1 vwCl [(a, .inr (6, [.ref (a + 1), .null, .null, .null, .null, .null])), (a + 1, .inl (γ.2.1, 64, .inl (fun _ => 0)))] _ := hP
  have hD : va_D _ [(a, .inr (6, [.ref (a + 1), .null, .null, .null, .null, .null])), (a + 1, .inl (γ.2.1, 64, .inl (fun _ => 0)))] := hD
  refine lv_aload_n hx hb dLooks_init_12 rfl (lv_at hl 0 rfl) ?_
  refine lv_bipush (v := 64) hx hb dLooks_init_13 (by decide) ?_
  refine cw_newa S hC qw_8e969fb20a hP hD hS hA hz 64 rfl (by omega) (Nat.le_of_ble_eq_true rfl) (Nat.le_of_ble_eq_true rfl) dLooks_init_15 (fun H hP hD hS hz hk9 => ?_)
  have hz : H.size = a + 3 := hz
  have hP : va_P γ.1 vwCl [(a, .inr (6, [.ref (a + 1), .null, .null, .null, .null, .null])), (a + 1, .inl (γ.2.1, 64, .inl (fun _ => 0))), (a + 2, .inl (γ.2.1, 64, .inl (fun _ => 0)))] _ := hP
  have hD : va_D _ [(a, .inr (6, [.ref (a + 1), .null, .null, .null, .null, .null])), (a + 1, .inl (γ.2.1, 64, .inl (fun _ => 0))), (a + 2, .inl (γ.2.1, 64, .inl (fun _ => 0)))] := hD
  refine st_put (D := γ.1) (ci := 6) (v := .ref (a + 2)) (ty := .array .int) (C := R_Looks) (T := T_Looks) (N := 6) (Ts := bs_W0) hx hb hW in_Looks t_Looks t_Looks_ok n_Looks hown hC.1 hP hD (fun q h => h) hS 0 rfl rfl 1 (by decide) (hW _ qw_7dd30c70bd) (fun _ h9 => h9) rfl (by decide +kernel) rfl rfl (Nat.le_of_ble_eq_true rfl) dLooks_init_17 (fun H locs hP hD hS hz9 ho9 => ?_)
  have hz : H.size = a + 3 := hz9.trans hz
  have hP : va_P γ.1 vwCl [(a, .inr (6, [.ref (a + 1), .ref (a + 2), .null, .null, .null, .null])), (a + 1, .inl (γ.2.1, 64, .inl (fun _ => 0))), (a + 2, .inl (γ.2.1, 64, .inl (fun _ => 0)))] _ := hP
  have hD : va_D _ [(a, .inr (6, [.ref (a + 1), .ref (a + 2), .null, .null, .null, .null])), (a + 1, .inl (γ.2.1, 64, .inl (fun _ => 0))), (a + 2, .inl (γ.2.1, 64, .inl (fun _ => 0)))] := hD
  refine lv_aload_n hx hb dLooks_init_20 rfl (lv_at hl 0 rfl) ?_
  refine lv_bipush (v := 64) hx hb dLooks_init_21 (by decide) ?_
  refine cw_newa S hC qw_8e969fb20a hP hD hS hA hz 64 rfl (by omega) (Nat.le_of_ble_eq_true rfl) (Nat.le_of_ble_eq_true rfl) dLooks_init_23 (fun H hP hD hS hz hk9 => ?_)
  have hz : H.size = a + 4 := hz
  have hP : va_P γ.1 vwCl [(a, .inr (6, [.ref (a + 1), .ref (a + 2), .null, .null, .null, .null])), (a + 1, .inl (γ.2.1, 64, .inl (fun _ => 0))), (a + 2, .inl (γ.2.1, 64, .inl (fun _ => 0))), (a + 3, .inl (γ.2.1, 64, .inl (fun _ => 0)))] _ := hP
  have hD : va_D _ [(a, .inr (6, [.ref (a + 1), .ref (a + 2), .null, .null, .null, .null])), (a + 1, .inl (γ.2.1, 64, .inl (fun _ => 0))), (a + 2, .inl (γ.2.1, 64, .inl (fun _ => 0))), (a + 3, .inl (γ.2.1, 64, .inl (fun _ => 0)))] := hD
  refine st_put (D := γ.1) (ci := 6) (v := .ref (a + 3)) (ty := .array .int) (C := R_Looks) (T := T_Looks) (N := 6) (Ts := bs_W0) hx hb hW in_Looks t_Looks t_Looks_ok n_Looks hown hC.1 hP hD (fun q h => h) hS 0 rfl rfl 2 (by decide) (hW _ qw_427e012605) (fun _ h9 => h9) rfl (by decide +kernel) rfl rfl (Nat.le_of_ble_eq_true rfl) dLooks_init_25 (fun H locs hP hD hS hz9 ho9 => ?_)
  have hz : H.size = a + 4 := hz9.trans hz
  have hP : va_P γ.1 vwCl [(a, .inr (6, [.ref (a + 1), .ref (a + 2), .ref (a + 3), .null, .null, .null])), (a + 1, .inl (γ.2.1, 64, .inl (fun _ => 0))), (a + 2, .inl (γ.2.1, 64, .inl (fun _ => 0))), (a + 3, .inl (γ.2.1, 64, .inl (fun _ => 0)))] _ := hP
  have hD : va_D _ [(a, .inr (6, [.ref (a + 1), .ref (a + 2), .ref (a + 3), .null, .null, .null])), (a + 1, .inl (γ.2.1, 64, .inl (fun _ => 0))), (a + 2, .inl (γ.2.1, 64, .inl (fun _ => 0))), (a + 3, .inl (γ.2.1, 64, .inl (fun _ => 0)))] := hD
  refine lv_aload_n hx hb dLooks_init_28 rfl (lv_at hl 0 rfl) ?_
  refine lv_bipush (v := 64) hx hb dLooks_init_29 (by decide) ?_
  refine cw_newa S hC qw_8e969fb20a hP hD hS hA hz 64 rfl (by omega) (Nat.le_of_ble_eq_true rfl) (Nat.le_of_ble_eq_true rfl) dLooks_init_31 (fun H hP hD hS hz hk9 => ?_)
  have hz : H.size = a + 5 := hz
  have hP : va_P γ.1 vwCl [(a, .inr (6, [.ref (a + 1), .ref (a + 2), .ref (a + 3), .null, .null, .null])), (a + 1, .inl (γ.2.1, 64, .inl (fun _ => 0))), (a + 2, .inl (γ.2.1, 64, .inl (fun _ => 0))), (a + 3, .inl (γ.2.1, 64, .inl (fun _ => 0))), (a + 4, .inl (γ.2.1, 64, .inl (fun _ => 0)))] _ := hP
  have hD : va_D _ [(a, .inr (6, [.ref (a + 1), .ref (a + 2), .ref (a + 3), .null, .null, .null])), (a + 1, .inl (γ.2.1, 64, .inl (fun _ => 0))), (a + 2, .inl (γ.2.1, 64, .inl (fun _ => 0))), (a + 3, .inl (γ.2.1, 64, .inl (fun _ => 0))), (a + 4, .inl (γ.2.1, 64, .inl (fun _ => 0)))] := hD
  refine st_put (D := γ.1) (ci := 6) (v := .ref (a + 4)) (ty := .array .int) (C := R_Looks) (T := T_Looks) (N := 6) (Ts := bs_W0) hx hb hW in_Looks t_Looks t_Looks_ok n_Looks hown hC.1 hP hD (fun q h => h) hS 0 rfl rfl 3 (by decide) (hW _ qw_5344cf30a3) (fun _ h9 => h9) rfl (by decide +kernel) rfl rfl (Nat.le_of_ble_eq_true rfl) dLooks_init_33 (fun H locs hP hD hS hz9 ho9 => ?_)
  have hz : H.size = a + 5 := hz9.trans hz
  have hP : va_P γ.1 vwCl [(a, .inr (6, [.ref (a + 1), .ref (a + 2), .ref (a + 3), .ref (a + 4), .null, .null])), (a + 1, .inl (γ.2.1, 64, .inl (fun _ => 0))), (a + 2, .inl (γ.2.1, 64, .inl (fun _ => 0))), (a + 3, .inl (γ.2.1, 64, .inl (fun _ => 0))), (a + 4, .inl (γ.2.1, 64, .inl (fun _ => 0)))] _ := hP
  have hD : va_D _ [(a, .inr (6, [.ref (a + 1), .ref (a + 2), .ref (a + 3), .ref (a + 4), .null, .null])), (a + 1, .inl (γ.2.1, 64, .inl (fun _ => 0))), (a + 2, .inl (γ.2.1, 64, .inl (fun _ => 0))), (a + 3, .inl (γ.2.1, 64, .inl (fun _ => 0))), (a + 4, .inl (γ.2.1, 64, .inl (fun _ => 0)))] := hD
  refine lv_aload_n hx hb dLooks_init_36 rfl (lv_at hl 0 rfl) ?_
  refine lv_bipush (v := 64) hx hb dLooks_init_37 (by decide) ?_
  refine cw_newa S hC qw_8e969fb20a hP hD hS hA hz 64 rfl (by omega) (Nat.le_of_ble_eq_true rfl) (Nat.le_of_ble_eq_true rfl) dLooks_init_39 (fun H hP hD hS hz hk9 => ?_)
  have hz : H.size = a + 6 := hz
  have hP : va_P γ.1 vwCl [(a, .inr (6, [.ref (a + 1), .ref (a + 2), .ref (a + 3), .ref (a + 4), .null, .null])), (a + 1, .inl (γ.2.1, 64, .inl (fun _ => 0))), (a + 2, .inl (γ.2.1, 64, .inl (fun _ => 0))), (a + 3, .inl (γ.2.1, 64, .inl (fun _ => 0))), (a + 4, .inl (γ.2.1, 64, .inl (fun _ => 0))), (a + 5, .inl (γ.2.1, 64, .inl (fun _ => 0)))] _ := hP
  have hD : va_D _ [(a, .inr (6, [.ref (a + 1), .ref (a + 2), .ref (a + 3), .ref (a + 4), .null, .null])), (a + 1, .inl (γ.2.1, 64, .inl (fun _ => 0))), (a + 2, .inl (γ.2.1, 64, .inl (fun _ => 0))), (a + 3, .inl (γ.2.1, 64, .inl (fun _ => 0))), (a + 4, .inl (γ.2.1, 64, .inl (fun _ => 0))), (a + 5, .inl (γ.2.1, 64, .inl (fun _ => 0)))] := hD
  refine st_put (D := γ.1) (ci := 6) (v := .ref (a + 5)) (ty := .array .int) (C := R_Looks) (T := T_Looks) (N := 6) (Ts := bs_W0) hx hb hW in_Looks t_Looks t_Looks_ok n_Looks hown hC.1 hP hD (fun q h => h) hS 0 rfl rfl 4 (by decide) (hW _ qw_d08a1abfac) (fun _ h9 => h9) rfl (by decide +kernel) rfl rfl (Nat.le_of_ble_eq_true rfl) dLooks_init_41 (fun H locs hP hD hS hz9 ho9 => ?_)
  have hz : H.size = a + 6 := hz9.trans hz
  have hP : va_P γ.1 vwCl [(a, .inr (6, [.ref (a + 1), .ref (a + 2), .ref (a + 3), .ref (a + 4), .ref (a + 5), .null])), (a + 1, .inl (γ.2.1, 64, .inl (fun _ => 0))), (a + 2, .inl (γ.2.1, 64, .inl (fun _ => 0))), (a + 3, .inl (γ.2.1, 64, .inl (fun _ => 0))), (a + 4, .inl (γ.2.1, 64, .inl (fun _ => 0))), (a + 5, .inl (γ.2.1, 64, .inl (fun _ => 0)))] _ := hP
  have hD : va_D _ [(a, .inr (6, [.ref (a + 1), .ref (a + 2), .ref (a + 3), .ref (a + 4), .ref (a + 5), .null])), (a + 1, .inl (γ.2.1, 64, .inl (fun _ => 0))), (a + 2, .inl (γ.2.1, 64, .inl (fun _ => 0))), (a + 3, .inl (γ.2.1, 64, .inl (fun _ => 0))), (a + 4, .inl (γ.2.1, 64, .inl (fun _ => 0))), (a + 5, .inl (γ.2.1, 64, .inl (fun _ => 0)))] := hD
  refine lv_aload_n hx hb dLooks_init_44 rfl (lv_at hl 0 rfl) ?_
  have hlw6 : ∀ (i : Nat) (x9 : Nat × va_E), ([(a, .inr (6, [.ref (a + 1), .ref (a + 2), .ref (a + 3), .ref (a + 4), .ref (a + 5), .null])), (a + 1, .inl (γ.2.1, 64, .inl (fun _ => 0))), (a + 2, .inl (γ.2.1, 64, .inl (fun _ => 0))), (a + 3, .inl (γ.2.1, 64, .inl (fun _ => 0))), (a + 4, .inl (γ.2.1, 64, .inl (fun _ => 0))), (a + 5, .inl (γ.2.1, 64, .inl (fun _ => 0)))] : va_W)[i]? = some x9 → x9.1 < a + 6 := fun i x9 hx9 => by rw [← hz]; exact (hP i x9 hx9).lt
  refine cw_new (fs := [.null]) (C := R_Rows) (T := T_Rows) (N := 1) (ci := 5) S hC in_Rows t_Rows t_Rows_ok qw_97cb1153a6 qw_65d8f04d58 qw_c14c91c04c rfl (fun j hj => by obtain rfl : j = 0 := (by omega); rfl) hP hS hA hz (Nat.le_of_ble_eq_true rfl) (Nat.le_of_ble_eq_true rfl) dLooks_init_45 (fun H hPn hP hS hz hk9 => ?_)
  have hz : H.size = a + 7 := hz
  refine lv_dup hx hb dLooks_init_48 rfl ?_
  refine lv_bipush (v := 64) hx hb dLooks_init_49 (by decide) ?_
  refine ms_I (rest := [.ref (a + 6), .ref a]) S hC (fun q h => Nat.le_trans (by omega) h) (fun q h => Nat.le_trans (by omega) h) hS (i_Rows l γ s0 hw0 (a + 6) _ 64 ⟨by omega, by omega⟩) ct_blind meRows_init qw_33db77e6ce ⟨(Nat.le_of_ble_eq_true rfl), (Nat.le_of_ble_eq_true rfl)⟩ (fun U hU hW9 => ⟨⟨by rw [hU]; exact (hF0.step hA0 hS.1 hS.2.1).warm hW9, by omega⟩, hU, hz, hPn⟩) rfl hl.1 rfl (Nat.le_of_ble_eq_true rfl) dLooks_init_51 ⟨(Nat.le_of_ble_eq_true rfl), (Nat.le_of_ble_eq_true rfl)⟩ (fun H1 locs hPO hS hz9 hk9 => ?_)
  obtain ⟨hc6, hzn⟩ := hPO
  have hc6 : cmp γ (fRows γ (a + 6) 64) (iv (a + 6) (a + 8)) H1 := hc6
  have hz : H1.size = a + 8 := hzn
  have hP : va_P γ.1 vwCl [(a, .inr (6, [.ref (a + 1), .ref (a + 2), .ref (a + 3), .ref (a + 4), .ref (a + 5), .null])), (a + 1, .inl (γ.2.1, 64, .inl (fun _ => 0))), (a + 2, .inl (γ.2.1, 64, .inl (fun _ => 0))), (a + 3, .inl (γ.2.1, 64, .inl (fun _ => 0))), (a + 4, .inl (γ.2.1, 64, .inl (fun _ => 0))), (a + 5, .inl (γ.2.1, 64, .inl (fun _ => 0)))] H1 := hP.kept (fun i x9 hx9 => hk9 x9.1 (hP i x9 hx9).lt (fun h9 => absurd (hlw6 i x9 hx9) (Nat.not_lt.mpr h9)))
  refine st_putF (D := γ.1) (ci := 6) (v := .ref (a + 6)) (ty := .object "TypeBook$Rows") (C := R_Looks) (T := T_Looks) (N := 6) (Ts := bs_W0) hx hb hW in_Looks t_Looks t_Looks_ok n_Looks hown hC.1 hP hD (fun q h => h) hS 0 rfl rfl 5 (by decide) (hW _ qw_50f3c1330a) (fun _ h9 => h9) rfl hnm rfl (by decide +kernel) rfl rfl (Nat.le_of_ble_eq_true rfl) dLooks_init_54 (fun H locs hP hD hS hz9 ho9 => ?_)
  have hz : H.size = a + 8 := hz9.trans hz
  have hP : va_P γ.1 vwCl [(a, .inr (6, [.ref (a + 1), .ref (a + 2), .ref (a + 3), .ref (a + 4), .ref (a + 5), .ref (a + 6)])), (a + 1, .inl (γ.2.1, 64, .inl (fun _ => 0))), (a + 2, .inl (γ.2.1, 64, .inl (fun _ => 0))), (a + 3, .inl (γ.2.1, 64, .inl (fun _ => 0))), (a + 4, .inl (γ.2.1, 64, .inl (fun _ => 0))), (a + 5, .inl (γ.2.1, 64, .inl (fun _ => 0)))] _ := hP
  have hD : va_D _ [(a, .inr (6, [.ref (a + 1), .ref (a + 2), .ref (a + 3), .ref (a + 4), .ref (a + 5), .ref (a + 6)])), (a + 1, .inl (γ.2.1, 64, .inl (fun _ => 0))), (a + 2, .inl (γ.2.1, 64, .inl (fun _ => 0))), (a + 3, .inl (γ.2.1, 64, .inl (fun _ => 0))), (a + 4, .inl (γ.2.1, 64, .inl (fun _ => 0))), (a + 5, .inl (γ.2.1, 64, .inl (fun _ => 0)))] := hD
  have hc6 : cmp γ (fRows γ (a + 6) 64) (iv (a + 6) (a + 8)) _ := iv_kept hc6 (fun q k1 k2 k3 => ho9 q (by omega))
  refine hE _ _ _ _ _ _ hS (Nat.le_of_ble_eq_true rfl) (Nat.le_of_ble_eq_true rfl) (fun hG => ?_) dLooks_init_57
  exact ⟨⟨⟨_, ⟨(a + 1), (a + 2), (a + 3), (a + 4), (a + 5), (fun _ => 0), (fun _ => 0), (fun _ => 0), (fun _ => 0), (fun _ => 0), rfl, (Nat.le_of_ble_eq_true rfl), (Nat.le_of_ble_eq_true rfl)⟩, hP, hD.1, (fun i x9 hx9 => by have h9 : x9 ∈ ([(a, .inr (6, [.ref (a + 1), .ref (a + 2), .ref (a + 3), .ref (a + 4), .ref (a + 5), .ref (a + 6)])), (a + 1, .inl (γ.2.1, 64, .inl (fun _ => 0))), (a + 2, .inl (γ.2.1, 64, .inl (fun _ => 0))), (a + 3, .inl (γ.2.1, 64, .inl (fun _ => 0))), (a + 4, .inl (γ.2.1, 64, .inl (fun _ => 0))), (a + 5, .inl (γ.2.1, 64, .inl (fun _ => 0)))] : va_W) := List.mem_of_getElem? hx9; simp only [List.mem_cons, List.not_mem_nil, or_false] at h9; rcases h9 with rfl | rfl | rfl | rfl | rfl | rfl <;> (unfold iv; dsimp only; omega))⟩, hc6⟩, hz⟩
