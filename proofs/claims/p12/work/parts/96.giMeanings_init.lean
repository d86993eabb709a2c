theorem qw_0f8353b80e : (Cond.methodLink R_Meanings 3 Lib.objectInit) ∈ bs_W0 := bs_in (in_tables_1_2 (List.mem_of_getElem? (i := 9) rfl)) rfl
set_option maxHeartbeats 4000000 in
set_option maxRecDepth 100000 in
theorem i_Meanings (l : Launch) (γ : gE) (s0 : State) (hw0 : SW s0) (a : Nat) (H0 : Heap) (t1 : Nat) (t2 : Nat) (t3 : Nat) (t4 : Nat) (t5 : Nat)  : MS l yMeanings_init bMeanings_init 6 none 1 12 0 0 [.ref a, .ref t1, .ref t2, .ref t3, .ref t4, .ref t5] γ (fun q => a ≤ q) (ct_P s0 a H0 γ [(a, .inr (9, [.null, .null, .null, .null, .null]))]) (mQv (fun H => cmp γ (fun ws => ws = [(a, .inr (9, [.ref t1, .ref t2, .ref t3, .ref t4, .ref t5]))]) (iv a (a + 1)) H ∧ H.size = a + 1) (fun q => a ≤ q)) := by
  refine ms_openV (by decide) (Nat.le_of_ble_eq_true rfl) ?_
  intro p e s m args below meth c ls Q S hnm hC hA hPS hE hl
  obtain ⟨⟨hF0, hA1⟩, hH0, hz, hP⟩ := hPS
  subst hH0
  have hA0 : ∀ q, a ≤ q → s0.heap.size ≤ q := fun q h => Nat.le_trans hA1 h
  have hA : ∀ q, s.heap.size ≤ q → a ≤ q := hA
  obtain ⟨hx, hb, hml, hown, hW⟩ := id S
  have hS : va_S (fun q => a ≤ q) s.heap s.heap [] := va_S.rf
  have hD : va_D (fun q => a ≤ q) [(a, .inr (9, [.null, .null, .null, .null, .null]))] := one_D (Nat.le_refl a)
  have hl : lv_has ls 6 [(0, .ref a), (1, .ref t1), (2, .ref t2), (3, .ref t3), (4, .ref t4), (5, .ref t5)] := hl
  refine lv_aload_n hx hb dMeanings_init_0 rfl (lv_at hl 0 rfl) ?_
  refine W.objInit hx hb hown (hW _ qw_0f8353b80e) (hW _ qw_aaa073e22d) (hW _ qc_obj) rfl (hl.1.trans hml.symm) rfl dMeanings_init_1 (Nat.le_of_ble_eq_true rfl) (Nat.le_of_ble_eq_true rfl) ?_
  refine lv_aload_n hx hb dMeanings_init_4 rfl (lv_at hl 0 rfl) ?_
  refine lv_aload_n hx hb dMeanings_init_5 rfl (lv_at hl 1 rfl) ?_
  refine st_putF (D := γ.1) (ci := 9) (v := .ref t1) (ty := .object "TypeBook$Trees") (C := R_Meanings) (T := T_Meanings) (N := 5) (Ts := bs_W0) hx hb hW in_Meanings t_Meanings t_Meanings_ok n_Meanings hown hC.1 hP hD (fun q h => h) hS 0 rfl rfl 0 (by decide) (hW _ qw_c54cffb97e) (fun _ h9 => h9) rfl hnm rfl (by decide +kernel) rfl rfl (Nat.le_of_ble_eq_true rfl) dMeanings_init_6 (fun H locs hP hD hS hz9 ho9 => ?_)
  have hz : H.size = a + 1 := hz9.trans hz
  have hP : va_P γ.1 vwCl [(a, .inr (9, [.ref t1, .null, .null, .null, .null]))] _ := hP
  have hD : va_D _ [(a, .inr (9, [.ref t1, .null, .null, .null, .null]))] := hD
  refine lv_aload_n hx hb dMeanings_init_9 rfl (lv_at hl 0 rfl) ?_
  refine lv_aload_n hx hb dMeanings_init_10 rfl (lv_at hl 2 rfl) ?_
  refine st_putF (D := γ.1) (ci := 9) (v := .ref t2) (ty := .object "TypeBook$Names") (C := R_Meanings) (T := T_Meanings) (N := 5) (Ts := bs_W0) hx hb hW in_Meanings t_Meanings t_Meanings_ok n_Meanings hown hC.1 hP hD (fun q h => h) hS 0 rfl rfl 1 (by decide) (hW _ qw_2a07109efc) (fun _ h9 => h9) rfl hnm rfl (by decide +kernel) rfl rfl (Nat.le_of_ble_eq_true rfl) dMeanings_init_11 (fun H locs hP hD hS hz9 ho9 => ?_)
  have hz : H.size = a + 1 := hz9.trans hz
  have hP : va_P γ.1 vwCl [(a, .inr (9, [.ref t1, .ref t2, .null, .null, .null]))] _ := hP
  have hD : va_D _ [(a, .inr (9, [.ref t1, .ref t2, .null, .null, .null]))] := hD
  refine lv_aload_n hx hb dMeanings_init_14 rfl (lv_at hl 0 rfl) ?_
  refine lv_aload_n hx hb dMeanings_init_15 rfl (lv_at hl 3 rfl) ?_
  refine st_putF (D := γ.1) (ci := 9) (v := .ref t3) (ty := .object "TypeBook$Types") (C := R_Meanings) (T := T_Meanings) (N := 5) (Ts := bs_W0) hx hb hW in_Meanings t_Meanings t_Meanings_ok n_Meanings hown hC.1 hP hD (fun q h => h) hS 0 rfl rfl 2 (by decide) (hW _ qw_e2a2dba4a9) (fun _ h9 => h9) rfl hnm rfl (by decide +kernel) rfl rfl (Nat.le_of_ble_eq_true rfl) dMeanings_init_16 (fun H locs hP hD hS hz9 ho9 => ?_)
  have hz : H.size = a + 1 := hz9.trans hz
  have hP : va_P γ.1 vwCl [(a, .inr (9, [.ref t1, .ref t2, .ref t3, .null, .null]))] _ := hP
  have hD : va_D _ [(a, .inr (9, [.ref t1, .ref t2, .ref t3, .null, .null]))] := hD
  refine lv_aload_n hx hb dMeanings_init_19 rfl (lv_at hl 0 rfl) ?_
  refine lv_aload hx hb dMeanings_init_20 (lv_at hl 4 rfl) ?_
  refine st_putF (D := γ.1) (ci := 9) (v := .ref t4) (ty := .object "TypeBook$Objects") (C := R_Meanings) (T := T_Meanings) (N := 5) (Ts := bs_W0) hx hb hW in_Meanings t_Meanings t_Meanings_ok n_Meanings hown hC.1 hP hD (fun q h => h) hS 0 rfl rfl 3 (by decide) (hW _ qw_9bfdade5f5) (fun _ h9 => h9) rfl hnm rfl (by decide +kernel) rfl rfl (Nat.le_of_ble_eq_true rfl) dMeanings_init_22 (fun H locs hP hD hS hz9 ho9 => ?_)
  have hz : H.size = a + 1 := hz9.trans hz
  have hP : va_P γ.1 vwCl [(a, .inr (9, [.ref t1, .ref t2, .ref t3, .ref t4, .null]))] _ := hP
  have hD : va_D _ [(a, .inr (9, [.ref t1, .ref t2, .ref t3, .ref t4, .null]))] := hD
  refine lv_aload_n hx hb dMeanings_init_25 rfl (lv_at hl 0 rfl) ?_
  refine lv_aload hx hb dMeanings_init_26 (lv_at hl 5 rfl) ?_
  refine st_putF (D := γ.1) (ci := 9) (v := .ref t5) (ty := .object "TypeBook$Looks") (C := R_Meanings) (T := T_Meanings) (N := 5) (Ts := bs_W0) hx hb hW in_Meanings t_Meanings t_Meanings_ok n_Meanings hown hC.1 hP hD (fun q h => h) hS 0 rfl rfl 4 (by decide) (hW _ qw_aa3d3bbcf9) (fun _ h9 => h9) rfl hnm rfl (by decide +kernel) rfl rfl (Nat.le_of_ble_eq_true rfl) dMeanings_init_28 (fun H locs hP hD hS hz9 ho9 => ?_)
  have hz : H.size = a + 1 := hz9.trans hz
  have hP : va_P γ.1 vwCl [(a, .inr (9, [.ref t1, .ref t2, .ref t3, .ref t4, .ref t5]))] _ := hP
  have hD : va_D _ [(a, .inr (9, [.ref t1, .ref t2, .ref t3, .ref t4, .ref t5]))] := hD
  refine hE _ _ _ _ _ _ hS (Nat.le_of_ble_eq_true rfl) (Nat.le_of_ble_eq_true rfl) (fun hG => ?_) dMeanings_init_31
  exact ⟨iv_of ⟨_, rfl, hP, hD⟩ hz, hz⟩
