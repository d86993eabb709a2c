
set_option maxHeartbeats 4000000 in
set_option maxRecDepth 100000 in
theorem c_Trees_fell (l : Launch) (γ : gE) (Z : Nat → Prop) (a N rt L : Nat)   : MU l yTrees_fell bTrees_fell 1 (none) 0 0 0 0 [.ref a] γ Z (cmp γ (fTrees γ a N rt L) Z) (mQv (fun H => cmp γ (fTrees γ a 0 0 L) Z H) Z) := by
  refine mu_openV (by decide) (Nat.le_of_ble_eq_true rfl) ?_
  intro p e s m args below meth c ls Q S hnm hC hA hI hE hl
  obtain ⟨hx, hb, hml, hown, hW⟩ := id S
  have hS : va_S Z s.heap s.heap [] := va_S.rf
  have hl : lv_has ls 1 [(0, .ref a)] := hl
  refine lv_aload_n hx hb dTrees_fell_0 rfl (lv_at hl 0 rfl) ?_
  refine lv_iconst (v := 0) hx hb dTrees_fell_1 (by decide) ?_
  obtain ⟨ws_2, ⟨b0_2, b1_2, b2_2, b3_2, f0_2, f1_2, f2_2, f3_2, rfl, h1_2, h2_2, h3_2, h4_2, h5_2, h6_2⟩, hP, hD⟩ := id hI
  have hP : va_P γ.1 vwCl [(a, .inr (1, [.ref b0_2, .ref b1_2, .ref b2_2, .ref b3_2, .int (nI N), .int (nI rt)])), (b0_2, .inl (γ.2.1, L, .inl f0_2)), (b1_2, .inl (γ.2.1, L, .inl f1_2)), (b2_2, .inl (γ.2.1, L, .inl f2_2)), (b3_2, .inl (γ.2.1, L, .inl f3_2))] _ := hP
  have hD : va_D Z [(a, .inr (1, [.ref b0_2, .ref b1_2, .ref b2_2, .ref b3_2, .int (nI N), .int (nI rt)])), (b0_2, .inl (γ.2.1, L, .inl f0_2)), (b1_2, .inl (γ.2.1, L, .inl f1_2)), (b2_2, .inl (γ.2.1, L, .inl f2_2)), (b3_2, .inl (γ.2.1, L, .inl f3_2))] := hD
  refine va_put (D := γ.1) (ci := 1) (v := .int (nI (0))) (ty := .int) (C := R_Trees) (T := T_Trees) (N := 6) (Ts := bs_W0) hx hb hW in_Trees t_Trees t_Trees_ok n_Trees hown hC.1 hP hD hS 0 rfl rfl 4 (by decide) (hW _ qw_adbe8dbe65) (fun _ h9 => h9) rfl (by decide +kernel) rfl rfl (Nat.le_of_ble_eq_true rfl) dTrees_fell_2 (fun H locs hP hD hS => ?_)
  have hP : va_P γ.1 vwCl [(a, .inr (1, [.ref b0_2, .ref b1_2, .ref b2_2, .ref b3_2, .int (nI (0)), .int (nI rt)])), (b0_2, .inl (γ.2.1, L, .inl f0_2)), (b1_2, .inl (γ.2.1, L, .inl f1_2)), (b2_2, .inl (γ.2.1, L, .inl f2_2)), (b3_2, .inl (γ.2.1, L, .inl f3_2))] _ := hP
  have hD : va_D Z [(a, .inr (1, [.ref b0_2, .ref b1_2, .ref b2_2, .ref b3_2, .int (nI (0)), .int (nI rt)])), (b0_2, .inl (γ.2.1, L, .inl f0_2)), (b1_2, .inl (γ.2.1, L, .inl f1_2)), (b2_2, .inl (γ.2.1, L, .inl f2_2)), (b3_2, .inl (γ.2.1, L, .inl f3_2))] := hD
  refine lv_aload_n hx hb dTrees_fell_5 rfl (lv_at hl 0 rfl) ?_
  refine lv_iconst (v := 0) hx hb dTrees_fell_6 (by decide) ?_
  refine va_put (D := γ.1) (ci := 1) (v := .int (nI (0))) (ty := .int) (C := R_Trees) (T := T_Trees) (N := 6) (Ts := bs_W0) hx hb hW in_Trees t_Trees t_Trees_ok n_Trees hown hC.1 hP hD hS 0 rfl rfl 5 (by decide) (hW _ qw_986a639143) (fun _ h9 => h9) rfl (by decide +kernel) rfl rfl (Nat.le_of_ble_eq_true rfl) dTrees_fell_7 (fun H locs hP hD hS => ?_)
  have hP : va_P γ.1 vwCl [(a, .inr (1, [.ref b0_2, .ref b1_2, .ref b2_2, .ref b3_2, .int (nI (0)), .int (nI (0))])), (b0_2, .inl (γ.2.1, L, .inl f0_2)), (b1_2, .inl (γ.2.1, L, .inl f1_2)), (b2_2, .inl (γ.2.1, L, .inl f2_2)), (b3_2, .inl (γ.2.1, L, .inl f3_2))] _ := hP
  have hD : va_D Z [(a, .inr (1, [.ref b0_2, .ref b1_2, .ref b2_2, .ref b3_2, .int (nI (0)), .int (nI (0))])), (b0_2, .inl (γ.2.1, L, .inl f0_2)), (b1_2, .inl (γ.2.1, L, .inl f1_2)), (b2_2, .inl (γ.2.1, L, .inl f2_2)), (b3_2, .inl (γ.2.1, L, .inl f3_2))] := hD
  have hI : cmp γ (fTrees γ a 0 0 L) Z _ := ⟨_, ⟨b0_2, b1_2, b2_2, b3_2, f0_2, f1_2, f2_2, f3_2, rfl, (by omega), (by omega), (by omega), (by omega), (fun k hk => absurd hk (Nat.not_lt_zero k)), (fun k hk => absurd hk (Nat.not_lt_zero k))⟩, hP, hD⟩
  exact hE _ _ 10 ls hS hI dTrees_fell_10
