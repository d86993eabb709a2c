theorem qn_8953b9cb9f : (Cond.methodLinkNest R_Names 64 yTypeBook_withRoom "TypeBook") ∈ lw_tbl := in_tables_1_1 (List.mem_of_getElem? (i := 77) rfl)
set_option maxHeartbeats 4000000 in
set_option maxRecDepth 100000 in
theorem c_Names_put (l : Launch) (γ : gE) (Z : Nat → Prop) (a N sc L : Nat) (x1 : Int32) (x2 : Int32) (x3 : Int32) (x4 : Int32) (hN : N ≤ 4000) : MU l yNames_put bNames_put 6 (none) 3 103 (0 + wc L (N + 1) + wc L (N + 1) + wc L (N + 1) + wc L (N + 1) + wc L (N + 1)) (0 + wm L (N + 1) + wm L (N + 1) + wm L (N + 1) + wm L (N + 1) + wm L (N + 1)) [.ref a, .int x1, .int x2, .int x3, .int x4] γ Z (cmp γ (fNames γ a N sc L) Z) (mQv (fun H => cmp γ (fNames γ a (N + 1) sc (wl L (N + 1))) Z H) Z) := by
  refine mu_openV (by decide) (Nat.le_of_ble_eq_true rfl) ?_
  intro p e s m args below meth c ls Q S hnm hC hA hI hE hl
  obtain ⟨hx, hb, hml, hown, hW⟩ := id S
  have hS : va_S Z s.heap s.heap [] := va_S.rf
  have hl : lv_has ls 6 [(0, .ref a), (1, .int x1), (2, .int x2), (3, .int x3), (4, .int x4)] := hl
  have hb9 : L ≤ 8192 ∧ N ≤ L := (by obtain ⟨w9, ⟨_, _, _, _, _, _, _, _, _, _, _, _, _, _, _, h1, h2, _⟩, _, _⟩ := id hI; exact ⟨h2, h1⟩)
  have hwl := wl_ok (n := L) (N := N + 1) (by omega) (by omega)
  refine lv_aload_n hx hb dNames_put_0 rfl (lv_at hl 0 rfl) ?_
  refine lv_aload_n hx hb dNames_put_1 rfl (lv_at hl 0 rfl) ?_
  obtain ⟨ws_2, ⟨b0_2, b1_2, b2_2, b3_2, b4_2, b5_2, b6_2, f0_2, f1_2, f2_2, f3_2, f4_2, f5_2, f6_2, rfl, h1_2, h2_2, h3_2, h4_2, h5_2, h6_2⟩, hP, hD⟩ := id hI
  have hP : va_P γ.1 vwCl [(a, .inr (2, [.ref b0_2, .ref b1_2, .ref b2_2, .ref b3_2, .ref b4_2, .ref b5_2, .ref b6_2, .int (nI N), .int (nI sc)])), (b0_2, .inl (γ.2.1, L, .inl f0_2)), (b1_2, .inl (γ.2.1, L, .inl f1_2)), (b2_2, .inl (γ.2.1, L, .inl f2_2)), (b3_2, .inl (γ.2.1, L, .inl f3_2)), (b4_2, .inl (γ.2.1, L, .inl f4_2)), (b5_2, .inl (γ.2.1, 256, .inl f5_2)), (b6_2, .inl (γ.2.1, 32, .inl f6_2))] _ := hP
  have hD : va_D Z [(a, .inr (2, [.ref b0_2, .ref b1_2, .ref b2_2, .ref b3_2, .ref b4_2, .ref b5_2, .ref b6_2, .int (nI N), .int (nI sc)])), (b0_2, .inl (γ.2.1, L, .inl f0_2)), (b1_2, .inl (γ.2.1, L, .inl f1_2)), (b2_2, .inl (γ.2.1, L, .inl f2_2)), (b3_2, .inl (γ.2.1, L, .inl f3_2)), (b4_2, .inl (γ.2.1, L, .inl f4_2)), (b5_2, .inl (γ.2.1, 256, .inl f5_2)), (b6_2, .inl (γ.2.1, 32, .inl f6_2))] := hD
  refine va_get (D := γ.1) (ci := 2) (v := .ref b0_2) (C := R_Names) (T := T_Names) (N := 9) (Ts := bs_W0) hx hb hW in_Names hown hC.1 hP 0 rfl rfl 0 (by decide) (hW _ qw_a8d4a716ae) (fun _ h9 => h9) rfl dNames_put_2 ?_
  refine lv_aload_n hx hb dNames_put_5 rfl (lv_at hl 0 rfl) ?_
  refine va_get (D := γ.1) (ci := 2) (v := .int (nI N)) (C := R_Names) (T := T_Names) (N := 9) (Ts := bs_W0) hx hb hW in_Names hown hC.1 hP 0 rfl rfl 7 (by decide) (hW _ qw_171adcdf9f) (fun _ h9 => h9) rfl dNames_put_6 ?_
  refine lv_topi (fun v32 ev32 => ?_)
  refine lv_iconst (v := 1) hx hb dNames_put_9 (by decide) ?_
  refine lv_iadd hx hb dNames_put_10 ?_
  refine lv_topi (fun v33 ev33 => ?_)
  have ev33 : v33 = nI (N + 1) := by rw [ev33, ev32]; exact nI_add (N) (1)
  obtain rfl : v33 = nI (N + 1) := ev33
  refine mu_Tr (rest := [.ref a]) S hC (fun q h => hA q (Nat.le_trans hS.1 h)) (fun q h => h) hS (c_withRoom l γ Z b0_2 L (N + 1) f0_2 _ (by omega) (by omega)) meTypeBook_withRoom (hC.2 _ qn_8953b9cb9f rfl) ⟨Nat.le_of_ble_eq_true rfl, Nat.le_of_ble_eq_true rfl⟩ ⟨rfl, hD.2 1 _ rfl, hP 1 _ rfl⟩ rfl hl.1 rfl (Nat.le_of_ble_eq_true rfl) dNames_put_11 ⟨(by show _ ≤ 0 + wc L (N + 1) + wc L (N + 1) + wc L (N + 1) + wc L (N + 1) + wc L (N + 1); omega), (by show _ ≤ 0 + wm L (N + 1) + wm L (N + 1) + wm L (N + 1) + wm L (N + 1) + wm L (N + 1); omega)⟩ (fun r34 Hr34 locs hPO hS _ _ => ?_)
  obtain ⟨g1r34, g2r34, g3r34, g4r34, fr34, g5r34, g6r34⟩ := hPO
  obtain ⟨hP, hD⟩ := wr_join (i := 1) hP hD rfl g4r34 g5r34 g1r34 g2r34
  have hP : va_P γ.1 vwCl [(a, .inr (2, [.ref b0_2, .ref b1_2, .ref b2_2, .ref b3_2, .ref b4_2, .ref b5_2, .ref b6_2, .int (nI N), .int (nI sc)])), (r34, .inl (γ.2.1, wl L (N + 1), .inl fr34)), (b1_2, .inl (γ.2.1, L, .inl f1_2)), (b2_2, .inl (γ.2.1, L, .inl f2_2)), (b3_2, .inl (γ.2.1, L, .inl f3_2)), (b4_2, .inl (γ.2.1, L, .inl f4_2)), (b5_2, .inl (γ.2.1, 256, .inl f5_2)), (b6_2, .inl (γ.2.1, 32, .inl f6_2))] _ := hP
  have hD : va_D Z [(a, .inr (2, [.ref b0_2, .ref b1_2, .ref b2_2, .ref b3_2, .ref b4_2, .ref b5_2, .ref b6_2, .int (nI N), .int (nI sc)])), (r34, .inl (γ.2.1, wl L (N + 1), .inl fr34)), (b1_2, .inl (γ.2.1, L, .inl f1_2)), (b2_2, .inl (γ.2.1, L, .inl f2_2)), (b3_2, .inl (γ.2.1, L, .inl f3_2)), (b4_2, .inl (γ.2.1, L, .inl f4_2)), (b5_2, .inl (γ.2.1, 256, .inl f5_2)), (b6_2, .inl (γ.2.1, 32, .inl f6_2))] := hD
  refine va_put (D := γ.1) (ci := 2) (v := .ref r34) (ty := .array .int) (C := R_Names) (T := T_Names) (N := 9) (Ts := bs_W0) hx hb hW in_Names t_Names t_Names_ok n_Names hown hC.1 hP hD hS 0 rfl rfl 0 (by decide) (hW _ qw_a8d4a716ae) (fun _ h9 => h9) rfl (by decide +kernel) rfl rfl (Nat.le_of_ble_eq_true rfl) dNames_put_14 (fun H locs hP hD hS => ?_)
  have hP : va_P γ.1 vwCl [(a, .inr (2, [.ref r34, .ref b1_2, .ref b2_2, .ref b3_2, .ref b4_2, .ref b5_2, .ref b6_2, .int (nI N), .int (nI sc)])), (r34, .inl (γ.2.1, wl L (N + 1), .inl fr34)), (b1_2, .inl (γ.2.1, L, .inl f1_2)), (b2_2, .inl (γ.2.1, L, .inl f2_2)), (b3_2, .inl (γ.2.1, L, .inl f3_2)), (b4_2, .inl (γ.2.1, L, .inl f4_2)), (b5_2, .inl (γ.2.1, 256, .inl f5_2)), (b6_2, .inl (γ.2.1, 32, .inl f6_2))] _ := hP
  have hD : va_D Z [(a, .inr (2, [.ref r34, .ref b1_2, .ref b2_2, .ref b3_2, .ref b4_2, .ref b5_2, .ref b6_2, .int (nI N), .int (nI sc)])), (r34, .inl (γ.2.1, wl L (N + 1), .inl fr34)), (b1_2, .inl (γ.2.1, L, .inl f1_2)), (b2_2, .inl (γ.2.1, L, .inl f2_2)), (b3_2, .inl (γ.2.1, L, .inl f3_2)), (b4_2, .inl (γ.2.1, L, .inl f4_2)), (b5_2, .inl (γ.2.1, 256, .inl f5_2)), (b6_2, .inl (γ.2.1, 32, .inl f6_2))] := hD
  refine lv_aload_n hx hb dNames_put_17 rfl (lv_at hl 0 rfl) ?_
  refine lv_aload_n hx hb dNames_put_18 rfl (lv_at hl 0 rfl) ?_
  refine va_get (D := γ.1) (ci := 2) (v := .ref b1_2) (C := R_Names) (T := T_Names) (N := 9) (Ts := bs_W0) hx hb hW in_Names hown hC.1 hP 0 rfl rfl 1 (by decide) (hW _ qw_5903ecb25d) (fun _ h9 => h9) rfl dNames_put_19 ?_
  refine lv_aload_n hx hb dNames_put_22 rfl (lv_at hl 0 rfl) ?_
  refine va_get (D := γ.1) (ci := 2) (v := .int (nI N)) (C := R_Names) (T := T_Names) (N := 9) (Ts := bs_W0) hx hb hW in_Names hown hC.1 hP 0 rfl rfl 7 (by decide) (hW _ qw_171adcdf9f) (fun _ h9 => h9) rfl dNames_put_23 ?_
  refine lv_topi (fun v35 ev35 => ?_)
  refine lv_iconst (v := 1) hx hb dNames_put_26 (by decide) ?_
  refine lv_iadd hx hb dNames_put_27 ?_
  refine lv_topi (fun v36 ev36 => ?_)
  have ev36 : v36 = nI (N + 1) := by rw [ev36, ev35]; exact nI_add (N) (1)
  obtain rfl : v36 = nI (N + 1) := ev36
  refine mu_Tr (rest := [.ref a]) S hC (fun q h => hA q (Nat.le_trans hS.1 h)) (fun q h => h) hS (c_withRoom l γ Z b1_2 L (N + 1) f1_2 _ (by omega) (by omega)) meTypeBook_withRoom (hC.2 _ qn_8953b9cb9f rfl) ⟨Nat.le_of_ble_eq_true rfl, Nat.le_of_ble_eq_true rfl⟩ ⟨rfl, hD.2 2 _ rfl, hP 2 _ rfl⟩ rfl hl.1 rfl (Nat.le_of_ble_eq_true rfl) dNames_put_28 ⟨(by show _ ≤ 0 + wc L (N + 1) + wc L (N + 1) + wc L (N + 1) + wc L (N + 1) + wc L (N + 1); omega), (by show _ ≤ 0 + wm L (N + 1) + wm L (N + 1) + wm L (N + 1) + wm L (N + 1) + wm L (N + 1); omega)⟩ (fun r37 Hr37 locs hPO hS _ _ => ?_)
  obtain ⟨g1r37, g2r37, g3r37, g4r37, fr37, g5r37, g6r37⟩ := hPO
  obtain ⟨hP, hD⟩ := wr_join (i := 2) hP hD rfl g4r37 g5r37 g1r37 g2r37
  have hP : va_P γ.1 vwCl [(a, .inr (2, [.ref r34, .ref b1_2, .ref b2_2, .ref b3_2, .ref b4_2, .ref b5_2, .ref b6_2, .int (nI N), .int (nI sc)])), (r34, .inl (γ.2.1, wl L (N + 1), .inl fr34)), (r37, .inl (γ.2.1, wl L (N + 1), .inl fr37)), (b2_2, .inl (γ.2.1, L, .inl f2_2)), (b3_2, .inl (γ.2.1, L, .inl f3_2)), (b4_2, .inl (γ.2.1, L, .inl f4_2)), (b5_2, .inl (γ.2.1, 256, .inl f5_2)), (b6_2, .inl (γ.2.1, 32, .inl f6_2))] _ := hP
  have hD : va_D Z [(a, .inr (2, [.ref r34, .ref b1_2, .ref b2_2, .ref b3_2, .ref b4_2, .ref b5_2, .ref b6_2, .int (nI N), .int (nI sc)])), (r34, .inl (γ.2.1, wl L (N + 1), .inl fr34)), (r37, .inl (γ.2.1, wl L (N + 1), .inl fr37)), (b2_2, .inl (γ.2.1, L, .inl f2_2)), (b3_2, .inl (γ.2.1, L, .inl f3_2)), (b4_2, .inl (γ.2.1, L, .inl f4_2)), (b5_2, .inl (γ.2.1, 256, .inl f5_2)), (b6_2, .inl (γ.2.1, 32, .inl f6_2))] := hD
  refine va_put (D := γ.1) (ci := 2) (v := .ref r37) (ty := .array .int) (C := R_Names) (T := T_Names) (N := 9) (Ts := bs_W0) hx hb hW in_Names t_Names t_Names_ok n_Names hown hC.1 hP hD hS 0 rfl rfl 1 (by decide) (hW _ qw_5903ecb25d) (fun _ h9 => h9) rfl (by decide +kernel) rfl rfl (Nat.le_of_ble_eq_true rfl) dNames_put_31 (fun H locs hP hD hS => ?_)
  have hP : va_P γ.1 vwCl [(a, .inr (2, [.ref r34, .ref r37, .ref b2_2, .ref b3_2, .ref b4_2, .ref b5_2, .ref b6_2, .int (nI N), .int (nI sc)])), (r34, .inl (γ.2.1, wl L (N + 1), .inl fr34)), (r37, .inl (γ.2.1, wl L (N + 1), .inl fr37)), (b2_2, .inl (γ.2.1, L, .inl f2_2)), (b3_2, .inl (γ.2.1, L, .inl f3_2)), (b4_2, .inl (γ.2.1, L, .inl f4_2)), (b5_2, .inl (γ.2.1, 256, .inl f5_2)), (b6_2, .inl (γ.2.1, 32, .inl f6_2))] _ := hP
  have hD : va_D Z [(a, .inr (2, [.ref r34, .ref r37, .ref b2_2, .ref b3_2, .ref b4_2, .ref b5_2, .ref b6_2, .int (nI N), .int (nI sc)])), (r34, .inl (γ.2.1, wl L (N + 1), .inl fr34)), (r37, .inl (γ.2.1, wl L (N + 1), .inl fr37)), (b2_2, .inl (γ.2.1, L, .inl f2_2)), (b3_2, .inl (γ.2.1, L, .inl f3_2)), (b4_2, .inl (γ.2.1, L, .inl f4_2)), (b5_2, .inl (γ.2.1, 256, .inl f5_2)), (b6_2, .inl (γ.2.1, 32, .inl f6_2))] := hD
  refine lv_aload_n hx hb dNames_put_34 rfl (lv_at hl 0 rfl) ?_
  refine lv_aload_n hx hb dNames_put_35 rfl (lv_at hl 0 rfl) ?_
  refine va_get (D := γ.1) (ci := 2) (v := .ref b2_2) (C := R_Names) (T := T_Names) (N := 9) (Ts := bs_W0) hx hb hW in_Names hown hC.1 hP 0 rfl rfl 2 (by decide) (hW _ qw_ee1ba38ad0) (fun _ h9 => h9) rfl dNames_put_36 ?_
  refine lv_aload_n hx hb dNames_put_39 rfl (lv_at hl 0 rfl) ?_
  refine va_get (D := γ.1) (ci := 2) (v := .int (nI N)) (C := R_Names) (T := T_Names) (N := 9) (Ts := bs_W0) hx hb hW in_Names hown hC.1 hP 0 rfl rfl 7 (by decide) (hW _ qw_171adcdf9f) (fun _ h9 => h9) rfl dNames_put_40 ?_
  refine lv_topi (fun v38 ev38 => ?_)
  refine lv_iconst (v := 1) hx hb dNames_put_43 (by decide) ?_
  refine lv_iadd hx hb dNames_put_44 ?_
  refine lv_topi (fun v39 ev39 => ?_)
  have ev39 : v39 = nI (N + 1) := by rw [ev39, ev38]; exact nI_add (N) (1)
  obtain rfl : v39 = nI (N + 1) := ev39
  refine mu_Tr (rest := [.ref a]) S hC (fun q h => hA q (Nat.le_trans hS.1 h)) (fun q h => h) hS (c_withRoom l γ Z b2_2 L (N + 1) f2_2 _ (by omega) (by omega)) meTypeBook_withRoom (hC.2 _ qn_8953b9cb9f rfl) ⟨Nat.le_of_ble_eq_true rfl, Nat.le_of_ble_eq_true rfl⟩ ⟨rfl, hD.2 3 _ rfl, hP 3 _ rfl⟩ rfl hl.1 rfl (Nat.le_of_ble_eq_true rfl) dNames_put_45 ⟨(by show _ ≤ 0 + wc L (N + 1) + wc L (N + 1) + wc L (N + 1) + wc L (N + 1) + wc L (N + 1); omega), (by show _ ≤ 0 + wm L (N + 1) + wm L (N + 1) + wm L (N + 1) + wm L (N + 1) + wm L (N + 1); omega)⟩ (fun r40 Hr40 locs hPO hS _ _ => ?_)
  obtain ⟨g1r40, g2r40, g3r40, g4r40, fr40, g5r40, g6r40⟩ := hPO
  obtain ⟨hP, hD⟩ := wr_join (i := 3) hP hD rfl g4r40 g5r40 g1r40 g2r40
  have hP : va_P γ.1 vwCl [(a, .inr (2, [.ref r34, .ref r37, .ref b2_2, .ref b3_2, .ref b4_2, .ref b5_2, .ref b6_2, .int (nI N), .int (nI sc)])), (r34, .inl (γ.2.1, wl L (N + 1), .inl fr34)), (r37, .inl (γ.2.1, wl L (N + 1), .inl fr37)), (r40, .inl (γ.2.1, wl L (N + 1), .inl fr40)), (b3_2, .inl (γ.2.1, L, .inl f3_2)), (b4_2, .inl (γ.2.1, L, .inl f4_2)), (b5_2, .inl (γ.2.1, 256, .inl f5_2)), (b6_2, .inl (γ.2.1, 32, .inl f6_2))] _ := hP
  have hD : va_D Z [(a, .inr (2, [.ref r34, .ref r37, .ref b2_2, .ref b3_2, .ref b4_2, .ref b5_2, .ref b6_2, .int (nI N), .int (nI sc)])), (r34, .inl (γ.2.1, wl L (N + 1), .inl fr34)), (r37, .inl (γ.2.1, wl L (N + 1), .inl fr37)), (r40, .inl (γ.2.1, wl L (N + 1), .inl fr40)), (b3_2, .inl (γ.2.1, L, .inl f3_2)), (b4_2, .inl (γ.2.1, L, .inl f4_2)), (b5_2, .inl (γ.2.1, 256, .inl f5_2)), (b6_2, .inl (γ.2.1, 32, .inl f6_2))] := hD
  refine va_put (D := γ.1) (ci := 2) (v := .ref r40) (ty := .array .int) (C := R_Names) (T := T_Names) (N := 9) (Ts := bs_W0) hx hb hW in_Names t_Names t_Names_ok n_Names hown hC.1 hP hD hS 0 rfl rfl 2 (by decide) (hW _ qw_ee1ba38ad0) (fun _ h9 => h9) rfl (by decide +kernel) rfl rfl (Nat.le_of_ble_eq_true rfl) dNames_put_48 (fun H locs hP hD hS => ?_)
  have hP : va_P γ.1 vwCl [(a, .inr (2, [.ref r34, .ref r37, .ref r40, .ref b3_2, .ref b4_2, .ref b5_2, .ref b6_2, .int (nI N), .int (nI sc)])), (r34, .inl (γ.2.1, wl L (N + 1), .inl fr34)), (r37, .inl (γ.2.1, wl L (N + 1), .inl fr37)), (r40, .inl (γ.2.1, wl L (N + 1), .inl fr40)), (b3_2, .inl (γ.2.1, L, .inl f3_2)), (b4_2, .inl (γ.2.1, L, .inl f4_2)), (b5_2, .inl (γ.2.1, 256, .inl f5_2)), (b6_2, .inl (γ.2.1, 32, .inl f6_2))] _ := hP
  have hD : va_D Z [(a, .inr (2, [.ref r34, .ref r37, .ref r40, .ref b3_2, .ref b4_2, .ref b5_2, .ref b6_2, .int (nI N), .int (nI sc)])), (r34, .inl (γ.2.1, wl L (N + 1), .inl fr34)), (r37, .inl (γ.2.1, wl L (N + 1), .inl fr37)), (r40, .inl (γ.2.1, wl L (N + 1), .inl fr40)), (b3_2, .inl (γ.2.1, L, .inl f3_2)), (b4_2, .inl (γ.2.1, L, .inl f4_2)), (b5_2, .inl (γ.2.1, 256, .inl f5_2)), (b6_2, .inl (γ.2.1, 32, .inl f6_2))] := hD
  refine lv_aload_n hx hb dNames_put_51 rfl (lv_at hl 0 rfl) ?_
  refine lv_aload_n hx hb dNames_put_52 rfl (lv_at hl 0 rfl) ?_
  refine va_get (D := γ.1) (ci := 2) (v := .ref b3_2) (C := R_Names) (T := T_Names) (N := 9) (Ts := bs_W0) hx hb hW in_Names hown hC.1 hP 0 rfl rfl 3 (by decide) (hW _ qw_1a22e5f505) (fun _ h9 => h9) rfl dNames_put_53 ?_
  refine lv_aload_n hx hb dNames_put_56 rfl (lv_at hl 0 rfl) ?_
  refine va_get (D := γ.1) (ci := 2) (v := .int (nI N)) (C := R_Names) (T := T_Names) (N := 9) (Ts := bs_W0) hx hb hW in_Names hown hC.1 hP 0 rfl rfl 7 (by decide) (hW _ qw_171adcdf9f) (fun _ h9 => h9) rfl dNames_put_57 ?_
  refine lv_topi (fun v41 ev41 => ?_)
  refine lv_iconst (v := 1) hx hb dNames_put_60 (by decide) ?_
  refine lv_iadd hx hb dNames_put_61 ?_
  refine lv_topi (fun v42 ev42 => ?_)
  have ev42 : v42 = nI (N + 1) := by rw [ev42, ev41]; exact nI_add (N) (1)
  obtain rfl : v42 = nI (N + 1) := ev42
  refine mu_Tr (rest := [.ref a]) S hC (fun q h => hA q (Nat.le_trans hS.1 h)) (fun q h => h) hS (c_withRoom l γ Z b3_2 L (N + 1) f3_2 _ (by omega) (by omega)) meTypeBook_withRoom (hC.2 _ qn_8953b9cb9f rfl) ⟨Nat.le_of_ble_eq_true rfl, Nat.le_of_ble_eq_true rfl⟩ ⟨rfl, hD.2 4 _ rfl, hP 4 _ rfl⟩ rfl hl.1 rfl (Nat.le_of_ble_eq_true rfl) dNames_put_62 ⟨(by show _ ≤ 0 + wc L (N + 1) + wc L (N + 1) + wc L (N + 1) + wc L (N + 1) + wc L (N + 1); omega), (by show _ ≤ 0 + wm L (N + 1) + wm L (N + 1) + wm L (N + 1) + wm L (N + 1) + wm L (N + 1); omega)⟩ (fun r43 Hr43 locs hPO hS _ _ => ?_)
  obtain ⟨g1r43, g2r43, g3r43, g4r43, fr43, g5r43, g6r43⟩ := hPO
  obtain ⟨hP, hD⟩ := wr_join (i := 4) hP hD rfl g4r43 g5r43 g1r43 g2r43
  have hP : va_P γ.1 vwCl [(a, .inr (2, [.ref r34, .ref r37, .ref r40, .ref b3_2, .ref b4_2, .ref b5_2, .ref b6_2, .int (nI N), .int (nI sc)])), (r34, .inl (γ.2.1, wl L (N + 1), .inl fr34)), (r37, .inl (γ.2.1, wl L (N + 1), .inl fr37)), (r40, .inl (γ.2.1, wl L (N + 1), .inl fr40)), (r43, .inl (γ.2.1, wl L (N + 1), .inl fr43)), (b4_2, .inl (γ.2.1, L, .inl f4_2)), (b5_2, .inl (γ.2.1, 256, .inl f5_2)), (b6_2, .inl (γ.2.1, 32, .inl f6_2))] _ := hP
  have hD : va_D Z [(a, .inr (2, [.ref r34, .ref r37, .ref r40, .ref b3_2, .ref b4_2, .ref b5_2, .ref b6_2, .int (nI N), .int (nI sc)])), (r34, .inl (γ.2.1, wl L (N + 1), .inl fr34)), (r37, .inl (γ.2.1, wl L (N + 1), .inl fr37)), (r40, .inl (γ.2.1, wl L (N + 1), .inl fr40)), (r43, .inl (γ.2.1, wl L (N + 1), .inl fr43)), (b4_2, .inl (γ.2.1, L, .inl f4_2)), (b5_2, .inl (γ.2.1, 256, .inl f5_2)), (b6_2, .inl (γ.2.1, 32, .inl f6_2))] := hD
  refine va_put (D := γ.1) (ci := 2) (v := .ref r43) (ty := .array .int) (C := R_Names) (T := T_Names) (N := 9) (Ts := bs_W0) hx hb hW in_Names t_Names t_Names_ok n_Names hown hC.1 hP hD hS 0 rfl rfl 3 (by decide) (hW _ qw_1a22e5f505) (fun _ h9 => h9) rfl (by decide +kernel) rfl rfl (Nat.le_of_ble_eq_true rfl) dNames_put_65 (fun H locs hP hD hS => ?_)
  have hP : va_P γ.1 vwCl [(a, .inr (2, [.ref r34, .ref r37, .ref r40, .ref r43, .ref b4_2, .ref b5_2, .ref b6_2, .int (nI N), .int (nI sc)])), (r34, .inl (γ.2.1, wl L (N + 1), .inl fr34)), (r37, .inl (γ.2.1, wl L (N + 1), .inl fr37)), (r40, .inl (γ.2.1, wl L (N + 1), .inl fr40)), (r43, .inl (γ.2.1, wl L (N + 1), .inl fr43)), (b4_2, .inl (γ.2.1, L, .inl f4_2)), (b5_2, .inl (γ.2.1, 256, .inl f5_2)), (b6_2, .inl (γ.2.1, 32, .inl f6_2))] _ := hP
  have hD : va_D Z [(a, .inr (2, [.ref r34, .ref r37, .ref r40, .ref r43, .ref b4_2, .ref b5_2, .ref b6_2, .int (nI N), .int (nI sc)])), (r34, .inl (γ.2.1, wl L (N + 1), .inl fr34)), (r37, .inl (γ.2.1, wl L (N + 1), .inl fr37)), (r40, .inl (γ.2.1, wl L (N + 1), .inl fr40)), (r43, .inl (γ.2.1, wl L (N + 1), .inl fr43)), (b4_2, .inl (γ.2.1, L, .inl f4_2)), (b5_2, .inl (γ.2.1, 256, .inl f5_2)), (b6_2, .inl (γ.2.1, 32, .inl f6_2))] := hD
  refine lv_aload_n hx hb dNames_put_68 rfl (lv_at hl 0 rfl) ?_
  refine lv_aload_n hx hb dNames_put_69 rfl (lv_at hl 0 rfl) ?_
  refine va_get (D := γ.1) (ci := 2) (v := .ref b4_2) (C := R_Names) (T := T_Names) (N := 9) (Ts := bs_W0) hx hb hW in_Names hown hC.1 hP 0 rfl rfl 4 (by decide) (hW _ qw_ddfb92ec41) (fun _ h9 => h9) rfl dNames_put_70 ?_
  refine lv_aload_n hx hb dNames_put_73 rfl (lv_at hl 0 rfl) ?_
  refine va_get (D := γ.1) (ci := 2) (v := .int (nI N)) (C := R_Names) (T := T_Names) (N := 9) (Ts := bs_W0) hx hb hW in_Names hown hC.1 hP 0 rfl rfl 7 (by decide) (hW _ qw_171adcdf9f) (fun _ h9 => h9) rfl dNames_put_74 ?_
  refine lv_topi (fun v44 ev44 => ?_)
  refine lv_iconst (v := 1) hx hb dNames_put_77 (by decide) ?_
  refine lv_iadd hx hb dNames_put_78 ?_
  refine lv_topi (fun v45 ev45 => ?_)
  have ev45 : v45 = nI (N + 1) := by rw [ev45, ev44]; exact nI_add (N) (1)
  obtain rfl : v45 = nI (N + 1) := ev45
  refine mu_Tr (rest := [.ref a]) S hC (fun q h => hA q (Nat.le_trans hS.1 h)) (fun q h => h) hS (c_withRoom l γ Z b4_2 L (N + 1) f4_2 _ (by omega) (by omega)) meTypeBook_withRoom (hC.2 _ qn_8953b9cb9f rfl) ⟨Nat.le_of_ble_eq_true rfl, Nat.le_of_ble_eq_true rfl⟩ ⟨rfl, hD.2 5 _ rfl, hP 5 _ rfl⟩ rfl hl.1 rfl (Nat.le_of_ble_eq_true rfl) dNames_put_79 ⟨(by show _ ≤ 0 + wc L (N + 1) + wc L (N + 1) + wc L (N + 1) + wc L (N + 1) + wc L (N + 1); omega), (by show _ ≤ 0 + wm L (N + 1) + wm L (N + 1) + wm L (N + 1) + wm L (N + 1) + wm L (N + 1); omega)⟩ (fun r46 Hr46 locs hPO hS _ _ => ?_)
  obtain ⟨g1r46, g2r46, g3r46, g4r46, fr46, g5r46, g6r46⟩ := hPO
  obtain ⟨hP, hD⟩ := wr_join (i := 5) hP hD rfl g4r46 g5r46 g1r46 g2r46
  have hP : va_P γ.1 vwCl [(a, .inr (2, [.ref r34, .ref r37, .ref r40, .ref r43, .ref b4_2, .ref b5_2, .ref b6_2, .int (nI N), .int (nI sc)])), (r34, .inl (γ.2.1, wl L (N + 1), .inl fr34)), (r37, .inl (γ.2.1, wl L (N + 1), .inl fr37)), (r40, .inl (γ.2.1, wl L (N + 1), .inl fr40)), (r43, .inl (γ.2.1, wl L (N + 1), .inl fr43)), (r46, .inl (γ.2.1, wl L (N + 1), .inl fr46)), (b5_2, .inl (γ.2.1, 256, .inl f5_2)), (b6_2, .inl (γ.2.1, 32, .inl f6_2))] _ := hP
  have hD : va_D Z [(a, .inr (2, [.ref r34, .ref r37, .ref r40, .ref r43, .ref b4_2, .ref b5_2, .ref b6_2, .int (nI N), .int (nI sc)])), (r34, .inl (γ.2.1, wl L (N + 1), .inl fr34)), (r37, .inl (γ.2.1, wl L (N + 1), .inl fr37)), (r40, .inl (γ.2.1, wl L (N + 1), .inl fr40)), (r43, .inl (γ.2.1, wl L (N + 1), .inl fr43)), (r46, .inl (γ.2.1, wl L (N + 1), .inl fr46)), (b5_2, .inl (γ.2.1, 256, .inl f5_2)), (b6_2, .inl (γ.2.1, 32, .inl f6_2))] := hD
  refine va_put (D := γ.1) (ci := 2) (v := .ref r46) (ty := .array .int) (C := R_Names) (T := T_Names) (N := 9) (Ts := bs_W0) hx hb hW in_Names t_Names t_Names_ok n_Names hown hC.1 hP hD hS 0 rfl rfl 4 (by decide) (hW _ qw_ddfb92ec41) (fun _ h9 => h9) rfl (by decide +kernel) rfl rfl (Nat.le_of_ble_eq_true rfl) dNames_put_82 (fun H locs hP hD hS => ?_)
  have hP : va_P γ.1 vwCl [(a, .inr (2, [.ref r34, .ref r37, .ref r40, .ref r43, .ref r46, .ref b5_2, .ref b6_2, .int (nI N), .int (nI sc)])), (r34, .inl (γ.2.1, wl L (N + 1), .inl fr34)), (r37, .inl (γ.2.1, wl L (N + 1), .inl fr37)), (r40, .inl (γ.2.1, wl L (N + 1), .inl fr40)), (r43, .inl (γ.2.1, wl L (N + 1), .inl fr43)), (r46, .inl (γ.2.1, wl L (N + 1), .inl fr46)), (b5_2, .inl (γ.2.1, 256, .inl f5_2)), (b6_2, .inl (γ.2.1, 32, .inl f6_2))] _ := hP
  have hD : va_D Z [(a, .inr (2, [.ref r34, .ref r37, .ref r40, .ref r43, .ref r46, .ref b5_2, .ref b6_2, .int (nI N), .int (nI sc)])), (r34, .inl (γ.2.1, wl L (N + 1), .inl fr34)), (r37, .inl (γ.2.1, wl L (N + 1), .inl fr37)), (r40, .inl (γ.2.1, wl L (N + 1), .inl fr40)), (r43, .inl (γ.2.1, wl L (N + 1), .inl fr43)), (r46, .inl (γ.2.1, wl L (N + 1), .inl fr46)), (b5_2, .inl (γ.2.1, 256, .inl f5_2)), (b6_2, .inl (γ.2.1, 32, .inl f6_2))] := hD
  refine lv_iload_n hx hb dNames_put_85 rfl (lv_at hl 1 rfl) ?_
  refine lv_sipush (v := 255) hx hb dNames_put_86 (by decide) ?_
  refine lv_iand hx hb dNames_put_89 ?_
  refine lv_topi (fun v47 ev47 => ?_)
  refine lv_istore (lv' := [(5, .int v47), (0, .ref a), (1, .int x1), (2, .int x2), (3, .int x3), (4, .int x4)]) hx hb dNames_put_90 hl (by decide) rfl (fun ls hl => ?_)
  refine lv_aload_n hx hb dNames_put_92 rfl (lv_at hl 1 rfl) ?_
  refine va_get (D := γ.1) (ci := 2) (v := .ref r34) (C := R_Names) (T := T_Names) (N := 9) (Ts := bs_W0) hx hb hW in_Names hown hC.1 hP 0 rfl rfl 0 (by decide) (hW _ qw_a8d4a716ae) (fun _ h9 => h9) rfl dNames_put_93 ?_
  refine lv_aload_n hx hb dNames_put_96 rfl (lv_at hl 1 rfl) ?_
  refine va_get (D := γ.1) (ci := 2) (v := .int (nI N)) (C := R_Names) (T := T_Names) (N := 9) (Ts := bs_W0) hx hb hW in_Names hown hC.1 hP 0 rfl rfl 7 (by decide) (hW _ qw_171adcdf9f) (fun _ h9 => h9) rfl dNames_put_97 ?_
  refine lv_topi (fun v48 ev48 => ?_)
  refine lv_iload_n hx hb dNames_put_100 rfl (lv_at hl 2 rfl) ?_
  refine va_iast hx hb hC.1 hP hD hS 1 0 rfl rfl (by rw [ev48]; exact in_sz (by omega) (by omega)) dNames_put_101 (fun H locs hP hD hS => ?_)
  obtain ⟨u49, eu49⟩ : ∃ z : Nat → Int32, z = upd fr34 (v48).toNatClampNeg x1 := ⟨_, rfl⟩
  rw [← eu49] at hP hD
  have hP : va_P γ.1 vwCl [(a, .inr (2, [.ref r34, .ref r37, .ref r40, .ref r43, .ref r46, .ref b5_2, .ref b6_2, .int (nI N), .int (nI sc)])), (r34, .inl (γ.2.1, wl L (N + 1), .inl u49)), (r37, .inl (γ.2.1, wl L (N + 1), .inl fr37)), (r40, .inl (γ.2.1, wl L (N + 1), .inl fr40)), (r43, .inl (γ.2.1, wl L (N + 1), .inl fr43)), (r46, .inl (γ.2.1, wl L (N + 1), .inl fr46)), (b5_2, .inl (γ.2.1, 256, .inl f5_2)), (b6_2, .inl (γ.2.1, 32, .inl f6_2))] _ := hP
  have hD : va_D Z [(a, .inr (2, [.ref r34, .ref r37, .ref r40, .ref r43, .ref r46, .ref b5_2, .ref b6_2, .int (nI N), .int (nI sc)])), (r34, .inl (γ.2.1, wl L (N + 1), .inl u49)), (r37, .inl (γ.2.1, wl L (N + 1), .inl fr37)), (r40, .inl (γ.2.1, wl L (N + 1), .inl fr40)), (r43, .inl (γ.2.1, wl L (N + 1), .inl fr43)), (r46, .inl (γ.2.1, wl L (N + 1), .inl fr46)), (b5_2, .inl (γ.2.1, 256, .inl f5_2)), (b6_2, .inl (γ.2.1, 32, .inl f6_2))] := hD
  refine lv_aload_n hx hb dNames_put_102 rfl (lv_at hl 1 rfl) ?_
  refine va_get (D := γ.1) (ci := 2) (v := .ref r37) (C := R_Names) (T := T_Names) (N := 9) (Ts := bs_W0) hx hb hW in_Names hown hC.1 hP 0 rfl rfl 1 (by decide) (hW _ qw_5903ecb25d) (fun _ h9 => h9) rfl dNames_put_103 ?_
  refine lv_aload_n hx hb dNames_put_106 rfl (lv_at hl 1 rfl) ?_
  refine va_get (D := γ.1) (ci := 2) (v := .int (nI N)) (C := R_Names) (T := T_Names) (N := 9) (Ts := bs_W0) hx hb hW in_Names hown hC.1 hP 0 rfl rfl 7 (by decide) (hW _ qw_171adcdf9f) (fun _ h9 => h9) rfl dNames_put_107 ?_
  refine lv_topi (fun v50 ev50 => ?_)
  refine lv_iload_n hx hb dNames_put_110 rfl (lv_at hl 3 rfl) ?_
  refine va_iast hx hb hC.1 hP hD hS 2 0 rfl rfl (by rw [ev50]; exact in_sz (by omega) (by omega)) dNames_put_111 (fun H locs hP hD hS => ?_)
  obtain ⟨u51, eu51⟩ : ∃ z : Nat → Int32, z = upd fr37 (v50).toNatClampNeg x2 := ⟨_, rfl⟩
  rw [← eu51] at hP hD
  have hP : va_P γ.1 vwCl [(a, .inr (2, [.ref r34, .ref r37, .ref r40, .ref r43, .ref r46, .ref b5_2, .ref b6_2, .int (nI N), .int (nI sc)])), (r34, .inl (γ.2.1, wl L (N + 1), .inl u49)), (r37, .inl (γ.2.1, wl L (N + 1), .inl u51)), (r40, .inl (γ.2.1, wl L (N + 1), .inl fr40)), (r43, .inl (γ.2.1, wl L (N + 1), .inl fr43)), (r46, .inl (γ.2.1, wl L (N + 1), .inl fr46)), (b5_2, .inl (γ.2.1, 256, .inl f5_2)), (b6_2, .inl (γ.2.1, 32, .inl f6_2))] _ := hP
  have hD : va_D Z [(a, .inr (2, [.ref r34, .ref r37, .ref r40, .ref r43, .ref r46, .ref b5_2, .ref b6_2, .int (nI N), .int (nI sc)])), (r34, .inl (γ.2.1, wl L (N + 1), .inl u49)), (r37, .inl (γ.2.1, wl L (N + 1), .inl u51)), (r40, .inl (γ.2.1, wl L (N + 1), .inl fr40)), (r43, .inl (γ.2.1, wl L (N + 1), .inl fr43)), (r46, .inl (γ.2.1, wl L (N + 1), .inl fr46)), (b5_2, .inl (γ.2.1, 256, .inl f5_2)), (b6_2, .inl (γ.2.1, 32, .inl f6_2))] := hD
  refine lv_aload_n hx hb dNames_put_112 rfl (lv_at hl 1 rfl) ?_
  refine va_get (D := γ.1) (ci := 2) (v := .ref r40) (C := R_Names) (T := T_Names) (N := 9) (Ts := bs_W0) hx hb hW in_Names hown hC.1 hP 0 rfl rfl 2 (by decide) (hW _ qw_ee1ba38ad0) (fun _ h9 => h9) rfl dNames_put_113 ?_
  refine lv_aload_n hx hb dNames_put_116 rfl (lv_at hl 1 rfl) ?_
  refine va_get (D := γ.1) (ci := 2) (v := .int (nI N)) (C := R_Names) (T := T_Names) (N := 9) (Ts := bs_W0) hx hb hW in_Names hown hC.1 hP 0 rfl rfl 7 (by decide) (hW _ qw_171adcdf9f) (fun _ h9 => h9) rfl dNames_put_117 ?_
  refine lv_topi (fun v52 ev52 => ?_)
  refine lv_iload_n hx hb dNames_put_120 rfl (lv_at hl 4 rfl) ?_
  refine va_iast hx hb hC.1 hP hD hS 3 0 rfl rfl (by rw [ev52]; exact in_sz (by omega) (by omega)) dNames_put_121 (fun H locs hP hD hS => ?_)
  obtain ⟨u53, eu53⟩ : ∃ z : Nat → Int32, z = upd fr40 (v52).toNatClampNeg x3 := ⟨_, rfl⟩
  rw [← eu53] at hP hD
  have hP : va_P γ.1 vwCl [(a, .inr (2, [.ref r34, .ref r37, .ref r40, .ref r43, .ref r46, .ref b5_2, .ref b6_2, .int (nI N), .int (nI sc)])), (r34, .inl (γ.2.1, wl L (N + 1), .inl u49)), (r37, .inl (γ.2.1, wl L (N + 1), .inl u51)), (r40, .inl (γ.2.1, wl L (N + 1), .inl u53)), (r43, .inl (γ.2.1, wl L (N + 1), .inl fr43)), (r46, .inl (γ.2.1, wl L (N + 1), .inl fr46)), (b5_2, .inl (γ.2.1, 256, .inl f5_2)), (b6_2, .inl (γ.2.1, 32, .inl f6_2))] _ := hP
  have hD : va_D Z [(a, .inr (2, [.ref r34, .ref r37, .ref r40, .ref r43, .ref r46, .ref b5_2, .ref b6_2, .int (nI N), .int (nI sc)])), (r34, .inl (γ.2.1, wl L (N + 1), .inl u49)), (r37, .inl (γ.2.1, wl L (N + 1), .inl u51)), (r40, .inl (γ.2.1, wl L (N + 1), .inl u53)), (r43, .inl (γ.2.1, wl L (N + 1), .inl fr43)), (r46, .inl (γ.2.1, wl L (N + 1), .inl fr46)), (b5_2, .inl (γ.2.1, 256, .inl f5_2)), (b6_2, .inl (γ.2.1, 32, .inl f6_2))] := hD
  refine lv_aload_n hx hb dNames_put_122 rfl (lv_at hl 1 rfl) ?_
  refine va_get (D := γ.1) (ci := 2) (v := .ref r43) (C := R_Names) (T := T_Names) (N := 9) (Ts := bs_W0) hx hb hW in_Names hown hC.1 hP 0 rfl rfl 3 (by decide) (hW _ qw_1a22e5f505) (fun _ h9 => h9) rfl dNames_put_123 ?_
  refine lv_aload_n hx hb dNames_put_126 rfl (lv_at hl 1 rfl) ?_
  refine va_get (D := γ.1) (ci := 2) (v := .int (nI N)) (C := R_Names) (T := T_Names) (N := 9) (Ts := bs_W0) hx hb hW in_Names hown hC.1 hP 0 rfl rfl 7 (by decide) (hW _ qw_171adcdf9f) (fun _ h9 => h9) rfl dNames_put_127 ?_
  refine lv_topi (fun v54 ev54 => ?_)
  refine lv_iload hx hb dNames_put_130 (lv_at hl 5 rfl) ?_
  refine va_iast hx hb hC.1 hP hD hS 4 0 rfl rfl (by rw [ev54]; exact in_sz (by omega) (by omega)) dNames_put_132 (fun H locs hP hD hS => ?_)
  obtain ⟨u55, eu55⟩ : ∃ z : Nat → Int32, z = upd fr43 (v54).toNatClampNeg x4 := ⟨_, rfl⟩
  rw [← eu55] at hP hD
  have hP : va_P γ.1 vwCl [(a, .inr (2, [.ref r34, .ref r37, .ref r40, .ref r43, .ref r46, .ref b5_2, .ref b6_2, .int (nI N), .int (nI sc)])), (r34, .inl (γ.2.1, wl L (N + 1), .inl u49)), (r37, .inl (γ.2.1, wl L (N + 1), .inl u51)), (r40, .inl (γ.2.1, wl L (N + 1), .inl u53)), (r43, .inl (γ.2.1, wl L (N + 1), .inl u55)), (r46, .inl (γ.2.1, wl L (N + 1), .inl fr46)), (b5_2, .inl (γ.2.1, 256, .inl f5_2)), (b6_2, .inl (γ.2.1, 32, .inl f6_2))] _ := hP
  have hD : va_D Z [(a, .inr (2, [.ref r34, .ref r37, .ref r40, .ref r43, .ref r46, .ref b5_2, .ref b6_2, .int (nI N), .int (nI sc)])), (r34, .inl (γ.2.1, wl L (N + 1), .inl u49)), (r37, .inl (γ.2.1, wl L (N + 1), .inl u51)), (r40, .inl (γ.2.1, wl L (N + 1), .inl u53)), (r43, .inl (γ.2.1, wl L (N + 1), .inl u55)), (r46, .inl (γ.2.1, wl L (N + 1), .inl fr46)), (b5_2, .inl (γ.2.1, 256, .inl f5_2)), (b6_2, .inl (γ.2.1, 32, .inl f6_2))] := hD
  refine lv_aload_n hx hb dNames_put_133 rfl (lv_at hl 1 rfl) ?_
  refine va_get (D := γ.1) (ci := 2) (v := .ref r46) (C := R_Names) (T := T_Names) (N := 9) (Ts := bs_W0) hx hb hW in_Names hown hC.1 hP 0 rfl rfl 4 (by decide) (hW _ qw_ddfb92ec41) (fun _ h9 => h9) rfl dNames_put_134 ?_
  refine lv_aload_n hx hb dNames_put_137 rfl (lv_at hl 1 rfl) ?_
  refine va_get (D := γ.1) (ci := 2) (v := .int (nI N)) (C := R_Names) (T := T_Names) (N := 9) (Ts := bs_W0) hx hb hW in_Names hown hC.1 hP 0 rfl rfl 7 (by decide) (hW _ qw_171adcdf9f) (fun _ h9 => h9) rfl dNames_put_138 ?_
  refine lv_topi (fun v56 ev56 => ?_)
  refine lv_aload_n hx hb dNames_put_141 rfl (lv_at hl 1 rfl) ?_
  refine va_get (D := γ.1) (ci := 2) (v := .ref b5_2) (C := R_Names) (T := T_Names) (N := 9) (Ts := bs_W0) hx hb hW in_Names hown hC.1 hP 0 rfl rfl 5 (by decide) (hW _ qw_ae9666db7d) (fun _ h9 => h9) rfl dNames_put_142 ?_
  refine lv_iload hx hb dNames_put_145 (lv_at hl 0 rfl) ?_
  refine va_iald hx hb hC.1 hP 6 0 rfl rfl (by rw [ev47]; exact pk_andIn _ 8 (by decide) (by decide)) dNames_put_147 ?_
  refine lv_topi (fun v57 ev57 => ?_)
  refine va_iast hx hb hC.1 hP hD hS 5 0 rfl rfl (by rw [ev56]; exact in_sz (by omega) (by omega)) dNames_put_148 (fun H locs hP hD hS => ?_)
  obtain ⟨u58, eu58⟩ : ∃ z : Nat → Int32, z = upd fr46 (v56).toNatClampNeg v57 := ⟨_, rfl⟩
  rw [← eu58] at hP hD
  have hP : va_P γ.1 vwCl [(a, .inr (2, [.ref r34, .ref r37, .ref r40, .ref r43, .ref r46, .ref b5_2, .ref b6_2, .int (nI N), .int (nI sc)])), (r34, .inl (γ.2.1, wl L (N + 1), .inl u49)), (r37, .inl (γ.2.1, wl L (N + 1), .inl u51)), (r40, .inl (γ.2.1, wl L (N + 1), .inl u53)), (r43, .inl (γ.2.1, wl L (N + 1), .inl u55)), (r46, .inl (γ.2.1, wl L (N + 1), .inl u58)), (b5_2, .inl (γ.2.1, 256, .inl f5_2)), (b6_2, .inl (γ.2.1, 32, .inl f6_2))] _ := hP
  have hD : va_D Z [(a, .inr (2, [.ref r34, .ref r37, .ref r40, .ref r43, .ref r46, .ref b5_2, .ref b6_2, .int (nI N), .int (nI sc)])), (r34, .inl (γ.2.1, wl L (N + 1), .inl u49)), (r37, .inl (γ.2.1, wl L (N + 1), .inl u51)), (r40, .inl (γ.2.1, wl L (N + 1), .inl u53)), (r43, .inl (γ.2.1, wl L (N + 1), .inl u55)), (r46, .inl (γ.2.1, wl L (N + 1), .inl u58)), (b5_2, .inl (γ.2.1, 256, .inl f5_2)), (b6_2, .inl (γ.2.1, 32, .inl f6_2))] := hD
  refine lv_aload_n hx hb dNames_put_149 rfl (lv_at hl 1 rfl) ?_
  refine va_get (D := γ.1) (ci := 2) (v := .ref b5_2) (C := R_Names) (T := T_Names) (N := 9) (Ts := bs_W0) hx hb hW in_Names hown hC.1 hP 0 rfl rfl 5 (by decide) (hW _ qw_ae9666db7d) (fun _ h9 => h9) rfl dNames_put_150 ?_
  refine lv_iload hx hb dNames_put_153 (lv_at hl 0 rfl) ?_
  refine lv_aload_n hx hb dNames_put_155 rfl (lv_at hl 1 rfl) ?_
  refine va_get (D := γ.1) (ci := 2) (v := .int (nI N)) (C := R_Names) (T := T_Names) (N := 9) (Ts := bs_W0) hx hb hW in_Names hown hC.1 hP 0 rfl rfl 7 (by decide) (hW _ qw_171adcdf9f) (fun _ h9 => h9) rfl dNames_put_156 ?_
  refine lv_topi (fun v59 ev59 => ?_)
  refine va_iast hx hb hC.1 hP hD hS 6 0 rfl rfl (by rw [ev47]; exact pk_andIn _ 8 (by decide) (by decide)) dNames_put_159 (fun H locs hP hD hS => ?_)
  obtain ⟨u60, eu60⟩ : ∃ z : Nat → Int32, z = upd f5_2 (v47).toNatClampNeg v59 := ⟨_, rfl⟩
  rw [← eu60] at hP hD
  have hP : va_P γ.1 vwCl [(a, .inr (2, [.ref r34, .ref r37, .ref r40, .ref r43, .ref r46, .ref b5_2, .ref b6_2, .int (nI N), .int (nI sc)])), (r34, .inl (γ.2.1, wl L (N + 1), .inl u49)), (r37, .inl (γ.2.1, wl L (N + 1), .inl u51)), (r40, .inl (γ.2.1, wl L (N + 1), .inl u53)), (r43, .inl (γ.2.1, wl L (N + 1), .inl u55)), (r46, .inl (γ.2.1, wl L (N + 1), .inl u58)), (b5_2, .inl (γ.2.1, 256, .inl u60)), (b6_2, .inl (γ.2.1, 32, .inl f6_2))] _ := hP
  have hD : va_D Z [(a, .inr (2, [.ref r34, .ref r37, .ref r40, .ref r43, .ref r46, .ref b5_2, .ref b6_2, .int (nI N), .int (nI sc)])), (r34, .inl (γ.2.1, wl L (N + 1), .inl u49)), (r37, .inl (γ.2.1, wl L (N + 1), .inl u51)), (r40, .inl (γ.2.1, wl L (N + 1), .inl u53)), (r43, .inl (γ.2.1, wl L (N + 1), .inl u55)), (r46, .inl (γ.2.1, wl L (N + 1), .inl u58)), (b5_2, .inl (γ.2.1, 256, .inl u60)), (b6_2, .inl (γ.2.1, 32, .inl f6_2))] := hD
  refine lv_aload_n hx hb dNames_put_160 rfl (lv_at hl 1 rfl) ?_
  refine lv_dup hx hb dNames_put_161 rfl ?_
  refine va_get (D := γ.1) (ci := 2) (v := .int (nI N)) (C := R_Names) (T := T_Names) (N := 9) (Ts := bs_W0) hx hb hW in_Names hown hC.1 hP 0 rfl rfl 7 (by decide) (hW _ qw_171adcdf9f) (fun _ h9 => h9) rfl dNames_put_162 ?_
  refine lv_topi (fun v61 ev61 => ?_)
  refine lv_iconst (v := 1) hx hb dNames_put_165 (by decide) ?_
  refine lv_iadd hx hb dNames_put_166 ?_
  refine lv_topi (fun v62 ev62 => ?_)
  have ev62 : v62 = nI (N + 1) := by rw [ev62, ev61]; exact nI_add (N) (1)
  obtain rfl : v62 = nI (N + 1) := ev62
  refine va_put (D := γ.1) (ci := 2) (v := .int (nI (N + 1))) (ty := .int) (C := R_Names) (T := T_Names) (N := 9) (Ts := bs_W0) hx hb hW in_Names t_Names t_Names_ok n_Names hown hC.1 hP hD hS 0 rfl rfl 7 (by decide) (hW _ qw_171adcdf9f) (fun _ h9 => h9) rfl (by decide +kernel) rfl rfl (Nat.le_of_ble_eq_true rfl) dNames_put_167 (fun H locs hP hD hS => ?_)
  have hP : va_P γ.1 vwCl [(a, .inr (2, [.ref r34, .ref r37, .ref r40, .ref r43, .ref r46, .ref b5_2, .ref b6_2, .int (nI (N + 1)), .int (nI sc)])), (r34, .inl (γ.2.1, wl L (N + 1), .inl u49)), (r37, .inl (γ.2.1, wl L (N + 1), .inl u51)), (r40, .inl (γ.2.1, wl L (N + 1), .inl u53)), (r43, .inl (γ.2.1, wl L (N + 1), .inl u55)), (r46, .inl (γ.2.1, wl L (N + 1), .inl u58)), (b5_2, .inl (γ.2.1, 256, .inl u60)), (b6_2, .inl (γ.2.1, 32, .inl f6_2))] _ := hP
  have hD : va_D Z [(a, .inr (2, [.ref r34, .ref r37, .ref r40, .ref r43, .ref r46, .ref b5_2, .ref b6_2, .int (nI (N + 1)), .int (nI sc)])), (r34, .inl (γ.2.1, wl L (N + 1), .inl u49)), (r37, .inl (γ.2.1, wl L (N + 1), .inl u51)), (r40, .inl (γ.2.1, wl L (N + 1), .inl u53)), (r43, .inl (γ.2.1, wl L (N + 1), .inl u55)), (r46, .inl (γ.2.1, wl L (N + 1), .inl u58)), (b5_2, .inl (γ.2.1, 256, .inl u60)), (b6_2, .inl (γ.2.1, 32, .inl f6_2))] := hD
  have hI : cmp γ (fNames γ a (N + 1) sc (wl L (N + 1))) Z _ := ⟨_, ⟨r34, r37, r40, r43, r46, b5_2, b6_2, u49, u51, u53, u55, u58, u60, f6_2, rfl, (by omega), (by omega), (by omega), (by omega), (by omega), (by obtain ⟨g, q1, q2, q3⟩ := h6_2; exact ⟨g, q1, q2, fun k hk => Nat.le_trans (q3 k hk) (by omega)⟩)⟩, hP, hD⟩
  have hQ := hE _ _ 170 ls hS hI dNames_put_170
  refine W.cs (cells' := 0 + wc L (N + 1) + wc L (N + 1) + wc L (N + 1) + wc L (N + 1) + wc L (N + 1)) (slots' := 0 + wm L (N + 1) + wm L (N + 1) + wm L (N + 1) + wm L (N + 1) + wm L (N + 1)) (by omega) (by omega) ?_
  exact hQ
