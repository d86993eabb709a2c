theorem qn_fe62be3d74 : (Cond.methodLinkNest R_Types 56 yTypeBook_withRoom "TypeBook") ∈ lw_tbl := in_tables_1_1 (List.mem_of_getElem? (i := 138) rfl)
set_option maxHeartbeats 4000000 in
set_option maxRecDepth 100000 in
theorem c_Types_put (l : Launch) (γ : gE) (Z : Nat → Prop) (a N L : Nat) (x1 : Int32) (x2 : Int32) (x3 : Int32) (x4 : Int32) (hN : N ≤ 4000) : MU l yTypes_put bTypes_put 5 (some .int) 3 103 (0 + wc L (N + 1) + wc L (N + 1) + wc L (N + 1) + wc L (N + 1)) (0 + wm L (N + 1) + wm L (N + 1) + wm L (N + 1) + wm L (N + 1)) [.ref a, .int x1, .int x2, .int x3, .int x4] γ Z (cmp γ (fTypes γ a N L) Z) (mQi (fun r H => r = nI N ∧ cmp γ (fTypes γ a (N + 1) (wl L (N + 1))) Z H) Z) := by
  refine mu_openI (by decide) (Nat.le_of_ble_eq_true rfl) ?_
  intro p e s m args below meth c ls Q S hnm hC hA hI hE hl
  obtain ⟨hx, hb, hml, hown, hW⟩ := id S
  have hS : va_S Z s.heap s.heap [] := va_S.rf
  have hl : lv_has ls 5 [(0, .ref a), (1, .int x1), (2, .int x2), (3, .int x3), (4, .int x4)] := hl
  have hb9 : L ≤ 8192 ∧ N ≤ L := (by obtain ⟨w9, ⟨_, _, _, _, _, _, _, _, _, h1, h2, _⟩, _, _⟩ := id hI; exact ⟨h2, h1⟩)
  have hwl := wl_ok (n := L) (N := N + 1) (by omega) (by omega)
  refine lv_aload_n hx hb dTypes_put_0 rfl (lv_at hl 0 rfl) ?_
  refine lv_aload_n hx hb dTypes_put_1 rfl (lv_at hl 0 rfl) ?_
  obtain ⟨ws_2, ⟨b0_2, b1_2, b2_2, b3_2, f0_2, f1_2, f2_2, f3_2, rfl, h1_2, h2_2, h3_2⟩, hP, hD⟩ := id hI
  have hP : va_P γ.1 vwCl [(a, .inr (3, [.ref b0_2, .ref b1_2, .ref b2_2, .ref b3_2, .int (nI N)])), (b0_2, .inl (γ.2.1, L, .inl f0_2)), (b1_2, .inl (γ.2.1, L, .inl f1_2)), (b2_2, .inl (γ.2.1, L, .inl f2_2)), (b3_2, .inl (γ.2.1, L, .inl f3_2))] _ := hP
  have hD : va_D Z [(a, .inr (3, [.ref b0_2, .ref b1_2, .ref b2_2, .ref b3_2, .int (nI N)])), (b0_2, .inl (γ.2.1, L, .inl f0_2)), (b1_2, .inl (γ.2.1, L, .inl f1_2)), (b2_2, .inl (γ.2.1, L, .inl f2_2)), (b3_2, .inl (γ.2.1, L, .inl f3_2))] := hD
  refine va_get (D := γ.1) (ci := 3) (v := .ref b0_2) (C := R_Types) (T := T_Types) (N := 5) (Ts := bs_W0) hx hb hW in_Types hown hC.1 hP 0 rfl rfl 0 (by decide) (hW _ qw_9652573c2f) (fun _ h9 => h9) rfl dTypes_put_2 ?_
  refine lv_aload_n hx hb dTypes_put_5 rfl (lv_at hl 0 rfl) ?_
  refine va_get (D := γ.1) (ci := 3) (v := .int (nI N)) (C := R_Types) (T := T_Types) (N := 5) (Ts := bs_W0) hx hb hW in_Types hown hC.1 hP 0 rfl rfl 4 (by decide) (hW _ qw_f9da65449d) (fun _ h9 => h9) rfl dTypes_put_6 ?_
  refine lv_topi (fun v25 ev25 => ?_)
  refine lv_iconst (v := 1) hx hb dTypes_put_9 (by decide) ?_
  refine lv_iadd hx hb dTypes_put_10 ?_
  refine lv_topi (fun v26 ev26 => ?_)
  have ev26 : v26 = nI (N + 1) := by rw [ev26, ev25]; exact nI_add (N) (1)
  obtain rfl : v26 = nI (N + 1) := ev26
  refine mu_Tr (rest := [.ref a]) S hC (fun q h => hA q (Nat.le_trans hS.1 h)) (fun q h => h) hS (c_withRoom l γ Z b0_2 L (N + 1) f0_2 _ (by omega) (by omega)) meTypeBook_withRoom (hC.2 _ qn_fe62be3d74 rfl) ⟨Nat.le_of_ble_eq_true rfl, Nat.le_of_ble_eq_true rfl⟩ ⟨rfl, hD.2 1 _ rfl, hP 1 _ rfl⟩ rfl hl.1 rfl (Nat.le_of_ble_eq_true rfl) dTypes_put_11 ⟨(by show _ ≤ 0 + wc L (N + 1) + wc L (N + 1) + wc L (N + 1) + wc L (N + 1); omega), (by show _ ≤ 0 + wm L (N + 1) + wm L (N + 1) + wm L (N + 1) + wm L (N + 1); omega)⟩ (fun r27 Hr27 locs hPO hS _ _ => ?_)
  obtain ⟨g1r27, g2r27, g3r27, g4r27, fr27, g5r27, g6r27⟩ := hPO
  obtain ⟨hP, hD⟩ := wr_join (i := 1) hP hD rfl g4r27 g5r27 g1r27 g2r27
  have hP : va_P γ.1 vwCl [(a, .inr (3, [.ref b0_2, .ref b1_2, .ref b2_2, .ref b3_2, .int (nI N)])), (r27, .inl (γ.2.1, wl L (N + 1), .inl fr27)), (b1_2, .inl (γ.2.1, L, .inl f1_2)), (b2_2, .inl (γ.2.1, L, .inl f2_2)), (b3_2, .inl (γ.2.1, L, .inl f3_2))] _ := hP
  have hD : va_D Z [(a, .inr (3, [.ref b0_2, .ref b1_2, .ref b2_2, .ref b3_2, .int (nI N)])), (r27, .inl (γ.2.1, wl L (N + 1), .inl fr27)), (b1_2, .inl (γ.2.1, L, .inl f1_2)), (b2_2, .inl (γ.2.1, L, .inl f2_2)), (b3_2, .inl (γ.2.1, L, .inl f3_2))] := hD
  refine va_put (D := γ.1) (ci := 3) (v := .ref r27) (ty := .array .int) (C := R_Types) (T := T_Types) (N := 5) (Ts := bs_W0) hx hb hW in_Types t_Types t_Types_ok n_Types hown hC.1 hP hD hS 0 rfl rfl 0 (by decide) (hW _ qw_9652573c2f) (fun _ h9 => h9) rfl (by decide +kernel) rfl rfl (Nat.le_of_ble_eq_true rfl) dTypes_put_14 (fun H locs hP hD hS => ?_)
  have hP : va_P γ.1 vwCl [(a, .inr (3, [.ref r27, .ref b1_2, .ref b2_2, .ref b3_2, .int (nI N)])), (r27, .inl (γ.2.1, wl L (N + 1), .inl fr27)), (b1_2, .inl (γ.2.1, L, .inl f1_2)), (b2_2, .inl (γ.2.1, L, .inl f2_2)), (b3_2, .inl (γ.2.1, L, .inl f3_2))] _ := hP
  have hD : va_D Z [(a, .inr (3, [.ref r27, .ref b1_2, .ref b2_2, .ref b3_2, .int (nI N)])), (r27, .inl (γ.2.1, wl L (N + 1), .inl fr27)), (b1_2, .inl (γ.2.1, L, .inl f1_2)), (b2_2, .inl (γ.2.1, L, .inl f2_2)), (b3_2, .inl (γ.2.1, L, .inl f3_2))] := hD
  refine lv_aload_n hx hb dTypes_put_17 rfl (lv_at hl 0 rfl) ?_
  refine lv_aload_n hx hb dTypes_put_18 rfl (lv_at hl 0 rfl) ?_
  refine va_get (D := γ.1) (ci := 3) (v := .ref b1_2) (C := R_Types) (T := T_Types) (N := 5) (Ts := bs_W0) hx hb hW in_Types hown hC.1 hP 0 rfl rfl 1 (by decide) (hW _ qw_3e3b315a67) (fun _ h9 => h9) rfl dTypes_put_19 ?_
  refine lv_aload_n hx hb dTypes_put_22 rfl (lv_at hl 0 rfl) ?_
  refine va_get (D := γ.1) (ci := 3) (v := .int (nI N)) (C := R_Types) (T := T_Types) (N := 5) (Ts := bs_W0) hx hb hW in_Types hown hC.1 hP 0 rfl rfl 4 (by decide) (hW _ qw_f9da65449d) (fun _ h9 => h9) rfl dTypes_put_23 ?_
  refine lv_topi (fun v28 ev28 => ?_)
  refine lv_iconst (v := 1) hx hb dTypes_put_26 (by decide) ?_
  refine lv_iadd hx hb dTypes_put_27 ?_
  refine lv_topi (fun v29 ev29 => ?_)
  have ev29 : v29 = nI (N + 1) := by rw [ev29, ev28]; exact nI_add (N) (1)
  obtain rfl : v29 = nI (N + 1) := ev29
  refine mu_Tr (rest := [.ref a]) S hC (fun q h => hA q (Nat.le_trans hS.1 h)) (fun q h => h) hS (c_withRoom l γ Z b1_2 L (N + 1) f1_2 _ (by omega) (by omega)) meTypeBook_withRoom (hC.2 _ qn_fe62be3d74 rfl) ⟨Nat.le_of_ble_eq_true rfl, Nat.le_of_ble_eq_true rfl⟩ ⟨rfl, hD.2 2 _ rfl, hP 2 _ rfl⟩ rfl hl.1 rfl (Nat.le_of_ble_eq_true rfl) dTypes_put_28 ⟨(by show _ ≤ 0 + wc L (N + 1) + wc L (N + 1) + wc L (N + 1) + wc L (N + 1); omega), (by show _ ≤ 0 + wm L (N + 1) + wm L (N + 1) + wm L (N + 1) + wm L (N + 1); omega)⟩ (fun r30 Hr30 locs hPO hS _ _ => ?_)
  obtain ⟨g1r30, g2r30, g3r30, g4r30, fr30, g5r30, g6r30⟩ := hPO
  obtain ⟨hP, hD⟩ := wr_join (i := 2) hP hD rfl g4r30 g5r30 g1r30 g2r30
  have hP : va_P γ.1 vwCl [(a, .inr (3, [.ref r27, .ref b1_2, .ref b2_2, .ref b3_2, .int (nI N)])), (r27, .inl (γ.2.1, wl L (N + 1), .inl fr27)), (r30, .inl (γ.2.1, wl L (N + 1), .inl fr30)), (b2_2, .inl (γ.2.1, L, .inl f2_2)), (b3_2, .inl (γ.2.1, L, .inl f3_2))] _ := hP
  have hD : va_D Z [(a, .inr (3, [.ref r27, .ref b1_2, .ref b2_2, .ref b3_2, .int (nI N)])), (r27, .inl (γ.2.1, wl L (N + 1), .inl fr27)), (r30, .inl (γ.2.1, wl L (N + 1), .inl fr30)), (b2_2, .inl (γ.2.1, L, .inl f2_2)), (b3_2, .inl (γ.2.1, L, .inl f3_2))] := hD
  refine va_put (D := γ.1) (ci := 3) (v := .ref r30) (ty := .array .int) (C := R_Types) (T := T_Types) (N := 5) (Ts := bs_W0) hx hb hW in_Types t_Types t_Types_ok n_Types hown hC.1 hP hD hS 0 rfl rfl 1 (by decide) (hW _ qw_3e3b315a67) (fun _ h9 => h9) rfl (by decide +kernel) rfl rfl (Nat.le_of_ble_eq_true rfl) dTypes_put_31 (fun H locs hP hD hS => ?_)
  have hP : va_P γ.1 vwCl [(a, .inr (3, [.ref r27, .ref r30, .ref b2_2, .ref b3_2, .int (nI N)])), (r27, .inl (γ.2.1, wl L (N + 1), .inl fr27)), (r30, .inl (γ.2.1, wl L (N + 1), .inl fr30)), (b2_2, .inl (γ.2.1, L, .inl f2_2)), (b3_2, .inl (γ.2.1, L, .inl f3_2))] _ := hP
  have hD : va_D Z [(a, .inr (3, [.ref r27, .ref r30, .ref b2_2, .ref b3_2, .int (nI N)])), (r27, .inl (γ.2.1, wl L (N + 1), .inl fr27)), (r30, .inl (γ.2.1, wl L (N + 1), .inl fr30)), (b2_2, .inl (γ.2.1, L, .inl f2_2)), (b3_2, .inl (γ.2.1, L, .inl f3_2))] := hD
  refine lv_aload_n hx hb dTypes_put_34 rfl (lv_at hl 0 rfl) ?_
  refine lv_aload_n hx hb dTypes_put_35 rfl (lv_at hl 0 rfl) ?_
  refine va_get (D := γ.1) (ci := 3) (v := .ref b2_2) (C := R_Types) (T := T_Types) (N := 5) (Ts := bs_W0) hx hb hW in_Types hown hC.1 hP 0 rfl rfl 2 (by decide) (hW _ qw_dd571233a8) (fun _ h9 => h9) rfl dTypes_put_36 ?_
  refine lv_aload_n hx hb dTypes_put_39 rfl (lv_at hl 0 rfl) ?_
  refine va_get (D := γ.1) (ci := 3) (v := .int (nI N)) (C := R_Types) (T := T_Types) (N := 5) (Ts := bs_W0) hx hb hW in_Types hown hC.1 hP 0 rfl rfl 4 (by decide) (hW _ qw_f9da65449d) (fun _ h9 => h9) rfl dTypes_put_40 ?_
  refine lv_topi (fun v31 ev31 => ?_)
  refine lv_iconst (v := 1) hx hb dTypes_put_43 (by decide) ?_
  refine lv_iadd hx hb dTypes_put_44 ?_
  refine lv_topi (fun v32 ev32 => ?_)
  have ev32 : v32 = nI (N + 1) := by rw [ev32, ev31]; exact nI_add (N) (1)
  obtain rfl : v32 = nI (N + 1) := ev32
  refine mu_Tr (rest := [.ref a]) S hC (fun q h => hA q (Nat.le_trans hS.1 h)) (fun q h => h) hS (c_withRoom l γ Z b2_2 L (N + 1) f2_2 _ (by omega) (by omega)) meTypeBook_withRoom (hC.2 _ qn_fe62be3d74 rfl) ⟨Nat.le_of_ble_eq_true rfl, Nat.le_of_ble_eq_true rfl⟩ ⟨rfl, hD.2 3 _ rfl, hP 3 _ rfl⟩ rfl hl.1 rfl (Nat.le_of_ble_eq_true rfl) dTypes_put_45 ⟨(by show _ ≤ 0 + wc L (N + 1) + wc L (N + 1) + wc L (N + 1) + wc L (N + 1); omega), (by show _ ≤ 0 + wm L (N + 1) + wm L (N + 1) + wm L (N + 1) + wm L (N + 1); omega)⟩ (fun r33 Hr33 locs hPO hS _ _ => ?_)
  obtain ⟨g1r33, g2r33, g3r33, g4r33, fr33, g5r33, g6r33⟩ := hPO
  obtain ⟨hP, hD⟩ := wr_join (i := 3) hP hD rfl g4r33 g5r33 g1r33 g2r33
  have hP : va_P γ.1 vwCl [(a, .inr (3, [.ref r27, .ref r30, .ref b2_2, .ref b3_2, .int (nI N)])), (r27, .inl (γ.2.1, wl L (N + 1), .inl fr27)), (r30, .inl (γ.2.1, wl L (N + 1), .inl fr30)), (r33, .inl (γ.2.1, wl L (N + 1), .inl fr33)), (b3_2, .inl (γ.2.1, L, .inl f3_2))] _ := hP
  have hD : va_D Z [(a, .inr (3, [.ref r27, .ref r30, .ref b2_2, .ref b3_2, .int (nI N)])), (r27, .inl (γ.2.1, wl L (N + 1), .inl fr27)), (r30, .inl (γ.2.1, wl L (N + 1), .inl fr30)), (r33, .inl (γ.2.1, wl L (N + 1), .inl fr33)), (b3_2, .inl (γ.2.1, L, .inl f3_2))] := hD
  refine va_put (D := γ.1) (ci := 3) (v := .ref r33) (ty := .array .int) (C := R_Types) (T := T_Types) (N := 5) (Ts := bs_W0) hx hb hW in_Types t_Types t_Types_ok n_Types hown hC.1 hP hD hS 0 rfl rfl 2 (by decide) (hW _ qw_dd571233a8) (fun _ h9 => h9) rfl (by decide +kernel) rfl rfl (Nat.le_of_ble_eq_true rfl) dTypes_put_48 (fun H locs hP hD hS => ?_)
  have hP : va_P γ.1 vwCl [(a, .inr (3, [.ref r27, .ref r30, .ref r33, .ref b3_2, .int (nI N)])), (r27, .inl (γ.2.1, wl L (N + 1), .inl fr27)), (r30, .inl (γ.2.1, wl L (N + 1), .inl fr30)), (r33, .inl (γ.2.1, wl L (N + 1), .inl fr33)), (b3_2, .inl (γ.2.1, L, .inl f3_2))] _ := hP
  have hD : va_D Z [(a, .inr (3, [.ref r27, .ref r30, .ref r33, .ref b3_2, .int (nI N)])), (r27, .inl (γ.2.1, wl L (N + 1), .inl fr27)), (r30, .inl (γ.2.1, wl L (N + 1), .inl fr30)), (r33, .inl (γ.2.1, wl L (N + 1), .inl fr33)), (b3_2, .inl (γ.2.1, L, .inl f3_2))] := hD
  refine lv_aload_n hx hb dTypes_put_51 rfl (lv_at hl 0 rfl) ?_
  refine lv_aload_n hx hb dTypes_put_52 rfl (lv_at hl 0 rfl) ?_
  refine va_get (D := γ.1) (ci := 3) (v := .ref b3_2) (C := R_Types) (T := T_Types) (N := 5) (Ts := bs_W0) hx hb hW in_Types hown hC.1 hP 0 rfl rfl 3 (by decide) (hW _ qw_dded4610c2) (fun _ h9 => h9) rfl dTypes_put_53 ?_
  refine lv_aload_n hx hb dTypes_put_56 rfl (lv_at hl 0 rfl) ?_
  refine va_get (D := γ.1) (ci := 3) (v := .int (nI N)) (C := R_Types) (T := T_Types) (N := 5) (Ts := bs_W0) hx hb hW in_Types hown hC.1 hP 0 rfl rfl 4 (by decide) (hW _ qw_f9da65449d) (fun _ h9 => h9) rfl dTypes_put_57 ?_
  refine lv_topi (fun v34 ev34 => ?_)
  refine lv_iconst (v := 1) hx hb dTypes_put_60 (by decide) ?_
  refine lv_iadd hx hb dTypes_put_61 ?_
  refine lv_topi (fun v35 ev35 => ?_)
  have ev35 : v35 = nI (N + 1) := by rw [ev35, ev34]; exact nI_add (N) (1)
  obtain rfl : v35 = nI (N + 1) := ev35
  refine mu_Tr (rest := [.ref a]) S hC (fun q h => hA q (Nat.le_trans hS.1 h)) (fun q h => h) hS (c_withRoom l γ Z b3_2 L (N + 1) f3_2 _ (by omega) (by omega)) meTypeBook_withRoom (hC.2 _ qn_fe62be3d74 rfl) ⟨Nat.le_of_ble_eq_true rfl, Nat.le_of_ble_eq_true rfl⟩ ⟨rfl, hD.2 4 _ rfl, hP 4 _ rfl⟩ rfl hl.1 rfl (Nat.le_of_ble_eq_true rfl) dTypes_put_62 ⟨(by show _ ≤ 0 + wc L (N + 1) + wc L (N + 1) + wc L (N + 1) + wc L (N + 1); omega), (by show _ ≤ 0 + wm L (N + 1) + wm L (N + 1) + wm L (N + 1) + wm L (N + 1); omega)⟩ (fun r36 Hr36 locs hPO hS _ _ => ?_)
  obtain ⟨g1r36, g2r36, g3r36, g4r36, fr36, g5r36, g6r36⟩ := hPO
  obtain ⟨hP, hD⟩ := wr_join (i := 4) hP hD rfl g4r36 g5r36 g1r36 g2r36
  have hP : va_P γ.1 vwCl [(a, .inr (3, [.ref r27, .ref r30, .ref r33, .ref b3_2, .int (nI N)])), (r27, .inl (γ.2.1, wl L (N + 1), .inl fr27)), (r30, .inl (γ.2.1, wl L (N + 1), .inl fr30)), (r33, .inl (γ.2.1, wl L (N + 1), .inl fr33)), (r36, .inl (γ.2.1, wl L (N + 1), .inl fr36))] _ := hP
  have hD : va_D Z [(a, .inr (3, [.ref r27, .ref r30, .ref r33, .ref b3_2, .int (nI N)])), (r27, .inl (γ.2.1, wl L (N + 1), .inl fr27)), (r30, .inl (γ.2.1, wl L (N + 1), .inl fr30)), (r33, .inl (γ.2.1, wl L (N + 1), .inl fr33)), (r36, .inl (γ.2.1, wl L (N + 1), .inl fr36))] := hD
  refine va_put (D := γ.1) (ci := 3) (v := .ref r36) (ty := .array .int) (C := R_Types) (T := T_Types) (N := 5) (Ts := bs_W0) hx hb hW in_Types t_Types t_Types_ok n_Types hown hC.1 hP hD hS 0 rfl rfl 3 (by decide) (hW _ qw_dded4610c2) (fun _ h9 => h9) rfl (by decide +kernel) rfl rfl (Nat.le_of_ble_eq_true rfl) dTypes_put_65 (fun H locs hP hD hS => ?_)
  have hP : va_P γ.1 vwCl [(a, .inr (3, [.ref r27, .ref r30, .ref r33, .ref r36, .int (nI N)])), (r27, .inl (γ.2.1, wl L (N + 1), .inl fr27)), (r30, .inl (γ.2.1, wl L (N + 1), .inl fr30)), (r33, .inl (γ.2.1, wl L (N + 1), .inl fr33)), (r36, .inl (γ.2.1, wl L (N + 1), .inl fr36))] _ := hP
  have hD : va_D Z [(a, .inr (3, [.ref r27, .ref r30, .ref r33, .ref r36, .int (nI N)])), (r27, .inl (γ.2.1, wl L (N + 1), .inl fr27)), (r30, .inl (γ.2.1, wl L (N + 1), .inl fr30)), (r33, .inl (γ.2.1, wl L (N + 1), .inl fr33)), (r36, .inl (γ.2.1, wl L (N + 1), .inl fr36))] := hD
  refine lv_aload_n hx hb dTypes_put_68 rfl (lv_at hl 0 rfl) ?_
  refine va_get (D := γ.1) (ci := 3) (v := .ref r27) (C := R_Types) (T := T_Types) (N := 5) (Ts := bs_W0) hx hb hW in_Types hown hC.1 hP 0 rfl rfl 0 (by decide) (hW _ qw_9652573c2f) (fun _ h9 => h9) rfl dTypes_put_69 ?_
  refine lv_aload_n hx hb dTypes_put_72 rfl (lv_at hl 0 rfl) ?_
  refine va_get (D := γ.1) (ci := 3) (v := .int (nI N)) (C := R_Types) (T := T_Types) (N := 5) (Ts := bs_W0) hx hb hW in_Types hown hC.1 hP 0 rfl rfl 4 (by decide) (hW _ qw_f9da65449d) (fun _ h9 => h9) rfl dTypes_put_73 ?_
  refine lv_topi (fun v37 ev37 => ?_)
  refine lv_iload_n hx hb dTypes_put_76 rfl (lv_at hl 1 rfl) ?_
  refine va_iast hx hb hC.1 hP hD hS 1 0 rfl rfl (by rw [ev37]; exact in_sz (by omega) (by omega)) dTypes_put_77 (fun H locs hP hD hS => ?_)
  obtain ⟨u38, eu38⟩ : ∃ z : Nat → Int32, z = upd fr27 (v37).toNatClampNeg x1 := ⟨_, rfl⟩
  rw [← eu38] at hP hD
  have hP : va_P γ.1 vwCl [(a, .inr (3, [.ref r27, .ref r30, .ref r33, .ref r36, .int (nI N)])), (r27, .inl (γ.2.1, wl L (N + 1), .inl u38)), (r30, .inl (γ.2.1, wl L (N + 1), .inl fr30)), (r33, .inl (γ.2.1, wl L (N + 1), .inl fr33)), (r36, .inl (γ.2.1, wl L (N + 1), .inl fr36))] _ := hP
  have hD : va_D Z [(a, .inr (3, [.ref r27, .ref r30, .ref r33, .ref r36, .int (nI N)])), (r27, .inl (γ.2.1, wl L (N + 1), .inl u38)), (r30, .inl (γ.2.1, wl L (N + 1), .inl fr30)), (r33, .inl (γ.2.1, wl L (N + 1), .inl fr33)), (r36, .inl (γ.2.1, wl L (N + 1), .inl fr36))] := hD
  refine lv_aload_n hx hb dTypes_put_78 rfl (lv_at hl 0 rfl) ?_
  refine va_get (D := γ.1) (ci := 3) (v := .ref r30) (C := R_Types) (T := T_Types) (N := 5) (Ts := bs_W0) hx hb hW in_Types hown hC.1 hP 0 rfl rfl 1 (by decide) (hW _ qw_3e3b315a67) (fun _ h9 => h9) rfl dTypes_put_79 ?_
  refine lv_aload_n hx hb dTypes_put_82 rfl (lv_at hl 0 rfl) ?_
  refine va_get (D := γ.1) (ci := 3) (v := .int (nI N)) (C := R_Types) (T := T_Types) (N := 5) (Ts := bs_W0) hx hb hW in_Types hown hC.1 hP 0 rfl rfl 4 (by decide) (hW _ qw_f9da65449d) (fun _ h9 => h9) rfl dTypes_put_83 ?_
  refine lv_topi (fun v39 ev39 => ?_)
  refine lv_iload_n hx hb dTypes_put_86 rfl (lv_at hl 2 rfl) ?_
  refine va_iast hx hb hC.1 hP hD hS 2 0 rfl rfl (by rw [ev39]; exact in_sz (by omega) (by omega)) dTypes_put_87 (fun H locs hP hD hS => ?_)
  obtain ⟨u40, eu40⟩ : ∃ z : Nat → Int32, z = upd fr30 (v39).toNatClampNeg x2 := ⟨_, rfl⟩
  rw [← eu40] at hP hD
  have hP : va_P γ.1 vwCl [(a, .inr (3, [.ref r27, .ref r30, .ref r33, .ref r36, .int (nI N)])), (r27, .inl (γ.2.1, wl L (N + 1), .inl u38)), (r30, .inl (γ.2.1, wl L (N + 1), .inl u40)), (r33, .inl (γ.2.1, wl L (N + 1), .inl fr33)), (r36, .inl (γ.2.1, wl L (N + 1), .inl fr36))] _ := hP
  have hD : va_D Z [(a, .inr (3, [.ref r27, .ref r30, .ref r33, .ref r36, .int (nI N)])), (r27, .inl (γ.2.1, wl L (N + 1), .inl u38)), (r30, .inl (γ.2.1, wl L (N + 1), .inl u40)), (r33, .inl (γ.2.1, wl L (N + 1), .inl fr33)), (r36, .inl (γ.2.1, wl L (N + 1), .inl fr36))] := hD
  refine lv_aload_n hx hb dTypes_put_88 rfl (lv_at hl 0 rfl) ?_
  refine va_get (D := γ.1) (ci := 3) (v := .ref r33) (C := R_Types) (T := T_Types) (N := 5) (Ts := bs_W0) hx hb hW in_Types hown hC.1 hP 0 rfl rfl 2 (by decide) (hW _ qw_dd571233a8) (fun _ h9 => h9) rfl dTypes_put_89 ?_
  refine lv_aload_n hx hb dTypes_put_92 rfl (lv_at hl 0 rfl) ?_
  refine va_get (D := γ.1) (ci := 3) (v := .int (nI N)) (C := R_Types) (T := T_Types) (N := 5) (Ts := bs_W0) hx hb hW in_Types hown hC.1 hP 0 rfl rfl 4 (by decide) (hW _ qw_f9da65449d) (fun _ h9 => h9) rfl dTypes_put_93 ?_
  refine lv_topi (fun v41 ev41 => ?_)
  refine lv_iload_n hx hb dTypes_put_96 rfl (lv_at hl 3 rfl) ?_
  refine va_iast hx hb hC.1 hP hD hS 3 0 rfl rfl (by rw [ev41]; exact in_sz (by omega) (by omega)) dTypes_put_97 (fun H locs hP hD hS => ?_)
  obtain ⟨u42, eu42⟩ : ∃ z : Nat → Int32, z = upd fr33 (v41).toNatClampNeg x3 := ⟨_, rfl⟩
  rw [← eu42] at hP hD
  have hP : va_P γ.1 vwCl [(a, .inr (3, [.ref r27, .ref r30, .ref r33, .ref r36, .int (nI N)])), (r27, .inl (γ.2.1, wl L (N + 1), .inl u38)), (r30, .inl (γ.2.1, wl L (N + 1), .inl u40)), (r33, .inl (γ.2.1, wl L (N + 1), .inl u42)), (r36, .inl (γ.2.1, wl L (N + 1), .inl fr36))] _ := hP
  have hD : va_D Z [(a, .inr (3, [.ref r27, .ref r30, .ref r33, .ref r36, .int (nI N)])), (r27, .inl (γ.2.1, wl L (N + 1), .inl u38)), (r30, .inl (γ.2.1, wl L (N + 1), .inl u40)), (r33, .inl (γ.2.1, wl L (N + 1), .inl u42)), (r36, .inl (γ.2.1, wl L (N + 1), .inl fr36))] := hD
  refine lv_aload_n hx hb dTypes_put_98 rfl (lv_at hl 0 rfl) ?_
  refine va_get (D := γ.1) (ci := 3) (v := .ref r36) (C := R_Types) (T := T_Types) (N := 5) (Ts := bs_W0) hx hb hW in_Types hown hC.1 hP 0 rfl rfl 3 (by decide) (hW _ qw_dded4610c2) (fun _ h9 => h9) rfl dTypes_put_99 ?_
  refine lv_aload_n hx hb dTypes_put_102 rfl (lv_at hl 0 rfl) ?_
  refine va_get (D := γ.1) (ci := 3) (v := .int (nI N)) (C := R_Types) (T := T_Types) (N := 5) (Ts := bs_W0) hx hb hW in_Types hown hC.1 hP 0 rfl rfl 4 (by decide) (hW _ qw_f9da65449d) (fun _ h9 => h9) rfl dTypes_put_103 ?_
  refine lv_topi (fun v43 ev43 => ?_)
  refine lv_iload hx hb dTypes_put_106 (lv_at hl 4 rfl) ?_
  refine va_iast hx hb hC.1 hP hD hS 4 0 rfl rfl (by rw [ev43]; exact in_sz (by omega) (by omega)) dTypes_put_108 (fun H locs hP hD hS => ?_)
  obtain ⟨u44, eu44⟩ : ∃ z : Nat → Int32, z = upd fr36 (v43).toNatClampNeg x4 := ⟨_, rfl⟩
  rw [← eu44] at hP hD
  have hP : va_P γ.1 vwCl [(a, .inr (3, [.ref r27, .ref r30, .ref r33, .ref r36, .int (nI N)])), (r27, .inl (γ.2.1, wl L (N + 1), .inl u38)), (r30, .inl (γ.2.1, wl L (N + 1), .inl u40)), (r33, .inl (γ.2.1, wl L (N + 1), .inl u42)), (r36, .inl (γ.2.1, wl L (N + 1), .inl u44))] _ := hP
  have hD : va_D Z [(a, .inr (3, [.ref r27, .ref r30, .ref r33, .ref r36, .int (nI N)])), (r27, .inl (γ.2.1, wl L (N + 1), .inl u38)), (r30, .inl (γ.2.1, wl L (N + 1), .inl u40)), (r33, .inl (γ.2.1, wl L (N + 1), .inl u42)), (r36, .inl (γ.2.1, wl L (N + 1), .inl u44))] := hD
  refine lv_aload_n hx hb dTypes_put_109 rfl (lv_at hl 0 rfl) ?_
  refine lv_dup hx hb dTypes_put_110 rfl ?_
  refine va_get (D := γ.1) (ci := 3) (v := .int (nI N)) (C := R_Types) (T := T_Types) (N := 5) (Ts := bs_W0) hx hb hW in_Types hown hC.1 hP 0 rfl rfl 4 (by decide) (hW _ qw_f9da65449d) (fun _ h9 => h9) rfl dTypes_put_111 ?_
  refine lv_topi (fun v45 ev45 => ?_)
  refine lv_iconst (v := 1) hx hb dTypes_put_114 (by decide) ?_
  refine lv_iadd hx hb dTypes_put_115 ?_
  refine lv_topi (fun v46 ev46 => ?_)
  have ev46 : v46 = nI (N + 1) := by rw [ev46, ev45]; exact nI_add (N) (1)
  obtain rfl : v46 = nI (N + 1) := ev46
  refine va_put (D := γ.1) (ci := 3) (v := .int (nI (N + 1))) (ty := .int) (C := R_Types) (T := T_Types) (N := 5) (Ts := bs_W0) hx hb hW in_Types t_Types t_Types_ok n_Types hown hC.1 hP hD hS 0 rfl rfl 4 (by decide) (hW _ qw_f9da65449d) (fun _ h9 => h9) rfl (by decide +kernel) rfl rfl (Nat.le_of_ble_eq_true rfl) dTypes_put_116 (fun H locs hP hD hS => ?_)
  have hP : va_P γ.1 vwCl [(a, .inr (3, [.ref r27, .ref r30, .ref r33, .ref r36, .int (nI (N + 1))])), (r27, .inl (γ.2.1, wl L (N + 1), .inl u38)), (r30, .inl (γ.2.1, wl L (N + 1), .inl u40)), (r33, .inl (γ.2.1, wl L (N + 1), .inl u42)), (r36, .inl (γ.2.1, wl L (N + 1), .inl u44))] _ := hP
  have hD : va_D Z [(a, .inr (3, [.ref r27, .ref r30, .ref r33, .ref r36, .int (nI (N + 1))])), (r27, .inl (γ.2.1, wl L (N + 1), .inl u38)), (r30, .inl (γ.2.1, wl L (N + 1), .inl u40)), (r33, .inl (γ.2.1, wl L (N + 1), .inl u42)), (r36, .inl (γ.2.1, wl L (N + 1), .inl u44))] := hD
  refine lv_aload_n hx hb dTypes_put_119 rfl (lv_at hl 0 rfl) ?_
  refine va_get (D := γ.1) (ci := 3) (v := .int (nI (N + 1))) (C := R_Types) (T := T_Types) (N := 5) (Ts := bs_W0) hx hb hW in_Types hown hC.1 hP 0 rfl rfl 4 (by decide) (hW _ qw_f9da65449d) (fun _ h9 => h9) rfl dTypes_put_120 ?_
  refine lv_topi (fun v47 ev47 => ?_)
  refine lv_iconst (v := 1) hx hb dTypes_put_123 (by decide) ?_
  refine lv_isub hx hb dTypes_put_124 ?_
  refine lv_topi (fun v48 ev48 => ?_)
  have ev48 : v48 = nI (N) := by rw [ev48, ev47]; exact nI_pred (N)
  have hI : cmp γ (fTypes γ a (N + 1) (wl L (N + 1))) Z _ := ⟨_, ⟨r27, r30, r33, r36, u38, u40, u42, u44, rfl, (by omega), (by omega), (by omega)⟩, hP, hD⟩
  have hQ := hE _ _ v48 125 ls hS ⟨ev48, hI⟩ dTypes_put_125
  refine W.cs (cells' := 0 + wc L (N + 1) + wc L (N + 1) + wc L (N + 1) + wc L (N + 1)) (slots' := 0 + wm L (N + 1) + wm L (N + 1) + wm L (N + 1) + wm L (N + 1)) (by omega) (by omega) ?_
  exact hQ
