theorem qn_f0b29a9b3b : (Cond.methodLinkNest R_Objects 38 yTypeBook_withRoom "TypeBook") ∈ lw_tbl := in_tables_1_5 (List.mem_of_getElem? (i := 88) rfl)
theorem qw_c89579b831 : (Cond.methodLink R_Objects 42 yRows_makeRoom) ∈ bs_W0 := bs_in (in_tables_1_5 (List.mem_of_getElem? (i := 89) rfl)) rfl
set_option maxHeartbeats 4000000 in
set_option maxRecDepth 100000 in
theorem k_Objects_put (l : Launch) (γ : gE) (A : Nat → Prop) (κ : Nat → Nat) (x1 : Int32) (x2 : Int32) (hN : κ 5 ≤ 4000) : MU l yObjects_put bObjects_put 3 (some .int) 3 103 (0 + wc (κ 14) (κ 5 + 1) + wc (κ 14) (κ 5 + 1) + wc (κ 14) (κ 5 + 1) + wc (κ 8) (κ 5 + 1)) (0 + wm (κ 14) (κ 5 + 1) + wm (κ 14) (κ 5 + 1) + wm (κ 14) (κ 5 + 1) + 4 * wm (κ 8) (κ 5 + 1)) [.ref (γ.2.2.2 4), .int x1, .int x2] γ A (INV γ A κ) (mQi (fun r H => r = nI (κ 5) ∧ INV γ A (ku (ku (ku κ 14 (wl (κ 14) (κ 5 + 1))) 8 (wl (κ 8) (κ 5 + 1))) 5 (κ 5 + 1)) H) A) := by
  refine mu_openI (by decide) (Nat.le_of_ble_eq_true rfl) ?_
  intro p e s m args below meth c ls Q S hnm hC hA hI hE hl
  obtain ⟨hx, hb, hml, hown, hW⟩ := id S
  have hS : va_S A s.heap s.heap [] := va_S.rf
  have hl : lv_has ls 3 [(0, .ref (γ.2.2.2 4)), (1, .int x1), (2, .int x2)] := hl
  have hb9 : κ 14 ≤ 8192 ∧ κ 5 ≤ κ 14 ∧ 16 ≤ κ 14 := (by obtain ⟨_, w9, ⟨_, _, _, _, _, _, _, h1, h2, h3⟩, _, _⟩ := inv_c hI 5 (by decide) (by decide); exact ⟨h2, h1, h3⟩)
  have hwl := wl_ok (n := κ 14) (N := κ 5 + 1) (by omega) (by omega)
  refine lv_aload_n hx hb dObjects_put_0 rfl (lv_at hl 0 rfl) ?_
  refine lv_aload_n hx hb dObjects_put_1 rfl (lv_at hl 0 rfl) ?_
  obtain ⟨Z_3, ⟨ws_3, ⟨b0_3, b1_3, b2_3, f0_3, f1_3, f2_3, rfl, h1_3, h2_3, h3_3⟩, hP, hD⟩, hZn, hZA, hback⟩ := inv_lift hI (fun q h => hA q (Nat.le_trans hS.1 h)) 5 (by decide) (by decide)
  have hP : va_P γ.1 vwCl [(γ.2.2.2 4, .inr (4, [.ref b0_3, .ref b1_3, .ref b2_3, .ref (γ.2.2.2 5), .int (nI (κ 5))])), (b0_3, .inl (γ.2.1, (κ 14), .inl f0_3)), (b1_3, .inl (γ.2.1, (κ 14), .inl f1_3)), (b2_3, .inl (γ.2.1, (κ 14), .inl f2_3))] _ := hP
  have hD : va_D Z_3 [(γ.2.2.2 4, .inr (4, [.ref b0_3, .ref b1_3, .ref b2_3, .ref (γ.2.2.2 5), .int (nI (κ 5))])), (b0_3, .inl (γ.2.1, (κ 14), .inl f0_3)), (b1_3, .inl (γ.2.1, (κ 14), .inl f1_3)), (b2_3, .inl (γ.2.1, (κ 14), .inl f2_3))] := hD
  have hfz := fz.rf Z_3 (H := _) hP
  refine va_get (D := γ.1) (ci := 4) (v := .ref b0_3) (C := R_Objects) (T := T_Objects) (N := 5) (Ts := bs_W0) hx hb hW in_Objects hown hC.1 hP 0 rfl rfl 0 (by decide) (hW _ qw_bb1fa418e1) (fun _ h9 => h9) rfl dObjects_put_2 ?_
  refine lv_aload_n hx hb dObjects_put_5 rfl (lv_at hl 0 rfl) ?_
  refine va_get (D := γ.1) (ci := 4) (v := .int (nI (κ 5))) (C := R_Objects) (T := T_Objects) (N := 5) (Ts := bs_W0) hx hb hW in_Objects hown hC.1 hP 0 rfl rfl 4 (by decide) (hW _ qw_1a9a6fdaf2) (fun _ h9 => h9) rfl dObjects_put_6 ?_
  refine lv_topi (fun v23 ev23 => ?_)
  refine lv_iconst (v := 1) hx hb dObjects_put_9 (by decide) ?_
  refine lv_iadd hx hb dObjects_put_10 ?_
  refine lv_topi (fun v24 ev24 => ?_)
  have ev24 : v24 = nI (κ 5 + 1) := by rw [ev24, ev23]; exact nI_add (κ 5) (1)
  obtain rfl : v24 = nI (κ 5 + 1) := ev24
  refine mu_Tr (rest := [.ref (γ.2.2.2 4)]) S hC (fun q h => hZn q (Nat.le_trans hfz.1 h)) hZA hS (c_withRoom l γ Z_3 b0_3 (κ 14) (κ 5 + 1) f0_3 _ (by omega) (by omega)) meTypeBook_withRoom (hC.2 _ qn_f0b29a9b3b rfl) ⟨Nat.le_of_ble_eq_true rfl, Nat.le_of_ble_eq_true rfl⟩ ⟨rfl, hD.2 1 _ rfl, hP 1 _ rfl⟩ rfl hl.1 rfl (Nat.le_of_ble_eq_true rfl) dObjects_put_11 ⟨(by show _ ≤ 0 + wc (κ 14) (κ 5 + 1) + wc (κ 14) (κ 5 + 1) + wc (κ 14) (κ 5 + 1) + wc (κ 8) (κ 5 + 1); omega), (by show _ ≤ 0 + wm (κ 14) (κ 5 + 1) + wm (κ 14) (κ 5 + 1) + wm (κ 14) (κ 5 + 1) + 4 * wm (κ 8) (κ 5 + 1); omega)⟩ (fun r25 Hr25 locs hPO hS _ _ => ?_)
  obtain ⟨g1r25, g2r25, g3r25, g4r25, fr25, g5r25, g6r25⟩ := hPO
  have hfz := hfz.step g3r25 (fun q h _ => g4r25 q h)
  obtain ⟨hP, hD⟩ := wr_join (i := 1) hP hD rfl g4r25 g5r25 g1r25 g2r25
  have hP : va_P γ.1 vwCl [(γ.2.2.2 4, .inr (4, [.ref b0_3, .ref b1_3, .ref b2_3, .ref (γ.2.2.2 5), .int (nI (κ 5))])), (r25, .inl (γ.2.1, wl (κ 14) (κ 5 + 1), .inl fr25)), (b1_3, .inl (γ.2.1, (κ 14), .inl f1_3)), (b2_3, .inl (γ.2.1, (κ 14), .inl f2_3))] _ := hP
  have hD : va_D Z_3 [(γ.2.2.2 4, .inr (4, [.ref b0_3, .ref b1_3, .ref b2_3, .ref (γ.2.2.2 5), .int (nI (κ 5))])), (r25, .inl (γ.2.1, wl (κ 14) (κ 5 + 1), .inl fr25)), (b1_3, .inl (γ.2.1, (κ 14), .inl f1_3)), (b2_3, .inl (γ.2.1, (κ 14), .inl f2_3))] := hD
  refine st_put (D := γ.1) (ci := 4) (v := .ref r25) (ty := .array .int) (C := R_Objects) (T := T_Objects) (N := 5) (Ts := bs_W0) hx hb hW in_Objects t_Objects t_Objects_ok n_Objects hown hC.1 hP hD hZA hS 0 rfl rfl 0 (by decide) (hW _ qw_bb1fa418e1) (fun _ h9 => h9) rfl (by decide +kernel) rfl rfl (Nat.le_of_ble_eq_true rfl) dObjects_put_14 (fun H locs hP1 hD1 hS hz ho => ?_)
  have hfz := hfz.put hz ho (hD.2 0 _ rfl)
  have hP := hP1
  have hD := hD1
  have hP : va_P γ.1 vwCl [(γ.2.2.2 4, .inr (4, [.ref r25, .ref b1_3, .ref b2_3, .ref (γ.2.2.2 5), .int (nI (κ 5))])), (r25, .inl (γ.2.1, wl (κ 14) (κ 5 + 1), .inl fr25)), (b1_3, .inl (γ.2.1, (κ 14), .inl f1_3)), (b2_3, .inl (γ.2.1, (κ 14), .inl f2_3))] _ := hP
  have hD : va_D Z_3 [(γ.2.2.2 4, .inr (4, [.ref r25, .ref b1_3, .ref b2_3, .ref (γ.2.2.2 5), .int (nI (κ 5))])), (r25, .inl (γ.2.1, wl (κ 14) (κ 5 + 1), .inl fr25)), (b1_3, .inl (γ.2.1, (κ 14), .inl f1_3)), (b2_3, .inl (γ.2.1, (κ 14), .inl f2_3))] := hD
  refine lv_aload_n hx hb dObjects_put_17 rfl (lv_at hl 0 rfl) ?_
  refine lv_aload_n hx hb dObjects_put_18 rfl (lv_at hl 0 rfl) ?_
  refine va_get (D := γ.1) (ci := 4) (v := .ref b1_3) (C := R_Objects) (T := T_Objects) (N := 5) (Ts := bs_W0) hx hb hW in_Objects hown hC.1 hP 0 rfl rfl 1 (by decide) (hW _ qw_541217fbcc) (fun _ h9 => h9) rfl dObjects_put_19 ?_
  refine lv_aload_n hx hb dObjects_put_22 rfl (lv_at hl 0 rfl) ?_
  refine va_get (D := γ.1) (ci := 4) (v := .int (nI (κ 5))) (C := R_Objects) (T := T_Objects) (N := 5) (Ts := bs_W0) hx hb hW in_Objects hown hC.1 hP 0 rfl rfl 4 (by decide) (hW _ qw_1a9a6fdaf2) (fun _ h9 => h9) rfl dObjects_put_23 ?_
  refine lv_topi (fun v26 ev26 => ?_)
  refine lv_iconst (v := 1) hx hb dObjects_put_26 (by decide) ?_
  refine lv_iadd hx hb dObjects_put_27 ?_
  refine lv_topi (fun v27 ev27 => ?_)
  have ev27 : v27 = nI (κ 5 + 1) := by rw [ev27, ev26]; exact nI_add (κ 5) (1)
  obtain rfl : v27 = nI (κ 5 + 1) := ev27
  refine mu_Tr (rest := [.ref (γ.2.2.2 4)]) S hC (fun q h => hZn q (Nat.le_trans hfz.1 h)) hZA hS (c_withRoom l γ Z_3 b1_3 (κ 14) (κ 5 + 1) f1_3 _ (by omega) (by omega)) meTypeBook_withRoom (hC.2 _ qn_f0b29a9b3b rfl) ⟨Nat.le_of_ble_eq_true rfl, Nat.le_of_ble_eq_true rfl⟩ ⟨rfl, hD.2 2 _ rfl, hP 2 _ rfl⟩ rfl hl.1 rfl (Nat.le_of_ble_eq_true rfl) dObjects_put_28 ⟨(by show _ ≤ 0 + wc (κ 14) (κ 5 + 1) + wc (κ 14) (κ 5 + 1) + wc (κ 14) (κ 5 + 1) + wc (κ 8) (κ 5 + 1); omega), (by show _ ≤ 0 + wm (κ 14) (κ 5 + 1) + wm (κ 14) (κ 5 + 1) + wm (κ 14) (κ 5 + 1) + 4 * wm (κ 8) (κ 5 + 1); omega)⟩ (fun r28 Hr28 locs hPO hS _ _ => ?_)
  obtain ⟨g1r28, g2r28, g3r28, g4r28, fr28, g5r28, g6r28⟩ := hPO
  have hfz := hfz.step g3r28 (fun q h _ => g4r28 q h)
  obtain ⟨hP, hD⟩ := wr_join (i := 2) hP hD rfl g4r28 g5r28 g1r28 g2r28
  have hP : va_P γ.1 vwCl [(γ.2.2.2 4, .inr (4, [.ref r25, .ref b1_3, .ref b2_3, .ref (γ.2.2.2 5), .int (nI (κ 5))])), (r25, .inl (γ.2.1, wl (κ 14) (κ 5 + 1), .inl fr25)), (r28, .inl (γ.2.1, wl (κ 14) (κ 5 + 1), .inl fr28)), (b2_3, .inl (γ.2.1, (κ 14), .inl f2_3))] _ := hP
  have hD : va_D Z_3 [(γ.2.2.2 4, .inr (4, [.ref r25, .ref b1_3, .ref b2_3, .ref (γ.2.2.2 5), .int (nI (κ 5))])), (r25, .inl (γ.2.1, wl (κ 14) (κ 5 + 1), .inl fr25)), (r28, .inl (γ.2.1, wl (κ 14) (κ 5 + 1), .inl fr28)), (b2_3, .inl (γ.2.1, (κ 14), .inl f2_3))] := hD
  refine st_put (D := γ.1) (ci := 4) (v := .ref r28) (ty := .array .int) (C := R_Objects) (T := T_Objects) (N := 5) (Ts := bs_W0) hx hb hW in_Objects t_Objects t_Objects_ok n_Objects hown hC.1 hP hD hZA hS 0 rfl rfl 1 (by decide) (hW _ qw_541217fbcc) (fun _ h9 => h9) rfl (by decide +kernel) rfl rfl (Nat.le_of_ble_eq_true rfl) dObjects_put_31 (fun H locs hP1 hD1 hS hz ho => ?_)
  have hfz := hfz.put hz ho (hD.2 0 _ rfl)
  have hP := hP1
  have hD := hD1
  have hP : va_P γ.1 vwCl [(γ.2.2.2 4, .inr (4, [.ref r25, .ref r28, .ref b2_3, .ref (γ.2.2.2 5), .int (nI (κ 5))])), (r25, .inl (γ.2.1, wl (κ 14) (κ 5 + 1), .inl fr25)), (r28, .inl (γ.2.1, wl (κ 14) (κ 5 + 1), .inl fr28)), (b2_3, .inl (γ.2.1, (κ 14), .inl f2_3))] _ := hP
  have hD : va_D Z_3 [(γ.2.2.2 4, .inr (4, [.ref r25, .ref r28, .ref b2_3, .ref (γ.2.2.2 5), .int (nI (κ 5))])), (r25, .inl (γ.2.1, wl (κ 14) (κ 5 + 1), .inl fr25)), (r28, .inl (γ.2.1, wl (κ 14) (κ 5 + 1), .inl fr28)), (b2_3, .inl (γ.2.1, (κ 14), .inl f2_3))] := hD
  refine lv_aload_n hx hb dObjects_put_34 rfl (lv_at hl 0 rfl) ?_
  refine lv_aload_n hx hb dObjects_put_35 rfl (lv_at hl 0 rfl) ?_
  refine va_get (D := γ.1) (ci := 4) (v := .ref b2_3) (C := R_Objects) (T := T_Objects) (N := 5) (Ts := bs_W0) hx hb hW in_Objects hown hC.1 hP 0 rfl rfl 2 (by decide) (hW _ qw_0ed5786ef0) (fun _ h9 => h9) rfl dObjects_put_36 ?_
  refine lv_aload_n hx hb dObjects_put_39 rfl (lv_at hl 0 rfl) ?_
  refine va_get (D := γ.1) (ci := 4) (v := .int (nI (κ 5))) (C := R_Objects) (T := T_Objects) (N := 5) (Ts := bs_W0) hx hb hW in_Objects hown hC.1 hP 0 rfl rfl 4 (by decide) (hW _ qw_1a9a6fdaf2) (fun _ h9 => h9) rfl dObjects_put_40 ?_
  refine lv_topi (fun v29 ev29 => ?_)
  refine lv_iconst (v := 1) hx hb dObjects_put_43 (by decide) ?_
  refine lv_iadd hx hb dObjects_put_44 ?_
  refine lv_topi (fun v30 ev30 => ?_)
  have ev30 : v30 = nI (κ 5 + 1) := by rw [ev30, ev29]; exact nI_add (κ 5) (1)
  obtain rfl : v30 = nI (κ 5 + 1) := ev30
  refine mu_Tr (rest := [.ref (γ.2.2.2 4)]) S hC (fun q h => hZn q (Nat.le_trans hfz.1 h)) hZA hS (c_withRoom l γ Z_3 b2_3 (κ 14) (κ 5 + 1) f2_3 _ (by omega) (by omega)) meTypeBook_withRoom (hC.2 _ qn_f0b29a9b3b rfl) ⟨Nat.le_of_ble_eq_true rfl, Nat.le_of_ble_eq_true rfl⟩ ⟨rfl, hD.2 3 _ rfl, hP 3 _ rfl⟩ rfl hl.1 rfl (Nat.le_of_ble_eq_true rfl) dObjects_put_45 ⟨(by show _ ≤ 0 + wc (κ 14) (κ 5 + 1) + wc (κ 14) (κ 5 + 1) + wc (κ 14) (κ 5 + 1) + wc (κ 8) (κ 5 + 1); omega), (by show _ ≤ 0 + wm (κ 14) (κ 5 + 1) + wm (κ 14) (κ 5 + 1) + wm (κ 14) (κ 5 + 1) + 4 * wm (κ 8) (κ 5 + 1); omega)⟩ (fun r31 Hr31 locs hPO hS _ _ => ?_)
  obtain ⟨g1r31, g2r31, g3r31, g4r31, fr31, g5r31, g6r31⟩ := hPO
  have hfz := hfz.step g3r31 (fun q h _ => g4r31 q h)
  obtain ⟨hP, hD⟩ := wr_join (i := 3) hP hD rfl g4r31 g5r31 g1r31 g2r31
  have hP : va_P γ.1 vwCl [(γ.2.2.2 4, .inr (4, [.ref r25, .ref r28, .ref b2_3, .ref (γ.2.2.2 5), .int (nI (κ 5))])), (r25, .inl (γ.2.1, wl (κ 14) (κ 5 + 1), .inl fr25)), (r28, .inl (γ.2.1, wl (κ 14) (κ 5 + 1), .inl fr28)), (r31, .inl (γ.2.1, wl (κ 14) (κ 5 + 1), .inl fr31))] _ := hP
  have hD : va_D Z_3 [(γ.2.2.2 4, .inr (4, [.ref r25, .ref r28, .ref b2_3, .ref (γ.2.2.2 5), .int (nI (κ 5))])), (r25, .inl (γ.2.1, wl (κ 14) (κ 5 + 1), .inl fr25)), (r28, .inl (γ.2.1, wl (κ 14) (κ 5 + 1), .inl fr28)), (r31, .inl (γ.2.1, wl (κ 14) (κ 5 + 1), .inl fr31))] := hD
  refine st_put (D := γ.1) (ci := 4) (v := .ref r31) (ty := .array .int) (C := R_Objects) (T := T_Objects) (N := 5) (Ts := bs_W0) hx hb hW in_Objects t_Objects t_Objects_ok n_Objects hown hC.1 hP hD hZA hS 0 rfl rfl 2 (by decide) (hW _ qw_0ed5786ef0) (fun _ h9 => h9) rfl (by decide +kernel) rfl rfl (Nat.le_of_ble_eq_true rfl) dObjects_put_48 (fun H locs hP1 hD1 hS hz ho => ?_)
  have hfz := hfz.put hz ho (hD.2 0 _ rfl)
  have hP := hP1
  have hD := hD1
  have hP : va_P γ.1 vwCl [(γ.2.2.2 4, .inr (4, [.ref r25, .ref r28, .ref r31, .ref (γ.2.2.2 5), .int (nI (κ 5))])), (r25, .inl (γ.2.1, wl (κ 14) (κ 5 + 1), .inl fr25)), (r28, .inl (γ.2.1, wl (κ 14) (κ 5 + 1), .inl fr28)), (r31, .inl (γ.2.1, wl (κ 14) (κ 5 + 1), .inl fr31))] _ := hP
  have hD : va_D Z_3 [(γ.2.2.2 4, .inr (4, [.ref r25, .ref r28, .ref r31, .ref (γ.2.2.2 5), .int (nI (κ 5))])), (r25, .inl (γ.2.1, wl (κ 14) (κ 5 + 1), .inl fr25)), (r28, .inl (γ.2.1, wl (κ 14) (κ 5 + 1), .inl fr28)), (r31, .inl (γ.2.1, wl (κ 14) (κ 5 + 1), .inl fr31))] := hD
  refine lv_aload_n hx hb dObjects_put_51 rfl (lv_at hl 0 rfl) ?_
  refine va_get (D := γ.1) (ci := 4) (v := .ref (γ.2.2.2 5)) (C := R_Objects) (T := T_Objects) (N := 5) (Ts := bs_W0) hx hb hW in_Objects hown hC.1 hP 0 rfl rfl 3 (by decide) (hW _ qw_f4aeeaf054) (fun _ h9 => h9) rfl dObjects_put_52 ?_
  refine lv_aload_n hx hb dObjects_put_55 rfl (lv_at hl 0 rfl) ?_
  refine va_get (D := γ.1) (ci := 4) (v := .int (nI (κ 5))) (C := R_Objects) (T := T_Objects) (N := 5) (Ts := bs_W0) hx hb hW in_Objects hown hC.1 hP 0 rfl rfl 4 (by decide) (hW _ qw_1a9a6fdaf2) (fun _ h9 => h9) rfl dObjects_put_56 ?_
  refine lv_topi (fun v32 ev32 => ?_)
  refine lv_iconst (v := 1) hx hb dObjects_put_59 (by decide) ?_
  refine lv_iadd hx hb dObjects_put_60 ?_
  refine lv_topi (fun v33 ev33 => ?_)
  have ev33 : v33 = nI (κ 5 + 1) := by rw [ev33, ev32]; exact nI_add (κ 5) (1)
  have hI : INV γ A (ku κ 14 (wl (κ 14) (κ 5 + 1))) _ := hback (ku κ 14 (wl (κ 14) (κ 5 + 1))) _ (fun j h1 h2 h3 => by rcases (show j = 1 ∨ j = 2 ∨ j = 3 ∨ j = 4 ∨ j = 5 ∨ j = 6 ∨ j = 7 ∨ j = 8 ∨ j = 9 ∨ j = 10 by omega) with h | h | h | h | h | h | h | h | h | h <;> subst h <;> first | rfl | exact absurd rfl h1) ⟨_, ⟨r25, r28, r31, fr25, fr28, fr31, rfl, (show (κ 5) ≤ (wl (κ 14) (κ 5 + 1)) by omega), (show (wl (κ 14) (κ 5 + 1)) ≤ 8192 by omega), (show 16 ≤ (wl (κ 14) (κ 5 + 1)) by omega)⟩, hP, hD⟩ hfz.1 hfz.2
  obtain rfl : v33 = nI (κ 5 + 1) := ev33
  refine mu_Vv (rest := []) S hC (fun q h => hA q (Nat.le_trans hS.1 h)) (fun q h => h) hS (k5_Rows_makeRoom l γ A (ku κ 14 (wl (κ 14) (κ 5 + 1))) (κ 5 + 1) (by omega)) meRows_makeRoom qw_c89579b831 ⟨Nat.le_of_ble_eq_true rfl, Nat.le_of_ble_eq_true rfl⟩ (rv_5 hC hI) hI rfl hl.1 rfl (Nat.le_of_ble_eq_true rfl) dObjects_put_61 ⟨(by show 0 + wc (κ 14) (κ 5 + 1) + wc (κ 14) (κ 5 + 1) + wc (κ 14) (κ 5 + 1) + (wc (κ 8) (κ 5 + 1)) ≤ 0 + wc (κ 14) (κ 5 + 1) + wc (κ 14) (κ 5 + 1) + wc (κ 14) (κ 5 + 1) + wc (κ 8) (κ 5 + 1); omega), (by show 0 + wm (κ 14) (κ 5 + 1) + wm (κ 14) (κ 5 + 1) + wm (κ 14) (κ 5 + 1) + (4 * wm (κ 8) (κ 5 + 1)) ≤ 0 + wm (κ 14) (κ 5 + 1) + wm (κ 14) (κ 5 + 1) + wm (κ 14) (κ 5 + 1) + 4 * wm (κ 8) (κ 5 + 1); omega)⟩ (fun H locs hI hS _ _ => ?_)
  refine W.cs (cells' := 0 + wc (κ 14) (κ 5 + 1) + wc (κ 14) (κ 5 + 1) + wc (κ 14) (κ 5 + 1) + (wc (κ 8) (κ 5 + 1))) (slots' := 0 + wm (κ 14) (κ 5 + 1) + wm (κ 14) (κ 5 + 1) + wm (κ 14) (κ 5 + 1) + (4 * wm (κ 8) (κ 5 + 1))) rfl rfl ?_
  have hI : INV γ A (ku (ku κ 14 (wl (κ 14) (κ 5 + 1))) 8 (wl (κ 8) (κ 5 + 1))) _ := hI
  refine lv_aload_n hx hb dObjects_put_64 rfl (lv_at hl 0 rfl) ?_
  obtain ⟨Z_4, ⟨ws_4, ⟨b0_4, b1_4, b2_4, f0_4, f1_4, f2_4, rfl, h1_4, h2_4, h3_4⟩, hP, hD⟩, hZn, hZA, hback⟩ := inv_lift hI (fun q h => hA q (Nat.le_trans hS.1 h)) 5 (by decide) (by decide)
  have hP : va_P γ.1 vwCl [(γ.2.2.2 4, .inr (4, [.ref b0_4, .ref b1_4, .ref b2_4, .ref (γ.2.2.2 5), .int (nI (κ 5))])), (b0_4, .inl (γ.2.1, (wl (κ 14) (κ 5 + 1)), .inl f0_4)), (b1_4, .inl (γ.2.1, (wl (κ 14) (κ 5 + 1)), .inl f1_4)), (b2_4, .inl (γ.2.1, (wl (κ 14) (κ 5 + 1)), .inl f2_4))] _ := hP
  have hD : va_D Z_4 [(γ.2.2.2 4, .inr (4, [.ref b0_4, .ref b1_4, .ref b2_4, .ref (γ.2.2.2 5), .int (nI (κ 5))])), (b0_4, .inl (γ.2.1, (wl (κ 14) (κ 5 + 1)), .inl f0_4)), (b1_4, .inl (γ.2.1, (wl (κ 14) (κ 5 + 1)), .inl f1_4)), (b2_4, .inl (γ.2.1, (wl (κ 14) (κ 5 + 1)), .inl f2_4))] := hD
  have hfz := fz.rf Z_4 (H := _) hP
  refine va_get (D := γ.1) (ci := 4) (v := .ref b0_4) (C := R_Objects) (T := T_Objects) (N := 5) (Ts := bs_W0) hx hb hW in_Objects hown hC.1 hP 0 rfl rfl 0 (by decide) (hW _ qw_bb1fa418e1) (fun _ h9 => h9) rfl dObjects_put_65 ?_
  refine lv_aload_n hx hb dObjects_put_68 rfl (lv_at hl 0 rfl) ?_
  refine va_get (D := γ.1) (ci := 4) (v := .int (nI (κ 5))) (C := R_Objects) (T := T_Objects) (N := 5) (Ts := bs_W0) hx hb hW in_Objects hown hC.1 hP 0 rfl rfl 4 (by decide) (hW _ qw_1a9a6fdaf2) (fun _ h9 => h9) rfl dObjects_put_69 ?_
  refine lv_topi (fun v35 ev35 => ?_)
  refine lv_iload_n hx hb dObjects_put_72 rfl (lv_at hl 1 rfl) ?_
  refine st_iast hx hb hC.1 hP hD hZA hS 1 0 rfl rfl (by rw [ev35]; exact in_sz (by omega) (by omega)) dObjects_put_73 (fun H locs hP1 hD1 hS hz ho => ?_)
  have hfz := hfz.put hz ho (hD.2 1 _ rfl)
  have hP := hP1
  have hD := hD1
  obtain ⟨u36, eu36⟩ : ∃ z : Nat → Int32, z = upd f0_4 (v35).toNatClampNeg x1 := ⟨_, rfl⟩
  rw [← eu36] at hP hD
  have hP : va_P γ.1 vwCl [(γ.2.2.2 4, .inr (4, [.ref b0_4, .ref b1_4, .ref b2_4, .ref (γ.2.2.2 5), .int (nI (κ 5))])), (b0_4, .inl (γ.2.1, (wl (κ 14) (κ 5 + 1)), .inl u36)), (b1_4, .inl (γ.2.1, (wl (κ 14) (κ 5 + 1)), .inl f1_4)), (b2_4, .inl (γ.2.1, (wl (κ 14) (κ 5 + 1)), .inl f2_4))] _ := hP
  have hD : va_D Z_4 [(γ.2.2.2 4, .inr (4, [.ref b0_4, .ref b1_4, .ref b2_4, .ref (γ.2.2.2 5), .int (nI (κ 5))])), (b0_4, .inl (γ.2.1, (wl (κ 14) (κ 5 + 1)), .inl u36)), (b1_4, .inl (γ.2.1, (wl (κ 14) (κ 5 + 1)), .inl f1_4)), (b2_4, .inl (γ.2.1, (wl (κ 14) (κ 5 + 1)), .inl f2_4))] := hD
  refine lv_aload_n hx hb dObjects_put_74 rfl (lv_at hl 0 rfl) ?_
  refine va_get (D := γ.1) (ci := 4) (v := .ref b1_4) (C := R_Objects) (T := T_Objects) (N := 5) (Ts := bs_W0) hx hb hW in_Objects hown hC.1 hP 0 rfl rfl 1 (by decide) (hW _ qw_541217fbcc) (fun _ h9 => h9) rfl dObjects_put_75 ?_
  refine lv_aload_n hx hb dObjects_put_78 rfl (lv_at hl 0 rfl) ?_
  refine va_get (D := γ.1) (ci := 4) (v := .int (nI (κ 5))) (C := R_Objects) (T := T_Objects) (N := 5) (Ts := bs_W0) hx hb hW in_Objects hown hC.1 hP 0 rfl rfl 4 (by decide) (hW _ qw_1a9a6fdaf2) (fun _ h9 => h9) rfl dObjects_put_79 ?_
  refine lv_topi (fun v37 ev37 => ?_)
  refine lv_iload_n hx hb dObjects_put_82 rfl (lv_at hl 2 rfl) ?_
  refine st_iast hx hb hC.1 hP hD hZA hS 2 0 rfl rfl (by rw [ev37]; exact in_sz (by omega) (by omega)) dObjects_put_83 (fun H locs hP1 hD1 hS hz ho => ?_)
  have hfz := hfz.put hz ho (hD.2 2 _ rfl)
  have hP := hP1
  have hD := hD1
  obtain ⟨u38, eu38⟩ : ∃ z : Nat → Int32, z = upd f1_4 (v37).toNatClampNeg x2 := ⟨_, rfl⟩
  rw [← eu38] at hP hD
  have hP : va_P γ.1 vwCl [(γ.2.2.2 4, .inr (4, [.ref b0_4, .ref b1_4, .ref b2_4, .ref (γ.2.2.2 5), .int (nI (κ 5))])), (b0_4, .inl (γ.2.1, (wl (κ 14) (κ 5 + 1)), .inl u36)), (b1_4, .inl (γ.2.1, (wl (κ 14) (κ 5 + 1)), .inl u38)), (b2_4, .inl (γ.2.1, (wl (κ 14) (κ 5 + 1)), .inl f2_4))] _ := hP
  have hD : va_D Z_4 [(γ.2.2.2 4, .inr (4, [.ref b0_4, .ref b1_4, .ref b2_4, .ref (γ.2.2.2 5), .int (nI (κ 5))])), (b0_4, .inl (γ.2.1, (wl (κ 14) (κ 5 + 1)), .inl u36)), (b1_4, .inl (γ.2.1, (wl (κ 14) (κ 5 + 1)), .inl u38)), (b2_4, .inl (γ.2.1, (wl (κ 14) (κ 5 + 1)), .inl f2_4))] := hD
  refine lv_aload_n hx hb dObjects_put_84 rfl (lv_at hl 0 rfl) ?_
  refine va_get (D := γ.1) (ci := 4) (v := .ref b2_4) (C := R_Objects) (T := T_Objects) (N := 5) (Ts := bs_W0) hx hb hW in_Objects hown hC.1 hP 0 rfl rfl 2 (by decide) (hW _ qw_0ed5786ef0) (fun _ h9 => h9) rfl dObjects_put_85 ?_
  refine lv_aload_n hx hb dObjects_put_88 rfl (lv_at hl 0 rfl) ?_
  refine va_get (D := γ.1) (ci := 4) (v := .int (nI (κ 5))) (C := R_Objects) (T := T_Objects) (N := 5) (Ts := bs_W0) hx hb hW in_Objects hown hC.1 hP 0 rfl rfl 4 (by decide) (hW _ qw_1a9a6fdaf2) (fun _ h9 => h9) rfl dObjects_put_89 ?_
  refine lv_topi (fun v39 ev39 => ?_)
  refine lv_iconst (v := 0) hx hb dObjects_put_92 (by decide) ?_
  refine st_iast hx hb hC.1 hP hD hZA hS 3 0 rfl rfl (by rw [ev39]; exact in_sz (by omega) (by omega)) dObjects_put_93 (fun H locs hP1 hD1 hS hz ho => ?_)
  have hfz := hfz.put hz ho (hD.2 3 _ rfl)
  have hP := hP1
  have hD := hD1
  obtain ⟨u40, eu40⟩ : ∃ z : Nat → Int32, z = upd f2_4 (v39).toNatClampNeg 0 := ⟨_, rfl⟩
  rw [← eu40] at hP hD
  have hP : va_P γ.1 vwCl [(γ.2.2.2 4, .inr (4, [.ref b0_4, .ref b1_4, .ref b2_4, .ref (γ.2.2.2 5), .int (nI (κ 5))])), (b0_4, .inl (γ.2.1, (wl (κ 14) (κ 5 + 1)), .inl u36)), (b1_4, .inl (γ.2.1, (wl (κ 14) (κ 5 + 1)), .inl u38)), (b2_4, .inl (γ.2.1, (wl (κ 14) (κ 5 + 1)), .inl u40))] _ := hP
  have hD : va_D Z_4 [(γ.2.2.2 4, .inr (4, [.ref b0_4, .ref b1_4, .ref b2_4, .ref (γ.2.2.2 5), .int (nI (κ 5))])), (b0_4, .inl (γ.2.1, (wl (κ 14) (κ 5 + 1)), .inl u36)), (b1_4, .inl (γ.2.1, (wl (κ 14) (κ 5 + 1)), .inl u38)), (b2_4, .inl (γ.2.1, (wl (κ 14) (κ 5 + 1)), .inl u40))] := hD
  refine lv_aload_n hx hb dObjects_put_94 rfl (lv_at hl 0 rfl) ?_
  refine lv_dup hx hb dObjects_put_95 rfl ?_
  refine va_get (D := γ.1) (ci := 4) (v := .int (nI (κ 5))) (C := R_Objects) (T := T_Objects) (N := 5) (Ts := bs_W0) hx hb hW in_Objects hown hC.1 hP 0 rfl rfl 4 (by decide) (hW _ qw_1a9a6fdaf2) (fun _ h9 => h9) rfl dObjects_put_96 ?_
  refine lv_topi (fun v41 ev41 => ?_)
  refine lv_iconst (v := 1) hx hb dObjects_put_99 (by decide) ?_
  refine lv_iadd hx hb dObjects_put_100 ?_
  refine lv_topi (fun v42 ev42 => ?_)
  have ev42 : v42 = nI (κ 5 + 1) := by rw [ev42, ev41]; exact nI_add (κ 5) (1)
  obtain rfl : v42 = nI (κ 5 + 1) := ev42
  refine st_put (D := γ.1) (ci := 4) (v := .int (nI (κ 5 + 1))) (ty := .int) (C := R_Objects) (T := T_Objects) (N := 5) (Ts := bs_W0) hx hb hW in_Objects t_Objects t_Objects_ok n_Objects hown hC.1 hP hD hZA hS 0 rfl rfl 4 (by decide) (hW _ qw_1a9a6fdaf2) (fun _ h9 => h9) rfl (by decide +kernel) rfl rfl (Nat.le_of_ble_eq_true rfl) dObjects_put_101 (fun H locs hP1 hD1 hS hz ho => ?_)
  have hfz := hfz.put hz ho (hD.2 0 _ rfl)
  have hP := hP1
  have hD := hD1
  have hP : va_P γ.1 vwCl [(γ.2.2.2 4, .inr (4, [.ref b0_4, .ref b1_4, .ref b2_4, .ref (γ.2.2.2 5), .int (nI (κ 5 + 1))])), (b0_4, .inl (γ.2.1, (wl (κ 14) (κ 5 + 1)), .inl u36)), (b1_4, .inl (γ.2.1, (wl (κ 14) (κ 5 + 1)), .inl u38)), (b2_4, .inl (γ.2.1, (wl (κ 14) (κ 5 + 1)), .inl u40))] _ := hP
  have hD : va_D Z_4 [(γ.2.2.2 4, .inr (4, [.ref b0_4, .ref b1_4, .ref b2_4, .ref (γ.2.2.2 5), .int (nI (κ 5 + 1))])), (b0_4, .inl (γ.2.1, (wl (κ 14) (κ 5 + 1)), .inl u36)), (b1_4, .inl (γ.2.1, (wl (κ 14) (κ 5 + 1)), .inl u38)), (b2_4, .inl (γ.2.1, (wl (κ 14) (κ 5 + 1)), .inl u40))] := hD
  refine lv_aload_n hx hb dObjects_put_104 rfl (lv_at hl 0 rfl) ?_
  refine va_get (D := γ.1) (ci := 4) (v := .int (nI (κ 5 + 1))) (C := R_Objects) (T := T_Objects) (N := 5) (Ts := bs_W0) hx hb hW in_Objects hown hC.1 hP 0 rfl rfl 4 (by decide) (hW _ qw_1a9a6fdaf2) (fun _ h9 => h9) rfl dObjects_put_105 ?_
  refine lv_topi (fun v43 ev43 => ?_)
  refine lv_iconst (v := 1) hx hb dObjects_put_108 (by decide) ?_
  refine lv_isub hx hb dObjects_put_109 ?_
  refine lv_topi (fun v44 ev44 => ?_)
  have ev44 : v44 = nI (κ 5) := by rw [ev44, ev43]; exact nI_pred (κ 5)
  have hI : INV γ A (ku (ku (ku (ku κ 14 (wl (κ 14) (κ 5 + 1))) 8 (wl (κ 8) (κ 5 + 1))) 5 (κ 5 + 1)) 14 ((wl (κ 14) (κ 5 + 1)))) _ := hback (ku (ku (ku (ku κ 14 (wl (κ 14) (κ 5 + 1))) 8 (wl (κ 8) (κ 5 + 1))) 5 (κ 5 + 1)) 14 ((wl (κ 14) (κ 5 + 1)))) _ (fun j h1 h2 h3 => by rcases (show j = 1 ∨ j = 2 ∨ j = 3 ∨ j = 4 ∨ j = 5 ∨ j = 6 ∨ j = 7 ∨ j = 8 ∨ j = 9 ∨ j = 10 by omega) with h | h | h | h | h | h | h | h | h | h <;> subst h <;> first | rfl | exact absurd rfl h1) ⟨_, ⟨b0_4, b1_4, b2_4, u36, u38, u40, rfl, (show (κ 5 + 1) ≤ (wl (κ 14) (κ 5 + 1)) by omega), (show (wl (κ 14) (κ 5 + 1)) ≤ 8192 by omega), (show 16 ≤ (wl (κ 14) (κ 5 + 1)) by omega)⟩, hP, hD⟩ hfz.1 hfz.2
  have hQ := hE _ _ v44 110 ls hS ⟨ev44, hI⟩ dObjects_put_110
  refine W.cs (cells' := 0 + wc (κ 14) (κ 5 + 1) + wc (κ 14) (κ 5 + 1) + wc (κ 14) (κ 5 + 1) + wc (κ 8) (κ 5 + 1)) (slots' := 0 + wm (κ 14) (κ 5 + 1) + wm (κ 14) (κ 5 + 1) + wm (κ 14) (κ 5 + 1) + 4 * wm (κ 8) (κ 5 + 1)) (by omega) (by omega) ?_
  exact hQ
