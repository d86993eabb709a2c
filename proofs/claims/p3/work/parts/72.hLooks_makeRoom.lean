theorem qn_2c49eba5a7 : (Cond.methodLinkNest R_Looks 36 yTypeBook_withRoom "TypeBook") ∈ lw_tbl := in_tables_1_2 (List.mem_of_getElem? (i := 203) rfl)
theorem qw_7de9d707b8 : (Cond.methodLink R_Looks 40 yRows_makeRoom) ∈ bs_W0 := bs_in (in_tables_1_2 (List.mem_of_getElem? (i := 204) rfl)) rfl
set_option maxHeartbeats 4000000 in
set_option maxRecDepth 100000 in
theorem k6_Looks_makeRoom (l : Launch) (γ : gE) (A : Nat → Prop) (κ : Nat → Nat) (N : Nat) (hN : N ≤ 4096) : MU l yLooks_makeRoom bLooks_makeRoom 2 (none) 3 103 (0 + wc (κ 6) (N) + wc (κ 6) (N) + wc (κ 6) (N) + wc (κ 6) (N) + wc (κ 6) (N) + wc (κ 9) N) (0 + wm (κ 6) (N) + wm (κ 6) (N) + wm (κ 6) (N) + wm (κ 6) (N) + wm (κ 6) (N) + 4 * wm (κ 9) N) [.ref (γ.2.2.2 6), .int (nI N)] γ A (INV γ A κ) (mQv (fun H => INV γ A (ku (ku κ 6 (wl (κ 6) (N))) 9 (wl (κ 9) N)) H) A) := by
  refine mu_openV (by decide) (Nat.le_of_ble_eq_true rfl) ?_
  intro p e s m args below meth c ls Q S hnm hC hA hI hE hl
  obtain ⟨hx, hb, hml, hown, hW⟩ := id S
  have hS : va_S A s.heap s.heap [] := va_S.rf
  have hl : lv_has ls 2 [(0, .ref (γ.2.2.2 6)), (1, .int (nI N))] := hl
  have hb9 : κ 6 ≤ 8192 ∧ 64 ≤ κ 6 := (by obtain ⟨_, w9, ⟨_, _, _, _, _, _, _, _, _, _, _, h1, h2⟩, _, _⟩ := inv_c hI 7 (by decide) (by decide); exact ⟨h1, h2⟩)
  have hwl := wl_ok (n := κ 6) (N := N) (by omega) (by omega)
  refine lv_aload_n hx hb dLooks_makeRoom_0 rfl (lv_at hl 0 rfl) ?_
  refine lv_aload_n hx hb dLooks_makeRoom_1 rfl (lv_at hl 0 rfl) ?_
  obtain ⟨Z_2, ⟨ws_2, ⟨b0_2, b1_2, b2_2, b3_2, b4_2, f0_2, f1_2, f2_2, f3_2, f4_2, rfl, h1_2, h2_2⟩, hP, hD⟩, hZn, hZA, hback⟩ := inv_lift hI (fun q h => hA q (Nat.le_trans hS.1 h)) 7 (by decide) (by decide)
  have hP : va_P γ.1 vwCl [(γ.2.2.2 6, .inr (6, [.ref b0_2, .ref b1_2, .ref b2_2, .ref b3_2, .ref b4_2, .ref (γ.2.2.2 7)])), (b0_2, .inl (γ.2.1, (κ 6), .inl f0_2)), (b1_2, .inl (γ.2.1, (κ 6), .inl f1_2)), (b2_2, .inl (γ.2.1, (κ 6), .inl f2_2)), (b3_2, .inl (γ.2.1, (κ 6), .inl f3_2)), (b4_2, .inl (γ.2.1, (κ 6), .inl f4_2))] _ := hP
  have hD : va_D Z_2 [(γ.2.2.2 6, .inr (6, [.ref b0_2, .ref b1_2, .ref b2_2, .ref b3_2, .ref b4_2, .ref (γ.2.2.2 7)])), (b0_2, .inl (γ.2.1, (κ 6), .inl f0_2)), (b1_2, .inl (γ.2.1, (κ 6), .inl f1_2)), (b2_2, .inl (γ.2.1, (κ 6), .inl f2_2)), (b3_2, .inl (γ.2.1, (κ 6), .inl f3_2)), (b4_2, .inl (γ.2.1, (κ 6), .inl f4_2))] := hD
  have hfz := fz.rf Z_2 (H := _) hP
  refine va_get (D := γ.1) (ci := 6) (v := .ref b0_2) (C := R_Looks) (T := T_Looks) (N := 6) (Ts := bs_W0) hx hb hW in_Looks hown hC.1 hP 0 rfl rfl 0 (by decide) (hW _ qw_ac7df03aa7) (fun _ h9 => h9) rfl dLooks_makeRoom_2 ?_
  refine lv_iload_n hx hb dLooks_makeRoom_5 rfl (lv_at hl 1 rfl) ?_
  refine mu_Tr (rest := [.ref (γ.2.2.2 6)]) S hC (fun q h => hZn q (Nat.le_trans hfz.1 h)) hZA hS (c_withRoom l γ Z_2 b0_2 (κ 6) (N) f0_2 _ (by omega) (by omega)) meTypeBook_withRoom (hC.2 _ qn_2c49eba5a7 rfl) ⟨Nat.le_of_ble_eq_true rfl, Nat.le_of_ble_eq_true rfl⟩ ⟨rfl, hD.2 1 _ rfl, hP 1 _ rfl⟩ rfl hl.1 rfl (Nat.le_of_ble_eq_true rfl) dLooks_makeRoom_6 ⟨(by show _ ≤ 0 + wc (κ 6) (N) + wc (κ 6) (N) + wc (κ 6) (N) + wc (κ 6) (N) + wc (κ 6) (N) + wc (κ 9) N; omega), (by show _ ≤ 0 + wm (κ 6) (N) + wm (κ 6) (N) + wm (κ 6) (N) + wm (κ 6) (N) + wm (κ 6) (N) + 4 * wm (κ 9) N; omega)⟩ (fun r7 Hr7 locs hPO hS _ _ => ?_)
  obtain ⟨g1r7, g2r7, g3r7, g4r7, fr7, g5r7, g6r7⟩ := hPO
  have hfz := hfz.step g3r7 (fun q h _ => g4r7 q h)
  obtain ⟨hP, hD⟩ := wr_join (i := 1) hP hD rfl g4r7 g5r7 g1r7 g2r7
  have hP : va_P γ.1 vwCl [(γ.2.2.2 6, .inr (6, [.ref b0_2, .ref b1_2, .ref b2_2, .ref b3_2, .ref b4_2, .ref (γ.2.2.2 7)])), (r7, .inl (γ.2.1, wl (κ 6) (N), .inl fr7)), (b1_2, .inl (γ.2.1, (κ 6), .inl f1_2)), (b2_2, .inl (γ.2.1, (κ 6), .inl f2_2)), (b3_2, .inl (γ.2.1, (κ 6), .inl f3_2)), (b4_2, .inl (γ.2.1, (κ 6), .inl f4_2))] _ := hP
  have hD : va_D Z_2 [(γ.2.2.2 6, .inr (6, [.ref b0_2, .ref b1_2, .ref b2_2, .ref b3_2, .ref b4_2, .ref (γ.2.2.2 7)])), (r7, .inl (γ.2.1, wl (κ 6) (N), .inl fr7)), (b1_2, .inl (γ.2.1, (κ 6), .inl f1_2)), (b2_2, .inl (γ.2.1, (κ 6), .inl f2_2)), (b3_2, .inl (γ.2.1, (κ 6), .inl f3_2)), (b4_2, .inl (γ.2.1, (κ 6), .inl f4_2))] := hD
  refine st_put (D := γ.1) (ci := 6) (v := .ref r7) (ty := .array .int) (C := R_Looks) (T := T_Looks) (N := 6) (Ts := bs_W0) hx hb hW in_Looks t_Looks t_Looks_ok n_Looks hown hC.1 hP hD hZA hS 0 rfl rfl 0 (by decide) (hW _ qw_ac7df03aa7) (fun _ h9 => h9) rfl (by decide +kernel) rfl rfl (Nat.le_of_ble_eq_true rfl) dLooks_makeRoom_9 (fun H locs hP1 hD1 hS hz ho => ?_)
  have hfz := hfz.put hz ho (hD.2 0 _ rfl)
  have hP := hP1
  have hD := hD1
  have hP : va_P γ.1 vwCl [(γ.2.2.2 6, .inr (6, [.ref r7, .ref b1_2, .ref b2_2, .ref b3_2, .ref b4_2, .ref (γ.2.2.2 7)])), (r7, .inl (γ.2.1, wl (κ 6) (N), .inl fr7)), (b1_2, .inl (γ.2.1, (κ 6), .inl f1_2)), (b2_2, .inl (γ.2.1, (κ 6), .inl f2_2)), (b3_2, .inl (γ.2.1, (κ 6), .inl f3_2)), (b4_2, .inl (γ.2.1, (κ 6), .inl f4_2))] _ := hP
  have hD : va_D Z_2 [(γ.2.2.2 6, .inr (6, [.ref r7, .ref b1_2, .ref b2_2, .ref b3_2, .ref b4_2, .ref (γ.2.2.2 7)])), (r7, .inl (γ.2.1, wl (κ 6) (N), .inl fr7)), (b1_2, .inl (γ.2.1, (κ 6), .inl f1_2)), (b2_2, .inl (γ.2.1, (κ 6), .inl f2_2)), (b3_2, .inl (γ.2.1, (κ 6), .inl f3_2)), (b4_2, .inl (γ.2.1, (κ 6), .inl f4_2))] := hD
  refine lv_aload_n hx hb dLooks_makeRoom_12 rfl (lv_at hl 0 rfl) ?_
  refine lv_aload_n hx hb dLooks_makeRoom_13 rfl (lv_at hl 0 rfl) ?_
  refine va_get (D := γ.1) (ci := 6) (v := .ref b1_2) (C := R_Looks) (T := T_Looks) (N := 6) (Ts := bs_W0) hx hb hW in_Looks hown hC.1 hP 0 rfl rfl 1 (by decide) (hW _ qw_7dd30c70bd) (fun _ h9 => h9) rfl dLooks_makeRoom_14 ?_
  refine lv_iload_n hx hb dLooks_makeRoom_17 rfl (lv_at hl 1 rfl) ?_
  refine mu_Tr (rest := [.ref (γ.2.2.2 6)]) S hC (fun q h => hZn q (Nat.le_trans hfz.1 h)) hZA hS (c_withRoom l γ Z_2 b1_2 (κ 6) (N) f1_2 _ (by omega) (by omega)) meTypeBook_withRoom (hC.2 _ qn_2c49eba5a7 rfl) ⟨Nat.le_of_ble_eq_true rfl, Nat.le_of_ble_eq_true rfl⟩ ⟨rfl, hD.2 2 _ rfl, hP 2 _ rfl⟩ rfl hl.1 rfl (Nat.le_of_ble_eq_true rfl) dLooks_makeRoom_18 ⟨(by show _ ≤ 0 + wc (κ 6) (N) + wc (κ 6) (N) + wc (κ 6) (N) + wc (κ 6) (N) + wc (κ 6) (N) + wc (κ 9) N; omega), (by show _ ≤ 0 + wm (κ 6) (N) + wm (κ 6) (N) + wm (κ 6) (N) + wm (κ 6) (N) + wm (κ 6) (N) + 4 * wm (κ 9) N; omega)⟩ (fun r8 Hr8 locs hPO hS _ _ => ?_)
  obtain ⟨g1r8, g2r8, g3r8, g4r8, fr8, g5r8, g6r8⟩ := hPO
  have hfz := hfz.step g3r8 (fun q h _ => g4r8 q h)
  obtain ⟨hP, hD⟩ := wr_join (i := 2) hP hD rfl g4r8 g5r8 g1r8 g2r8
  have hP : va_P γ.1 vwCl [(γ.2.2.2 6, .inr (6, [.ref r7, .ref b1_2, .ref b2_2, .ref b3_2, .ref b4_2, .ref (γ.2.2.2 7)])), (r7, .inl (γ.2.1, wl (κ 6) (N), .inl fr7)), (r8, .inl (γ.2.1, wl (κ 6) (N), .inl fr8)), (b2_2, .inl (γ.2.1, (κ 6), .inl f2_2)), (b3_2, .inl (γ.2.1, (κ 6), .inl f3_2)), (b4_2, .inl (γ.2.1, (κ 6), .inl f4_2))] _ := hP
  have hD : va_D Z_2 [(γ.2.2.2 6, .inr (6, [.ref r7, .ref b1_2, .ref b2_2, .ref b3_2, .ref b4_2, .ref (γ.2.2.2 7)])), (r7, .inl (γ.2.1, wl (κ 6) (N), .inl fr7)), (r8, .inl (γ.2.1, wl (κ 6) (N), .inl fr8)), (b2_2, .inl (γ.2.1, (κ 6), .inl f2_2)), (b3_2, .inl (γ.2.1, (κ 6), .inl f3_2)), (b4_2, .inl (γ.2.1, (κ 6), .inl f4_2))] := hD
  refine st_put (D := γ.1) (ci := 6) (v := .ref r8) (ty := .array .int) (C := R_Looks) (T := T_Looks) (N := 6) (Ts := bs_W0) hx hb hW in_Looks t_Looks t_Looks_ok n_Looks hown hC.1 hP hD hZA hS 0 rfl rfl 1 (by decide) (hW _ qw_7dd30c70bd) (fun _ h9 => h9) rfl (by decide +kernel) rfl rfl (Nat.le_of_ble_eq_true rfl) dLooks_makeRoom_21 (fun H locs hP1 hD1 hS hz ho => ?_)
  have hfz := hfz.put hz ho (hD.2 0 _ rfl)
  have hP := hP1
  have hD := hD1
  have hP : va_P γ.1 vwCl [(γ.2.2.2 6, .inr (6, [.ref r7, .ref r8, .ref b2_2, .ref b3_2, .ref b4_2, .ref (γ.2.2.2 7)])), (r7, .inl (γ.2.1, wl (κ 6) (N), .inl fr7)), (r8, .inl (γ.2.1, wl (κ 6) (N), .inl fr8)), (b2_2, .inl (γ.2.1, (κ 6), .inl f2_2)), (b3_2, .inl (γ.2.1, (κ 6), .inl f3_2)), (b4_2, .inl (γ.2.1, (κ 6), .inl f4_2))] _ := hP
  have hD : va_D Z_2 [(γ.2.2.2 6, .inr (6, [.ref r7, .ref r8, .ref b2_2, .ref b3_2, .ref b4_2, .ref (γ.2.2.2 7)])), (r7, .inl (γ.2.1, wl (κ 6) (N), .inl fr7)), (r8, .inl (γ.2.1, wl (κ 6) (N), .inl fr8)), (b2_2, .inl (γ.2.1, (κ 6), .inl f2_2)), (b3_2, .inl (γ.2.1, (κ 6), .inl f3_2)), (b4_2, .inl (γ.2.1, (κ 6), .inl f4_2))] := hD
  refine lv_aload_n hx hb dLooks_makeRoom_24 rfl (lv_at hl 0 rfl) ?_
  refine lv_aload_n hx hb dLooks_makeRoom_25 rfl (lv_at hl 0 rfl) ?_
  refine va_get (D := γ.1) (ci := 6) (v := .ref b2_2) (C := R_Looks) (T := T_Looks) (N := 6) (Ts := bs_W0) hx hb hW in_Looks hown hC.1 hP 0 rfl rfl 2 (by decide) (hW _ qw_427e012605) (fun _ h9 => h9) rfl dLooks_makeRoom_26 ?_
  refine lv_iload_n hx hb dLooks_makeRoom_29 rfl (lv_at hl 1 rfl) ?_
  refine mu_Tr (rest := [.ref (γ.2.2.2 6)]) S hC (fun q h => hZn q (Nat.le_trans hfz.1 h)) hZA hS (c_withRoom l γ Z_2 b2_2 (κ 6) (N) f2_2 _ (by omega) (by omega)) meTypeBook_withRoom (hC.2 _ qn_2c49eba5a7 rfl) ⟨Nat.le_of_ble_eq_true rfl, Nat.le_of_ble_eq_true rfl⟩ ⟨rfl, hD.2 3 _ rfl, hP 3 _ rfl⟩ rfl hl.1 rfl (Nat.le_of_ble_eq_true rfl) dLooks_makeRoom_30 ⟨(by show _ ≤ 0 + wc (κ 6) (N) + wc (κ 6) (N) + wc (κ 6) (N) + wc (κ 6) (N) + wc (κ 6) (N) + wc (κ 9) N; omega), (by show _ ≤ 0 + wm (κ 6) (N) + wm (κ 6) (N) + wm (κ 6) (N) + wm (κ 6) (N) + wm (κ 6) (N) + 4 * wm (κ 9) N; omega)⟩ (fun r9 Hr9 locs hPO hS _ _ => ?_)
  obtain ⟨g1r9, g2r9, g3r9, g4r9, fr9, g5r9, g6r9⟩ := hPO
  have hfz := hfz.step g3r9 (fun q h _ => g4r9 q h)
  obtain ⟨hP, hD⟩ := wr_join (i := 3) hP hD rfl g4r9 g5r9 g1r9 g2r9
  have hP : va_P γ.1 vwCl [(γ.2.2.2 6, .inr (6, [.ref r7, .ref r8, .ref b2_2, .ref b3_2, .ref b4_2, .ref (γ.2.2.2 7)])), (r7, .inl (γ.2.1, wl (κ 6) (N), .inl fr7)), (r8, .inl (γ.2.1, wl (κ 6) (N), .inl fr8)), (r9, .inl (γ.2.1, wl (κ 6) (N), .inl fr9)), (b3_2, .inl (γ.2.1, (κ 6), .inl f3_2)), (b4_2, .inl (γ.2.1, (κ 6), .inl f4_2))] _ := hP
  have hD : va_D Z_2 [(γ.2.2.2 6, .inr (6, [.ref r7, .ref r8, .ref b2_2, .ref b3_2, .ref b4_2, .ref (γ.2.2.2 7)])), (r7, .inl (γ.2.1, wl (κ 6) (N), .inl fr7)), (r8, .inl (γ.2.1, wl (κ 6) (N), .inl fr8)), (r9, .inl (γ.2.1, wl (κ 6) (N), .inl fr9)), (b3_2, .inl (γ.2.1, (κ 6), .inl f3_2)), (b4_2, .inl (γ.2.1, (κ 6), .inl f4_2))] := hD
  refine st_put (D := γ.1) (ci := 6) (v := .ref r9) (ty := .array .int) (C := R_Looks) (T := T_Looks) (N := 6) (Ts := bs_W0) hx hb hW in_Looks t_Looks t_Looks_ok n_Looks hown hC.1 hP hD hZA hS 0 rfl rfl 2 (by decide) (hW _ qw_427e012605) (fun _ h9 => h9) rfl (by decide +kernel) rfl rfl (Nat.le_of_ble_eq_true rfl) dLooks_makeRoom_33 (fun H locs hP1 hD1 hS hz ho => ?_)
  have hfz := hfz.put hz ho (hD.2 0 _ rfl)
  have hP := hP1
  have hD := hD1
  have hP : va_P γ.1 vwCl [(γ.2.2.2 6, .inr (6, [.ref r7, .ref r8, .ref r9, .ref b3_2, .ref b4_2, .ref (γ.2.2.2 7)])), (r7, .inl (γ.2.1, wl (κ 6) (N), .inl fr7)), (r8, .inl (γ.2.1, wl (κ 6) (N), .inl fr8)), (r9, .inl (γ.2.1, wl (κ 6) (N), .inl fr9)), (b3_2, .inl (γ.2.1, (κ 6), .inl f3_2)), (b4_2, .inl (γ.2.1, (κ 6), .inl f4_2))] _ := hP
  have hD : va_D Z_2 [(γ.2.2.2 6, .inr (6, [.ref r7, .ref r8, .ref r9, .ref b3_2, .ref b4_2, .ref (γ.2.2.2 7)])), (r7, .inl (γ.2.1, wl (κ 6) (N), .inl fr7)), (r8, .inl (γ.2.1, wl (κ 6) (N), .inl fr8)), (r9, .inl (γ.2.1, wl (κ 6) (N), .inl fr9)), (b3_2, .inl (γ.2.1, (κ 6), .inl f3_2)), (b4_2, .inl (γ.2.1, (κ 6), .inl f4_2))] := hD
  refine lv_aload_n hx hb dLooks_makeRoom_36 rfl (lv_at hl 0 rfl) ?_
  refine lv_aload_n hx hb dLooks_makeRoom_37 rfl (lv_at hl 0 rfl) ?_
  refine va_get (D := γ.1) (ci := 6) (v := .ref b3_2) (C := R_Looks) (T := T_Looks) (N := 6) (Ts := bs_W0) hx hb hW in_Looks hown hC.1 hP 0 rfl rfl 3 (by decide) (hW _ qw_5344cf30a3) (fun _ h9 => h9) rfl dLooks_makeRoom_38 ?_
  refine lv_iload_n hx hb dLooks_makeRoom_41 rfl (lv_at hl 1 rfl) ?_
  refine mu_Tr (rest := [.ref (γ.2.2.2 6)]) S hC (fun q h => hZn q (Nat.le_trans hfz.1 h)) hZA hS (c_withRoom l γ Z_2 b3_2 (κ 6) (N) f3_2 _ (by omega) (by omega)) meTypeBook_withRoom (hC.2 _ qn_2c49eba5a7 rfl) ⟨Nat.le_of_ble_eq_true rfl, Nat.le_of_ble_eq_true rfl⟩ ⟨rfl, hD.2 4 _ rfl, hP 4 _ rfl⟩ rfl hl.1 rfl (Nat.le_of_ble_eq_true rfl) dLooks_makeRoom_42 ⟨(by show _ ≤ 0 + wc (κ 6) (N) + wc (κ 6) (N) + wc (κ 6) (N) + wc (κ 6) (N) + wc (κ 6) (N) + wc (κ 9) N; omega), (by show _ ≤ 0 + wm (κ 6) (N) + wm (κ 6) (N) + wm (κ 6) (N) + wm (κ 6) (N) + wm (κ 6) (N) + 4 * wm (κ 9) N; omega)⟩ (fun r10 Hr10 locs hPO hS _ _ => ?_)
  obtain ⟨g1r10, g2r10, g3r10, g4r10, fr10, g5r10, g6r10⟩ := hPO
  have hfz := hfz.step g3r10 (fun q h _ => g4r10 q h)
  obtain ⟨hP, hD⟩ := wr_join (i := 4) hP hD rfl g4r10 g5r10 g1r10 g2r10
  have hP : va_P γ.1 vwCl [(γ.2.2.2 6, .inr (6, [.ref r7, .ref r8, .ref r9, .ref b3_2, .ref b4_2, .ref (γ.2.2.2 7)])), (r7, .inl (γ.2.1, wl (κ 6) (N), .inl fr7)), (r8, .inl (γ.2.1, wl (κ 6) (N), .inl fr8)), (r9, .inl (γ.2.1, wl (κ 6) (N), .inl fr9)), (r10, .inl (γ.2.1, wl (κ 6) (N), .inl fr10)), (b4_2, .inl (γ.2.1, (κ 6), .inl f4_2))] _ := hP
  have hD : va_D Z_2 [(γ.2.2.2 6, .inr (6, [.ref r7, .ref r8, .ref r9, .ref b3_2, .ref b4_2, .ref (γ.2.2.2 7)])), (r7, .inl (γ.2.1, wl (κ 6) (N), .inl fr7)), (r8, .inl (γ.2.1, wl (κ 6) (N), .inl fr8)), (r9, .inl (γ.2.1, wl (κ 6) (N), .inl fr9)), (r10, .inl (γ.2.1, wl (κ 6) (N), .inl fr10)), (b4_2, .inl (γ.2.1, (κ 6), .inl f4_2))] := hD
  refine st_put (D := γ.1) (ci := 6) (v := .ref r10) (ty := .array .int) (C := R_Looks) (T := T_Looks) (N := 6) (Ts := bs_W0) hx hb hW in_Looks t_Looks t_Looks_ok n_Looks hown hC.1 hP hD hZA hS 0 rfl rfl 3 (by decide) (hW _ qw_5344cf30a3) (fun _ h9 => h9) rfl (by decide +kernel) rfl rfl (Nat.le_of_ble_eq_true rfl) dLooks_makeRoom_45 (fun H locs hP1 hD1 hS hz ho => ?_)
  have hfz := hfz.put hz ho (hD.2 0 _ rfl)
  have hP := hP1
  have hD := hD1
  have hP : va_P γ.1 vwCl [(γ.2.2.2 6, .inr (6, [.ref r7, .ref r8, .ref r9, .ref r10, .ref b4_2, .ref (γ.2.2.2 7)])), (r7, .inl (γ.2.1, wl (κ 6) (N), .inl fr7)), (r8, .inl (γ.2.1, wl (κ 6) (N), .inl fr8)), (r9, .inl (γ.2.1, wl (κ 6) (N), .inl fr9)), (r10, .inl (γ.2.1, wl (κ 6) (N), .inl fr10)), (b4_2, .inl (γ.2.1, (κ 6), .inl f4_2))] _ := hP
  have hD : va_D Z_2 [(γ.2.2.2 6, .inr (6, [.ref r7, .ref r8, .ref r9, .ref r10, .ref b4_2, .ref (γ.2.2.2 7)])), (r7, .inl (γ.2.1, wl (κ 6) (N), .inl fr7)), (r8, .inl (γ.2.1, wl (κ 6) (N), .inl fr8)), (r9, .inl (γ.2.1, wl (κ 6) (N), .inl fr9)), (r10, .inl (γ.2.1, wl (κ 6) (N), .inl fr10)), (b4_2, .inl (γ.2.1, (κ 6), .inl f4_2))] := hD
  refine lv_aload_n hx hb dLooks_makeRoom_48 rfl (lv_at hl 0 rfl) ?_
  refine lv_aload_n hx hb dLooks_makeRoom_49 rfl (lv_at hl 0 rfl) ?_
  refine va_get (D := γ.1) (ci := 6) (v := .ref b4_2) (C := R_Looks) (T := T_Looks) (N := 6) (Ts := bs_W0) hx hb hW in_Looks hown hC.1 hP 0 rfl rfl 4 (by decide) (hW _ qw_d08a1abfac) (fun _ h9 => h9) rfl dLooks_makeRoom_50 ?_
  refine lv_iload_n hx hb dLooks_makeRoom_53 rfl (lv_at hl 1 rfl) ?_
  refine mu_Tr (rest := [.ref (γ.2.2.2 6)]) S hC (fun q h => hZn q (Nat.le_trans hfz.1 h)) hZA hS (c_withRoom l γ Z_2 b4_2 (κ 6) (N) f4_2 _ (by omega) (by omega)) meTypeBook_withRoom (hC.2 _ qn_2c49eba5a7 rfl) ⟨Nat.le_of_ble_eq_true rfl, Nat.le_of_ble_eq_true rfl⟩ ⟨rfl, hD.2 5 _ rfl, hP 5 _ rfl⟩ rfl hl.1 rfl (Nat.le_of_ble_eq_true rfl) dLooks_makeRoom_54 ⟨(by show _ ≤ 0 + wc (κ 6) (N) + wc (κ 6) (N) + wc (κ 6) (N) + wc (κ 6) (N) + wc (κ 6) (N) + wc (κ 9) N; omega), (by show _ ≤ 0 + wm (κ 6) (N) + wm (κ 6) (N) + wm (κ 6) (N) + wm (κ 6) (N) + wm (κ 6) (N) + 4 * wm (κ 9) N; omega)⟩ (fun r11 Hr11 locs hPO hS _ _ => ?_)
  obtain ⟨g1r11, g2r11, g3r11, g4r11, fr11, g5r11, g6r11⟩ := hPO
  have hfz := hfz.step g3r11 (fun q h _ => g4r11 q h)
  obtain ⟨hP, hD⟩ := wr_join (i := 5) hP hD rfl g4r11 g5r11 g1r11 g2r11
  have hP : va_P γ.1 vwCl [(γ.2.2.2 6, .inr (6, [.ref r7, .ref r8, .ref r9, .ref r10, .ref b4_2, .ref (γ.2.2.2 7)])), (r7, .inl (γ.2.1, wl (κ 6) (N), .inl fr7)), (r8, .inl (γ.2.1, wl (κ 6) (N), .inl fr8)), (r9, .inl (γ.2.1, wl (κ 6) (N), .inl fr9)), (r10, .inl (γ.2.1, wl (κ 6) (N), .inl fr10)), (r11, .inl (γ.2.1, wl (κ 6) (N), .inl fr11))] _ := hP
  have hD : va_D Z_2 [(γ.2.2.2 6, .inr (6, [.ref r7, .ref r8, .ref r9, .ref r10, .ref b4_2, .ref (γ.2.2.2 7)])), (r7, .inl (γ.2.1, wl (κ 6) (N), .inl fr7)), (r8, .inl (γ.2.1, wl (κ 6) (N), .inl fr8)), (r9, .inl (γ.2.1, wl (κ 6) (N), .inl fr9)), (r10, .inl (γ.2.1, wl (κ 6) (N), .inl fr10)), (r11, .inl (γ.2.1, wl (κ 6) (N), .inl fr11))] := hD
  refine st_put (D := γ.1) (ci := 6) (v := .ref r11) (ty := .array .int) (C := R_Looks) (T := T_Looks) (N := 6) (Ts := bs_W0) hx hb hW in_Looks t_Looks t_Looks_ok n_Looks hown hC.1 hP hD hZA hS 0 rfl rfl 4 (by decide) (hW _ qw_d08a1abfac) (fun _ h9 => h9) rfl (by decide +kernel) rfl rfl (Nat.le_of_ble_eq_true rfl) dLooks_makeRoom_57 (fun H locs hP1 hD1 hS hz ho => ?_)
  have hfz := hfz.put hz ho (hD.2 0 _ rfl)
  have hP := hP1
  have hD := hD1
  have hP : va_P γ.1 vwCl [(γ.2.2.2 6, .inr (6, [.ref r7, .ref r8, .ref r9, .ref r10, .ref r11, .ref (γ.2.2.2 7)])), (r7, .inl (γ.2.1, wl (κ 6) (N), .inl fr7)), (r8, .inl (γ.2.1, wl (κ 6) (N), .inl fr8)), (r9, .inl (γ.2.1, wl (κ 6) (N), .inl fr9)), (r10, .inl (γ.2.1, wl (κ 6) (N), .inl fr10)), (r11, .inl (γ.2.1, wl (κ 6) (N), .inl fr11))] _ := hP
  have hD : va_D Z_2 [(γ.2.2.2 6, .inr (6, [.ref r7, .ref r8, .ref r9, .ref r10, .ref r11, .ref (γ.2.2.2 7)])), (r7, .inl (γ.2.1, wl (κ 6) (N), .inl fr7)), (r8, .inl (γ.2.1, wl (κ 6) (N), .inl fr8)), (r9, .inl (γ.2.1, wl (κ 6) (N), .inl fr9)), (r10, .inl (γ.2.1, wl (κ 6) (N), .inl fr10)), (r11, .inl (γ.2.1, wl (κ 6) (N), .inl fr11))] := hD
  refine lv_aload_n hx hb dLooks_makeRoom_60 rfl (lv_at hl 0 rfl) ?_
  refine va_get (D := γ.1) (ci := 6) (v := .ref (γ.2.2.2 7)) (C := R_Looks) (T := T_Looks) (N := 6) (Ts := bs_W0) hx hb hW in_Looks hown hC.1 hP 0 rfl rfl 5 (by decide) (hW _ qw_50f3c1330a) (fun _ h9 => h9) rfl dLooks_makeRoom_61 ?_
  refine lv_iload_n hx hb dLooks_makeRoom_64 rfl (lv_at hl 1 rfl) ?_
  have hI : INV γ A (ku κ 6 (wl (κ 6) (N))) _ := hback (ku κ 6 (wl (κ 6) (N))) _ (fun j h1 h2 h3 => by rcases (show j = 1 ∨ j = 2 ∨ j = 3 ∨ j = 4 ∨ j = 5 ∨ j = 6 ∨ j = 7 ∨ j = 8 ∨ j = 9 ∨ j = 10 by omega) with h | h | h | h | h | h | h | h | h | h <;> subst h <;> first | rfl | exact absurd rfl h1) ⟨_, ⟨r7, r8, r9, r10, r11, fr7, fr8, fr9, fr10, fr11, rfl, (show (wl (κ 6) (N)) ≤ 8192 by omega), (show 64 ≤ (wl (κ 6) (N)) by omega)⟩, hP, hD⟩ hfz.1 hfz.2
  refine mu_Vv (rest := []) S hC (fun q h => hA q (Nat.le_trans hS.1 h)) (fun q h => h) hS (k7_Rows_makeRoom l γ A (ku κ 6 (wl (κ 6) (N))) N (by omega)) meRows_makeRoom qw_7de9d707b8 ⟨Nat.le_of_ble_eq_true rfl, Nat.le_of_ble_eq_true rfl⟩ (rv_7 hC hI) hI rfl hl.1 rfl (Nat.le_of_ble_eq_true rfl) dLooks_makeRoom_65 ⟨(by show 0 + wc (κ 6) (N) + wc (κ 6) (N) + wc (κ 6) (N) + wc (κ 6) (N) + wc (κ 6) (N) + (wc (κ 9) N) ≤ 0 + wc (κ 6) (N) + wc (κ 6) (N) + wc (κ 6) (N) + wc (κ 6) (N) + wc (κ 6) (N) + wc (κ 9) N; omega), (by show 0 + wm (κ 6) (N) + wm (κ 6) (N) + wm (κ 6) (N) + wm (κ 6) (N) + wm (κ 6) (N) + (4 * wm (κ 9) N) ≤ 0 + wm (κ 6) (N) + wm (κ 6) (N) + wm (κ 6) (N) + wm (κ 6) (N) + wm (κ 6) (N) + 4 * wm (κ 9) N; omega)⟩ (fun H locs hI hS _ _ => ?_)
  refine W.cs (cells' := 0 + wc (κ 6) (N) + wc (κ 6) (N) + wc (κ 6) (N) + wc (κ 6) (N) + wc (κ 6) (N) + (wc (κ 9) N)) (slots' := 0 + wm (κ 6) (N) + wm (κ 6) (N) + wm (κ 6) (N) + wm (κ 6) (N) + wm (κ 6) (N) + (4 * wm (κ 9) N)) rfl rfl ?_
  have hI : INV γ A (ku (ku κ 6 (wl (κ 6) (N))) 9 (wl (κ 9) N)) _ := hI
  have hQ := hE _ _ 68 ls hS hI dLooks_makeRoom_68
  refine W.cs (cells' := 0 + wc (κ 6) (N) + wc (κ 6) (N) + wc (κ 6) (N) + wc (κ 6) (N) + wc (κ 6) (N) + wc (κ 9) N) (slots' := 0 + wm (κ 6) (N) + wm (κ 6) (N) + wm (κ 6) (N) + wm (κ 6) (N) + wm (κ 6) (N) + 4 * wm (κ 9) N) (by omega) (by omega) ?_
  exact hQ
