
set_option maxHeartbeats 4000000 in
set_option maxRecDepth 100000 in
theorem c_Names_open (l : Launch) (γ : gE) (Z : Nat → Prop) (a N sc L : Nat)  (hsc : sc < 32) : MU l yNames_open bNames_open 1 (none) 0 0 0 0 [.ref a] γ Z (cmp γ (fNames γ a N sc L) Z) (mQv (fun H => cmp γ (fNames γ a N (sc + 1) L) Z H) Z) := by
  refine mu_openV (by decide) (Nat.le_of_ble_eq_true rfl) ?_
  intro p e s m args below meth c ls Q S hnm hC hA hI hE hl
  obtain ⟨hx, hb, hml, hown, hW⟩ := id S
  have hS : va_S Z s.heap s.heap [] := va_S.rf
  have hl : lv_has ls 1 [(0, .ref a)] := hl
  refine lv_aload_n hx hb dNames_open_0 rfl (lv_at hl 0 rfl) ?_
  obtain ⟨ws_2, ⟨b0_2, b1_2, b2_2, b3_2, b4_2, b5_2, b6_2, f0_2, f1_2, f2_2, f3_2, f4_2, f5_2, f6_2, rfl, h1_2, h2_2, h3_2, h4_2, h5_2, h6_2⟩, hP, hD⟩ := id hI
  have hP : va_P γ.1 vwCl [(a, .inr (2, [.ref b0_2, .ref b1_2, .ref b2_2, .ref b3_2, .ref b4_2, .ref b5_2, .ref b6_2, .int (nI N), .int (nI sc)])), (b0_2, .inl (γ.2.1, L, .inl f0_2)), (b1_2, .inl (γ.2.1, L, .inl f1_2)), (b2_2, .inl (γ.2.1, L, .inl f2_2)), (b3_2, .inl (γ.2.1, L, .inl f3_2)), (b4_2, .inl (γ.2.1, L, .inl f4_2)), (b5_2, .inl (γ.2.1, 256, .inl f5_2)), (b6_2, .inl (γ.2.1, 32, .inl f6_2))] _ := hP
  have hD : va_D Z [(a, .inr (2, [.ref b0_2, .ref b1_2, .ref b2_2, .ref b3_2, .ref b4_2, .ref b5_2, .ref b6_2, .int (nI N), .int (nI sc)])), (b0_2, .inl (γ.2.1, L, .inl f0_2)), (b1_2, .inl (γ.2.1, L, .inl f1_2)), (b2_2, .inl (γ.2.1, L, .inl f2_2)), (b3_2, .inl (γ.2.1, L, .inl f3_2)), (b4_2, .inl (γ.2.1, L, .inl f4_2)), (b5_2, .inl (γ.2.1, 256, .inl f5_2)), (b6_2, .inl (γ.2.1, 32, .inl f6_2))] := hD
  refine va_get (D := γ.1) (ci := 2) (v := .int (nI sc)) (C := R_Names) (T := T_Names) (N := 9) (Ts := bs_W0) hx hb hW in_Names hown hC.1 hP 0 rfl rfl 8 (by decide) (hW _ qw_40882965f2) (fun _ h9 => h9) rfl dNames_open_1 ?_
  refine lv_topi (fun v8 ev8 => ?_)
  refine lv_bipush (v := 32) hx hb dNames_open_4 (by decide) ?_
  refine lv_icmp_ge (tgt := 32) hx hb dNames_open_6 (by decide) (fun c9 => ?_) (fun c9 => ?_)
  · exact absurd c9 (by rw [ev8]; exact nI_ge (a := sc) (b := 32) hsc (by omega))
  · refine lv_aload_n hx hb dNames_open_9 rfl (lv_at hl 0 rfl) ?_
    refine va_get (D := γ.1) (ci := 2) (v := .ref b6_2) (C := R_Names) (T := T_Names) (N := 9) (Ts := bs_W0) hx hb hW in_Names hown hC.1 hP 0 rfl rfl 6 (by decide) (hW _ qw_c2f4fc63da) (fun _ h9 => h9) rfl dNames_open_10 ?_
    refine lv_aload_n hx hb dNames_open_13 rfl (lv_at hl 0 rfl) ?_
    refine va_get (D := γ.1) (ci := 2) (v := .int (nI sc)) (C := R_Names) (T := T_Names) (N := 9) (Ts := bs_W0) hx hb hW in_Names hown hC.1 hP 0 rfl rfl 8 (by decide) (hW _ qw_40882965f2) (fun _ h9 => h9) rfl dNames_open_14 ?_
    refine lv_topi (fun v10 ev10 => ?_)
    refine lv_aload_n hx hb dNames_open_17 rfl (lv_at hl 0 rfl) ?_
    refine va_get (D := γ.1) (ci := 2) (v := .int (nI N)) (C := R_Names) (T := T_Names) (N := 9) (Ts := bs_W0) hx hb hW in_Names hown hC.1 hP 0 rfl rfl 7 (by decide) (hW _ qw_171adcdf9f) (fun _ h9 => h9) rfl dNames_open_18 ?_
    refine lv_topi (fun v11 ev11 => ?_)
    refine va_iast hx hb hC.1 hP hD hS 7 0 rfl rfl (by rw [ev10]; exact vp_in_nI (by omega) (by omega)) dNames_open_21 (fun H locs hP hD hS => ?_)
    obtain ⟨u12, eu12⟩ : ∃ z : Nat → Int32, z = upd f6_2 (v10).toNatClampNeg v11 := ⟨_, rfl⟩
    rw [← eu12] at hP hD
    have hP : va_P γ.1 vwCl [(a, .inr (2, [.ref b0_2, .ref b1_2, .ref b2_2, .ref b3_2, .ref b4_2, .ref b5_2, .ref b6_2, .int (nI N), .int (nI sc)])), (b0_2, .inl (γ.2.1, L, .inl f0_2)), (b1_2, .inl (γ.2.1, L, .inl f1_2)), (b2_2, .inl (γ.2.1, L, .inl f2_2)), (b3_2, .inl (γ.2.1, L, .inl f3_2)), (b4_2, .inl (γ.2.1, L, .inl f4_2)), (b5_2, .inl (γ.2.1, 256, .inl f5_2)), (b6_2, .inl (γ.2.1, 32, .inl u12))] _ := hP
    have hD : va_D Z [(a, .inr (2, [.ref b0_2, .ref b1_2, .ref b2_2, .ref b3_2, .ref b4_2, .ref b5_2, .ref b6_2, .int (nI N), .int (nI sc)])), (b0_2, .inl (γ.2.1, L, .inl f0_2)), (b1_2, .inl (γ.2.1, L, .inl f1_2)), (b2_2, .inl (γ.2.1, L, .inl f2_2)), (b3_2, .inl (γ.2.1, L, .inl f3_2)), (b4_2, .inl (γ.2.1, L, .inl f4_2)), (b5_2, .inl (γ.2.1, 256, .inl f5_2)), (b6_2, .inl (γ.2.1, 32, .inl u12))] := hD
    refine lv_aload_n hx hb dNames_open_22 rfl (lv_at hl 0 rfl) ?_
    refine lv_dup hx hb dNames_open_23 rfl ?_
    refine va_get (D := γ.1) (ci := 2) (v := .int (nI sc)) (C := R_Names) (T := T_Names) (N := 9) (Ts := bs_W0) hx hb hW in_Names hown hC.1 hP 0 rfl rfl 8 (by decide) (hW _ qw_40882965f2) (fun _ h9 => h9) rfl dNames_open_24 ?_
    refine lv_topi (fun v13 ev13 => ?_)
    refine lv_iconst (v := 1) hx hb dNames_open_27 (by decide) ?_
    refine lv_iadd hx hb dNames_open_28 ?_
    refine lv_topi (fun v14 ev14 => ?_)
    have ev14 : v14 = nI (sc + 1) := by rw [ev14, ev13]; exact nI_add (sc) (1)
    obtain rfl : v14 = nI (sc + 1) := ev14
    refine va_put (D := γ.1) (ci := 2) (v := .int (nI (sc + 1))) (ty := .int) (C := R_Names) (T := T_Names) (N := 9) (Ts := bs_W0) hx hb hW in_Names t_Names t_Names_ok n_Names hown hC.1 hP hD hS 0 rfl rfl 8 (by decide) (hW _ qw_40882965f2) (fun _ h9 => h9) rfl (by decide +kernel) rfl rfl (Nat.le_of_ble_eq_true rfl) dNames_open_29 (fun H locs hP hD hS => ?_)
    have hP : va_P γ.1 vwCl [(a, .inr (2, [.ref b0_2, .ref b1_2, .ref b2_2, .ref b3_2, .ref b4_2, .ref b5_2, .ref b6_2, .int (nI N), .int (nI (sc + 1))])), (b0_2, .inl (γ.2.1, L, .inl f0_2)), (b1_2, .inl (γ.2.1, L, .inl f1_2)), (b2_2, .inl (γ.2.1, L, .inl f2_2)), (b3_2, .inl (γ.2.1, L, .inl f3_2)), (b4_2, .inl (γ.2.1, L, .inl f4_2)), (b5_2, .inl (γ.2.1, 256, .inl f5_2)), (b6_2, .inl (γ.2.1, 32, .inl u12))] _ := hP
    have hD : va_D Z [(a, .inr (2, [.ref b0_2, .ref b1_2, .ref b2_2, .ref b3_2, .ref b4_2, .ref b5_2, .ref b6_2, .int (nI N), .int (nI (sc + 1))])), (b0_2, .inl (γ.2.1, L, .inl f0_2)), (b1_2, .inl (γ.2.1, L, .inl f1_2)), (b2_2, .inl (γ.2.1, L, .inl f2_2)), (b3_2, .inl (γ.2.1, L, .inl f3_2)), (b4_2, .inl (γ.2.1, L, .inl f4_2)), (b5_2, .inl (γ.2.1, 256, .inl f5_2)), (b6_2, .inl (γ.2.1, 32, .inl u12))] := hD
    have hI : cmp γ (fNames γ a N (sc + 1) L) Z _ := ⟨_, ⟨b0_2, b1_2, b2_2, b3_2, b4_2, b5_2, b6_2, f0_2, f1_2, f2_2, f3_2, f4_2, f5_2, u12, rfl, (by omega), (by omega), (by omega), (by omega), (by omega), (by obtain ⟨g, q1, q2, q3⟩ := h6_2; rw [eu12]; exact st_ok (by rw [ev10]; exact nI_clamp (by omega)) ev11 q1 q2 q3)⟩, hP, hD⟩
    exact hE _ _ 32 ls hS hI dNames_open_32
