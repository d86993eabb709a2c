
set_option maxHeartbeats 4000000 in
set_option maxRecDepth 100000 in
theorem c_Names_close (l : Launch) (γ : gE) (Z : Nat → Prop) (a N sc L : Nat)  (s1 : Nat) (hs : sc = s1 + 1) (hs1 : 1 ≤ s1) : MU l yNames_close bNames_close 3 (none) 0 0 0 0 [.ref a] γ Z (cmp γ (fNames γ a N sc L) Z) (mQv (fun H => (∃ j9 : Nat, j9 ≤ N ∧ cmp γ (fNames γ a j9 s1 L) Z H)) Z) := by
  refine mu_openV (by decide) (Nat.le_of_ble_eq_true rfl) ?_
  intro p e s m args below meth c ls Q S hnm hC hA hI hE hl
  obtain ⟨hx, hb, hml, hown, hW⟩ := id S
  have hS : va_S Z s.heap s.heap [] := va_S.rf
  have hl : lv_has ls 3 [(0, .ref a)] := hl
  have hb9 : L ≤ 8192 ∧ N ≤ L ∧ sc ≤ 32 := (by obtain ⟨w9, ⟨_, _, _, _, _, _, _, _, _, _, _, _, _, _, _, h1, h2, _, _, h5, _⟩, _, _⟩ := id hI; exact ⟨h2, h1, h5⟩)
  have J35 : ∀ (N35 : Nat) (ls : Array Slot) (H : Heap) (locs : List Loc) (i1 : Int32) (i2 : Int32), cmp γ (fNamesX γ a N s1 L i1) Z H → va_S Z s.heap H locs → (∃ G : Nat, i1 = nI G ∧ G ≤ N) → (i2.toInt < (N : Int)) → (i2.toInt + 2147483648).toNat = N35 → lv_has ls 3 [(0, .ref a), (1, .int i1), (2, .int i2)] → W p l e (bs_rm 0 0 0 0) s m args below meth c H locs 0 0 Q (F0 m 35 ls []) := by
    intro N35
    induction N35 using Nat.strongRecOn with
    | ind N35 ih35 =>
      intro ls H locs i1 i2 hI hS hq1 hq2 hm35 hl
      refine lv_iload_n hx hb dNames_close_35 rfl (lv_at hl 2 rfl) ?_
      refine lv_iload_n hx hb dNames_close_36 rfl (lv_at hl 1 rfl) ?_
      refine lv_icmp_lt (tgt := 67) hx hb dNames_close_37 (by decide) (fun c15 => ?_) (fun c15 => ?_)
      · obtain ⟨G, eG, hG⟩ := id hq1
        refine lv_aload_n hx hb dNames_close_67 rfl (lv_at hl 0 rfl) ?_
        refine lv_iload_n hx hb dNames_close_68 rfl (lv_at hl 1 rfl) ?_
        obtain ⟨ws_4, ⟨b0_4, b1_4, b2_4, b3_4, b4_4, b5_4, b6_4, f0_4, f1_4, f2_4, f3_4, f4_4, f5_4, f6_4, rfl, h1_4, h2_4, h3_4, h4_4, h5_4, h6_4⟩, hP, hD⟩ := id hI
        have hP : va_P γ.1 vwCl [(a, .inr (2, [.ref b0_4, .ref b1_4, .ref b2_4, .ref b3_4, .ref b4_4, .ref b5_4, .ref b6_4, .int (nI N), .int (nI s1)])), (b0_4, .inl (γ.2.1, L, .inl f0_4)), (b1_4, .inl (γ.2.1, L, .inl f1_4)), (b2_4, .inl (γ.2.1, L, .inl f2_4)), (b3_4, .inl (γ.2.1, L, .inl f3_4)), (b4_4, .inl (γ.2.1, L, .inl f4_4)), (b5_4, .inl (γ.2.1, 256, .inl f5_4)), (b6_4, .inl (γ.2.1, 32, .inl f6_4))] _ := hP
        have hD : va_D Z [(a, .inr (2, [.ref b0_4, .ref b1_4, .ref b2_4, .ref b3_4, .ref b4_4, .ref b5_4, .ref b6_4, .int (nI N), .int (nI s1)])), (b0_4, .inl (γ.2.1, L, .inl f0_4)), (b1_4, .inl (γ.2.1, L, .inl f1_4)), (b2_4, .inl (γ.2.1, L, .inl f2_4)), (b3_4, .inl (γ.2.1, L, .inl f3_4)), (b4_4, .inl (γ.2.1, L, .inl f4_4)), (b5_4, .inl (γ.2.1, 256, .inl f5_4)), (b6_4, .inl (γ.2.1, 32, .inl f6_4))] := hD
        obtain rfl : i1 = nI (G) := eG
        refine va_put (D := γ.1) (ci := 2) (v := .int (nI (G))) (ty := .int) (C := R_Names) (T := T_Names) (N := 9) (Ts := bs_W0) hx hb hW in_Names t_Names t_Names_ok n_Names hown hC.1 hP hD hS 0 rfl rfl 7 (by decide) (hW _ qw_171adcdf9f) (fun _ h9 => h9) rfl (by decide +kernel) rfl rfl (Nat.le_of_ble_eq_true rfl) dNames_close_69 (fun H locs hP hD hS => ?_)
        have hP : va_P γ.1 vwCl [(a, .inr (2, [.ref b0_4, .ref b1_4, .ref b2_4, .ref b3_4, .ref b4_4, .ref b5_4, .ref b6_4, .int (nI (G)), .int (nI s1)])), (b0_4, .inl (γ.2.1, L, .inl f0_4)), (b1_4, .inl (γ.2.1, L, .inl f1_4)), (b2_4, .inl (γ.2.1, L, .inl f2_4)), (b3_4, .inl (γ.2.1, L, .inl f3_4)), (b4_4, .inl (γ.2.1, L, .inl f4_4)), (b5_4, .inl (γ.2.1, 256, .inl f5_4)), (b6_4, .inl (γ.2.1, 32, .inl f6_4))] _ := hP
        have hD : va_D Z [(a, .inr (2, [.ref b0_4, .ref b1_4, .ref b2_4, .ref b3_4, .ref b4_4, .ref b5_4, .ref b6_4, .int (nI (G)), .int (nI s1)])), (b0_4, .inl (γ.2.1, L, .inl f0_4)), (b1_4, .inl (γ.2.1, L, .inl f1_4)), (b2_4, .inl (γ.2.1, L, .inl f2_4)), (b3_4, .inl (γ.2.1, L, .inl f3_4)), (b4_4, .inl (γ.2.1, L, .inl f4_4)), (b5_4, .inl (γ.2.1, 256, .inl f5_4)), (b6_4, .inl (γ.2.1, 32, .inl f6_4))] := hD
        have hI : cmp γ (fNames γ a G s1 L) Z _ := ⟨_, ⟨b0_4, b1_4, b2_4, b3_4, b4_4, b5_4, b6_4, f0_4, f1_4, f2_4, f3_4, f4_4, f5_4, f6_4, rfl, (by omega), (by omega), (by omega), (by omega), (by omega), (by obtain ⟨g, G2, e2, q0, q1, q2, q3⟩ := h6_4; obtain rfl : G = G2 := (nI_eq (by omega) (by omega)).mp e2; exact ⟨g, q1, q2, q3⟩)⟩, hP, hD⟩
        exact hE _ _ 72 ls hS ⟨G, hG, hI⟩ dNames_close_72
      · obtain ⟨G, eG, hG⟩ := id hq1
        obtain ⟨hin9, hge2⟩ := rng_ok (L := L) eG hG (by assumption) hq2 hb9.2.1 hb9.1
        refine lv_aload_n hx hb dNames_close_40 rfl (lv_at hl 0 rfl) ?_
        obtain ⟨ws_5, ⟨b0_5, b1_5, b2_5, b3_5, b4_5, b5_5, b6_5, f0_5, f1_5, f2_5, f3_5, f4_5, f5_5, f6_5, rfl, h1_5, h2_5, h3_5, h4_5, h5_5, h6_5⟩, hP, hD⟩ := id hI
        have hP : va_P γ.1 vwCl [(a, .inr (2, [.ref b0_5, .ref b1_5, .ref b2_5, .ref b3_5, .ref b4_5, .ref b5_5, .ref b6_5, .int (nI N), .int (nI s1)])), (b0_5, .inl (γ.2.1, L, .inl f0_5)), (b1_5, .inl (γ.2.1, L, .inl f1_5)), (b2_5, .inl (γ.2.1, L, .inl f2_5)), (b3_5, .inl (γ.2.1, L, .inl f3_5)), (b4_5, .inl (γ.2.1, L, .inl f4_5)), (b5_5, .inl (γ.2.1, 256, .inl f5_5)), (b6_5, .inl (γ.2.1, 32, .inl f6_5))] _ := hP
        have hD : va_D Z [(a, .inr (2, [.ref b0_5, .ref b1_5, .ref b2_5, .ref b3_5, .ref b4_5, .ref b5_5, .ref b6_5, .int (nI N), .int (nI s1)])), (b0_5, .inl (γ.2.1, L, .inl f0_5)), (b1_5, .inl (γ.2.1, L, .inl f1_5)), (b2_5, .inl (γ.2.1, L, .inl f2_5)), (b3_5, .inl (γ.2.1, L, .inl f3_5)), (b4_5, .inl (γ.2.1, L, .inl f4_5)), (b5_5, .inl (γ.2.1, 256, .inl f5_5)), (b6_5, .inl (γ.2.1, 32, .inl f6_5))] := hD
        refine va_get (D := γ.1) (ci := 2) (v := .ref b5_5) (C := R_Names) (T := T_Names) (N := 9) (Ts := bs_W0) hx hb hW in_Names hown hC.1 hP 0 rfl rfl 5 (by decide) (hW _ qw_ae9666db7d) (fun _ h9 => h9) rfl dNames_close_41 ?_
        refine lv_aload_n hx hb dNames_close_44 rfl (lv_at hl 0 rfl) ?_
        refine va_get (D := γ.1) (ci := 2) (v := .ref b0_5) (C := R_Names) (T := T_Names) (N := 9) (Ts := bs_W0) hx hb hW in_Names hown hC.1 hP 0 rfl rfl 0 (by decide) (hW _ qw_a8d4a716ae) (fun _ h9 => h9) rfl dNames_close_45 ?_
        refine lv_iload_n hx hb dNames_close_48 rfl (lv_at hl 2 rfl) ?_
        refine va_iald hx hb hC.1 hP 1 0 rfl rfl hin9 dNames_close_49 ?_
        refine lv_topi (fun v16 ev16 => ?_)
        refine lv_sipush (v := 255) hx hb dNames_close_50 (by decide) ?_
        refine lv_iand hx hb dNames_close_53 ?_
        refine lv_topi (fun v17 ev17 => ?_)
        refine lv_aload_n hx hb dNames_close_54 rfl (lv_at hl 0 rfl) ?_
        refine va_get (D := γ.1) (ci := 2) (v := .ref b4_5) (C := R_Names) (T := T_Names) (N := 9) (Ts := bs_W0) hx hb hW in_Names hown hC.1 hP 0 rfl rfl 4 (by decide) (hW _ qw_ddfb92ec41) (fun _ h9 => h9) rfl dNames_close_55 ?_
        refine lv_iload_n hx hb dNames_close_58 rfl (lv_at hl 2 rfl) ?_
        refine va_iald hx hb hC.1 hP 5 0 rfl rfl hin9 dNames_close_59 ?_
        refine lv_topi (fun v18 ev18 => ?_)
        refine va_iast hx hb hC.1 hP hD hS 6 0 rfl rfl (by rw [ev17]; exact pk_andIn _ 8 (by decide) (by decide)) dNames_close_60 (fun H locs hP hD hS => ?_)
        obtain ⟨u19, eu19⟩ : ∃ z : Nat → Int32, z = upd f5_5 (v17).toNatClampNeg v18 := ⟨_, rfl⟩
        rw [← eu19] at hP hD
        have hP : va_P γ.1 vwCl [(a, .inr (2, [.ref b0_5, .ref b1_5, .ref b2_5, .ref b3_5, .ref b4_5, .ref b5_5, .ref b6_5, .int (nI N), .int (nI s1)])), (b0_5, .inl (γ.2.1, L, .inl f0_5)), (b1_5, .inl (γ.2.1, L, .inl f1_5)), (b2_5, .inl (γ.2.1, L, .inl f2_5)), (b3_5, .inl (γ.2.1, L, .inl f3_5)), (b4_5, .inl (γ.2.1, L, .inl f4_5)), (b5_5, .inl (γ.2.1, 256, .inl u19)), (b6_5, .inl (γ.2.1, 32, .inl f6_5))] _ := hP
        have hD : va_D Z [(a, .inr (2, [.ref b0_5, .ref b1_5, .ref b2_5, .ref b3_5, .ref b4_5, .ref b5_5, .ref b6_5, .int (nI N), .int (nI s1)])), (b0_5, .inl (γ.2.1, L, .inl f0_5)), (b1_5, .inl (γ.2.1, L, .inl f1_5)), (b2_5, .inl (γ.2.1, L, .inl f2_5)), (b3_5, .inl (γ.2.1, L, .inl f3_5)), (b4_5, .inl (γ.2.1, L, .inl f4_5)), (b5_5, .inl (γ.2.1, 256, .inl u19)), (b6_5, .inl (γ.2.1, 32, .inl f6_5))] := hD
        obtain ⟨v20, ev20⟩ : ∃ y : Int32, y = i2 + (-1) := ⟨_, rfl⟩
        refine lv_iinc (v := v20) (lv' := [(2, .int v20), (0, .ref a), (1, .int i1)]) hx hb dNames_close_61 hl (k := 2) rfl (by rw [ev20]; rfl) (by decide) rfl (fun ls hl => ?_)
        refine lv_goto (tgt := 35) hx hb dNames_close_64 (by decide) ?_
        have hI : cmp γ (fNamesX γ a N s1 L i1) Z _ := ⟨_, ⟨b0_5, b1_5, b2_5, b3_5, b4_5, b5_5, b6_5, f0_5, f1_5, f2_5, f3_5, f4_5, u19, f6_5, rfl, (by omega), (by omega), (by omega), (by omega), (by omega), h6_5⟩, hP, hD⟩
        exact ih35 _ (by have q1 : -2147483648 < i2.toInt := (by first | assumption | omega); have q2 := mu_dn q1; rw [← ev20] at q2; omega) ls _ _ i1 v20 hI hS hq1 (dn_lt hge2 ev20 hq2) rfl (lv_sub hl [1, 2, 0] rfl)
  refine lv_aload_n hx hb dNames_close_0 rfl (lv_at hl 0 rfl) ?_
  obtain ⟨ws_6, ⟨b0_6, b1_6, b2_6, b3_6, b4_6, b5_6, b6_6, f0_6, f1_6, f2_6, f3_6, f4_6, f5_6, f6_6, rfl, h1_6, h2_6, h3_6, h4_6, h5_6, h6_6⟩, hP, hD⟩ := id hI
  have hP : va_P γ.1 vwCl [(a, .inr (2, [.ref b0_6, .ref b1_6, .ref b2_6, .ref b3_6, .ref b4_6, .ref b5_6, .ref b6_6, .int (nI N), .int (nI sc)])), (b0_6, .inl (γ.2.1, L, .inl f0_6)), (b1_6, .inl (γ.2.1, L, .inl f1_6)), (b2_6, .inl (γ.2.1, L, .inl f2_6)), (b3_6, .inl (γ.2.1, L, .inl f3_6)), (b4_6, .inl (γ.2.1, L, .inl f4_6)), (b5_6, .inl (γ.2.1, 256, .inl f5_6)), (b6_6, .inl (γ.2.1, 32, .inl f6_6))] _ := hP
  have hD : va_D Z [(a, .inr (2, [.ref b0_6, .ref b1_6, .ref b2_6, .ref b3_6, .ref b4_6, .ref b5_6, .ref b6_6, .int (nI N), .int (nI sc)])), (b0_6, .inl (γ.2.1, L, .inl f0_6)), (b1_6, .inl (γ.2.1, L, .inl f1_6)), (b2_6, .inl (γ.2.1, L, .inl f2_6)), (b3_6, .inl (γ.2.1, L, .inl f3_6)), (b4_6, .inl (γ.2.1, L, .inl f4_6)), (b5_6, .inl (γ.2.1, 256, .inl f5_6)), (b6_6, .inl (γ.2.1, 32, .inl f6_6))] := hD
  refine va_get (D := γ.1) (ci := 2) (v := .int (nI sc)) (C := R_Names) (T := T_Names) (N := 9) (Ts := bs_W0) hx hb hW in_Names hown hC.1 hP 0 rfl rfl 8 (by decide) (hW _ qw_40882965f2) (fun _ h9 => h9) rfl dNames_close_1 ?_
  refine lv_topi (fun v21 ev21 => ?_)
  refine lv_iconst (v := 1) hx hb dNames_close_4 (by decide) ?_
  refine lv_icmp_le (tgt := 72) hx hb dNames_close_5 (by decide) (fun c22 => ?_) (fun c22 => ?_)
  · exact absurd c22 (by rw [ev21, hs]; exact nI_ge (a := 1) (b := s1 + 1) (by omega) (by omega))
  · refine lv_aload_n hx hb dNames_close_8 rfl (lv_at hl 0 rfl) ?_
    refine lv_dup hx hb dNames_close_9 rfl ?_
    refine va_get (D := γ.1) (ci := 2) (v := .int (nI sc)) (C := R_Names) (T := T_Names) (N := 9) (Ts := bs_W0) hx hb hW in_Names hown hC.1 hP 0 rfl rfl 8 (by decide) (hW _ qw_40882965f2) (fun _ h9 => h9) rfl dNames_close_10 ?_
    refine lv_topi (fun v23 ev23 => ?_)
    refine lv_iconst (v := 1) hx hb dNames_close_13 (by decide) ?_
    refine lv_isub hx hb dNames_close_14 ?_
    refine lv_topi (fun v24 ev24 => ?_)
    obtain rfl : v24 = nI (s1) := (by rw [ev24, ev23, hs]; exact nI_pred s1)
    refine va_put (D := γ.1) (ci := 2) (v := .int (nI (s1))) (ty := .int) (C := R_Names) (T := T_Names) (N := 9) (Ts := bs_W0) hx hb hW in_Names t_Names t_Names_ok n_Names hown hC.1 hP hD hS 0 rfl rfl 8 (by decide) (hW _ qw_40882965f2) (fun _ h9 => h9) rfl (by decide +kernel) rfl rfl (Nat.le_of_ble_eq_true rfl) dNames_close_15 (fun H locs hP hD hS => ?_)
    have hP : va_P γ.1 vwCl [(a, .inr (2, [.ref b0_6, .ref b1_6, .ref b2_6, .ref b3_6, .ref b4_6, .ref b5_6, .ref b6_6, .int (nI N), .int (nI (s1))])), (b0_6, .inl (γ.2.1, L, .inl f0_6)), (b1_6, .inl (γ.2.1, L, .inl f1_6)), (b2_6, .inl (γ.2.1, L, .inl f2_6)), (b3_6, .inl (γ.2.1, L, .inl f3_6)), (b4_6, .inl (γ.2.1, L, .inl f4_6)), (b5_6, .inl (γ.2.1, 256, .inl f5_6)), (b6_6, .inl (γ.2.1, 32, .inl f6_6))] _ := hP
    have hD : va_D Z [(a, .inr (2, [.ref b0_6, .ref b1_6, .ref b2_6, .ref b3_6, .ref b4_6, .ref b5_6, .ref b6_6, .int (nI N), .int (nI (s1))])), (b0_6, .inl (γ.2.1, L, .inl f0_6)), (b1_6, .inl (γ.2.1, L, .inl f1_6)), (b2_6, .inl (γ.2.1, L, .inl f2_6)), (b3_6, .inl (γ.2.1, L, .inl f3_6)), (b4_6, .inl (γ.2.1, L, .inl f4_6)), (b5_6, .inl (γ.2.1, 256, .inl f5_6)), (b6_6, .inl (γ.2.1, 32, .inl f6_6))] := hD
    refine lv_aload_n hx hb dNames_close_18 rfl (lv_at hl 0 rfl) ?_
    refine va_get (D := γ.1) (ci := 2) (v := .ref b6_6) (C := R_Names) (T := T_Names) (N := 9) (Ts := bs_W0) hx hb hW in_Names hown hC.1 hP 0 rfl rfl 6 (by decide) (hW _ qw_c2f4fc63da) (fun _ h9 => h9) rfl dNames_close_19 ?_
    refine lv_aload_n hx hb dNames_close_22 rfl (lv_at hl 0 rfl) ?_
    refine va_get (D := γ.1) (ci := 2) (v := .int (nI (s1))) (C := R_Names) (T := T_Names) (N := 9) (Ts := bs_W0) hx hb hW in_Names hown hC.1 hP 0 rfl rfl 8 (by decide) (hW _ qw_40882965f2) (fun _ h9 => h9) rfl dNames_close_23 ?_
    refine lv_topi (fun v25 ev25 => ?_)
    refine va_iald hx hb hC.1 hP 7 0 rfl rfl (by rw [ev25]; exact vp_in_nI (by omega) (by omega)) dNames_close_26 ?_
    refine lv_topi (fun v26 ev26 => ?_)
    refine lv_istore_n (lv' := [(1, .int v26), (0, .ref a)]) hx hb dNames_close_27 rfl hl (by decide) rfl (fun ls hl => ?_)
    refine lv_aload_n hx hb dNames_close_28 rfl (lv_at hl 1 rfl) ?_
    refine va_get (D := γ.1) (ci := 2) (v := .int (nI N)) (C := R_Names) (T := T_Names) (N := 9) (Ts := bs_W0) hx hb hW in_Names hown hC.1 hP 0 rfl rfl 7 (by decide) (hW _ qw_171adcdf9f) (fun _ h9 => h9) rfl dNames_close_29 ?_
    refine lv_topi (fun v27 ev27 => ?_)
    refine lv_iconst (v := 1) hx hb dNames_close_32 (by decide) ?_
    refine lv_isub hx hb dNames_close_33 ?_
    refine lv_topi (fun v28 ev28 => ?_)
    refine lv_istore_n (lv' := [(2, .int v28), (1, .int v26), (0, .ref a)]) hx hb dNames_close_34 rfl hl (by decide) rfl (fun ls hl => ?_)
    have hI : cmp γ (fNamesX γ a N s1 L v26) Z _ := ⟨_, ⟨b0_6, b1_6, b2_6, b3_6, b4_6, b5_6, b6_6, f0_6, f1_6, f2_6, f3_6, f4_6, f5_6, f6_6, rfl, (by omega), (by omega), (by omega), (by omega), (by omega), (by obtain ⟨g, q1, q2, q3⟩ := h6_6; exact ⟨g, g s1, (by rw [ev26, ev25, nI_clamp (by omega)]; exact q1 s1 (by omega)), q3 s1 (by omega), fun k hk => q1 k (by omega), fun i j h h2 => q2 i j h (by omega), fun k hk => q2 k s1 (by omega) (by omega)⟩)⟩, hP, hD⟩
    exact J35 _ ls _ _ v26 v28 hI hS (by obtain ⟨g, q1, q2, q3⟩ := h6_6; exact ⟨g s1, (by rw [ev26, ev25, nI_clamp (by omega)]; exact q1 s1 (by omega)), q3 s1 (by omega)⟩) (by rw [ev28, ev27]; exact pr_lt (by omega)) rfl (lv_sub hl [2, 1, 0] rfl)
