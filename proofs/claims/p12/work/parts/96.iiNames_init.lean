theorem qw_60df5b0a2e : (Cond.methodLink R_Names 3 Lib.objectInit) ∈ bs_W0 := bs_in (in_tables_1_1 (List.mem_of_getElem? (i := 65) rfl)) rfl
theorem qw_afaed44251 : (Cond.methodLink R_Names 40 yjArrays_fill) ∈ bs_W0 := bs_in (in_tables_1_1 (List.mem_of_getElem? (i := 66) rfl)) rfl
theorem qw_03253ebdf0 : (Cond.fieldLink R_Names 49 R_Names "FIRST_NUMBERS" "[I") ∈ bs_W0 := bs_in (in_tables_1_1 (List.mem_of_getElem? (i := 71) rfl)) rfl
theorem qw_0692c45ea4 : (Cond.methodLink R_Names 52 yNames_put) ∈ bs_W0 := bs_in (in_tables_1_1 (List.mem_of_getElem? (i := 73) rfl)) rfl
set_option maxHeartbeats 4000000 in
set_option maxRecDepth 100000 in
theorem i_Names (l : Launch) (γ : gE) (s0 : State) (hw0 : SW s0) (a : Nat) (H0 : Heap)   : MS l yNames_init bNames_init 2 none 4 128 7 608 [.ref a] γ (fun q => a ≤ q) (ct_P s0 a H0 γ [(a, .inr (2, [.null, .null, .null, .null, .null, .null, .null, .int 0, .int 0]))]) (mQv (fun H => cmp γ (fNames γ a 12 1 64) (iv a (a + 8)) H ∧ H.size = a + 8) (fun q => a ≤ q)) := by
  refine ms_openV (by decide) (Nat.le_of_ble_eq_true rfl) ?_
  intro p e s m args below meth c ls Q S hnm hC hA hPS hE hl
  obtain ⟨⟨hF0, hA1⟩, hH0, hz, hP⟩ := hPS
  subst hH0
  have hA0 : ∀ q, a ≤ q → s0.heap.size ≤ q := fun q h => Nat.le_trans hA1 h
  have hA : ∀ q, s.heap.size ≤ q → a ≤ q := hA
  obtain ⟨hx, hb, hml, hown, hW⟩ := id S
  have hS : va_S (fun q => a ≤ q) s.heap s.heap [] := va_S.rf
  have hD : va_D (fun q => a ≤ q) [(a, .inr (2, [.null, .null, .null, .null, .null, .null, .null, .int 0, .int 0]))] := one_D (Nat.le_refl a)
  have hl : lv_has ls 2 [(0, .ref a)] := hl
  obtain ⟨ts, fs, hZs, hTs, hfs⟩ := hw0.2.2.2.2.1
  obtain ⟨tn, fn, hZn, hTn, hfn⟩ := hw0.2.2.2.2.2
  have J81 : ∀ (N81 : Nat) (ls : Array Slot) (H : Heap) (locs : List Loc) (j : Nat) (i1 : Int32), cmp γ (fNames γ a j 1 64) (fun q => a ≤ q) H → va_S (fun q => a ≤ q) s.heap H locs → a + 8 ≤ H.size → (j ≤ 12 ∧ i1 = nI j) → (2147483647 - i1.toInt).toNat = N81 → lv_has ls 2 [(0, .ref a), (1, .int i1)] → W p l e (bs_rm 4 7 608 128) s m args below meth c H locs (0 + 1 + 1 + 1 + 1 + 1 + 1 + 1) (0 + 64 + 64 + 64 + 64 + 64 + 256 + 32) Q (F0 m 81 ls []) := by
    intro N81
    induction N81 using Nat.strongRecOn with
    | ind N81 ih81 =>
      intro ls H locs j i1 hI hS hz9 ⟨hj1, hj2⟩ hm81 hl
      refine lv_iload_n hx hb dNames_init_81 rfl (lv_at hl 1 rfl) ?_
      refine va_gets hx hb (fb_Z hF0 hA0 hZs) hS hown (hW _ qw_cff65ee3fd) (fun _ h => h) dNames_init_82 ?_
      refine va_tlen hx hb (fb_T hF0 hA0 hTs) hS (v := nI 12) rfl dNames_init_85 ?_
      refine lv_icmp_ge (tgt := 111) hx hb dNames_init_86 (by decide) (fun c5 => ?_) (fun c5 => ?_)
      · have hj3 : j = 12 := nI_ge_of hj1 (by decide) (by rw [← hj2]; assumption)
        subst hj3
        refine lv_aload_n hx hb dNames_init_111 rfl (lv_at hl 0 rfl) ?_
        obtain ⟨ws_9, ⟨b0_9, b1_9, b2_9, b3_9, b4_9, b5_9, b6_9, f0_9, f1_9, f2_9, f3_9, f4_9, f5_9, f6_9, rfl, h1_9, h2_9, h3_9, h4_9, h5_9, g9, h6_9, h7_9, h8_9⟩, hP, hD⟩ := hI
        refine va_get (D := γ.1) (ci := 2) (v := .ref b6_9) (C := R_Names) (T := T_Names) (N := 9) (Ts := bs_W0) hx hb hW in_Names hown hC.1 hP 0 rfl rfl 6 (by decide) (hW _ qw_c2f4fc63da) (fun _ h9 => h9) rfl dNames_init_112 ?_
        refine lv_iconst (v := 0) hx hb dNames_init_115 (by decide) ?_
        refine lv_aload_n hx hb dNames_init_116 rfl (lv_at hl 0 rfl) ?_
        refine va_get (D := γ.1) (ci := 2) (v := .int (nI 12)) (C := R_Names) (T := T_Names) (N := 9) (Ts := bs_W0) hx hb hW in_Names hown hC.1 hP 0 rfl rfl 7 (by decide) (hW _ qw_171adcdf9f) (fun _ h9 => h9) rfl dNames_init_117 ?_
        refine st_iast hx hb hC.1 hP hD (fun q h => h) hS 7 0 rfl rfl (show vp_in (nI 0) 32 from vp_in_nI (by decide) (by decide)) dNames_init_120 (fun H locs hP hD hS hz ho => ?_)
        have hz9 : a + 8 ≤ H.size := by omega
        refine hE _ _ _ _ _ _ hS (Nat.le_of_ble_eq_true rfl) (Nat.le_of_ble_eq_true rfl) (fun hG => ?_) dNames_init_121
        have hz1 : H.size ≤ s.heap.size + 7 := hG.2.1
        have hz2 : H.size = a + 8 := by omega
        exact ⟨iv_of ⟨_, ⟨_, _, _, _, _, _, _, _, _, _, _, _, _, _, rfl, h1_9, h2_9, h3_9, h4_9, h5_9, fun _ => 12, fun k hk => by obtain rfl : k = 0 := (by omega); rfl, fun _ _ _ _ => Nat.le_refl _, fun _ _ => Nat.le_refl _⟩, hP, hD⟩ hz2, hz2⟩
      · have hj3 : j < 12 := nI_lt_of hj1 (by decide) (by rw [← hj2]; assumption)
        refine lv_aload_n hx hb dNames_init_89 rfl (lv_at hl 0 rfl) ?_
        refine lv_iload_n hx hb dNames_init_90 rfl (lv_at hl 1 rfl) ?_
        refine va_gets hx hb (fb_Z hF0 hA0 hZs) hS hown (hW _ qw_cff65ee3fd) (fun _ h => h) dNames_init_91 ?_
        refine lv_iload_n hx hb dNames_init_94 rfl (lv_at hl 1 rfl) ?_
        obtain ⟨v6, hv6⟩ := hfs (i1.toNatClampNeg)
        refine va_ti hx hb (fb_T hF0 hA0 hTs) hS (by rw [hj2]; exact vp_in_nI hj3 (by omega)) hv6 dNames_init_95 ?_
        refine va_gets hx hb (fb_Z hF0 hA0 hZn) hS hown (hW _ qw_03253ebdf0) (fun _ h => h) dNames_init_96 ?_
        refine lv_iload_n hx hb dNames_init_99 rfl (lv_at hl 1 rfl) ?_
        obtain ⟨v7, hv7⟩ := hfn (i1.toNatClampNeg)
        refine va_ti hx hb (fb_T hF0 hA0 hTn) hS (by rw [hj2]; exact vp_in_nI hj3 (by omega)) hv7 dNames_init_100 ?_
        refine lv_iconst (v := 0) hx hb dNames_init_101 (by decide) ?_
        obtain ⟨ws_9, ⟨b0_9, b1_9, b2_9, b3_9, b4_9, b5_9, b6_9, f0_9, f1_9, f2_9, f3_9, f4_9, f5_9, f6_9, rfl, -⟩, hP, hD⟩ := id hI
        refine mu_Vv (rest := []) S hC (fun q h => hA q (Nat.le_trans hS.1 h)) (fun q h => h) hS (c_Names_put l γ (fun q => a ≤ q) a j 1 64 i1 v6 v7 0 (by omega)) meNames_put qw_0692c45ea4 ⟨(Nat.le_of_ble_eq_true rfl), (Nat.le_of_ble_eq_true rfl)⟩ (va_recv hC.1 hP (ci := 2) (q0 := 0) rfl rfl) hI rfl hl.1 rfl (Nat.le_of_ble_eq_true rfl) dNames_init_102 ⟨by rw [wc_0 (show j + 1 ≤ 64 by omega)]; exact (Nat.le_of_ble_eq_true rfl), by rw [wm_0 (show j + 1 ≤ 64 by omega)]; exact (Nat.le_of_ble_eq_true rfl)⟩ (fun H locs hI hS hz9 _ => ?_)
        rw [wl_0 (show j + 1 ≤ 64 by omega)] at hI
        refine W.cs (cells' := 0 + 1 + 1 + 1 + 1 + 1 + 1 + 1) (slots' := 0 + 64 + 64 + 64 + 64 + 64 + 256 + 32) (by rw [wc_0 (show j + 1 ≤ 64 by omega)]) (by rw [wm_0 (show j + 1 ≤ 64 by omega)]) ?_
        obtain ⟨v8, ev8⟩ : ∃ y : Int32, y = i1 + 1 := ⟨_, rfl⟩
        refine lv_iinc (v := v8) (lv' := [(1, .int v8), (0, .ref a)]) hx hb dNames_init_105 hl (k := 1) rfl (by rw [ev8]; rfl) (by decide) rfl (fun ls hl => ?_)
        refine lv_goto (tgt := 81) hx hb dNames_init_108 (by decide) ?_
        exact ih81 _ (by have q1 : i1.toInt < 2147483647 := (by first | exact (mu_up (k := i1) (by assumption)).2 | assumption); have q2 := mu_lt q1; rw [← ev8] at q2; omega) ls _ _ (j + 1) v8 hI hS (by omega) ⟨hj3, by rw [ev8, hj2]; exact nI_add j 1⟩ rfl (lv_sub hl [1, 0] rfl)
  refine lv_aload_n hx hb dNames_init_0 rfl (lv_at hl 0 rfl) ?_
  refine W.objInit hx hb hown (hW _ qw_60df5b0a2e) (hW _ qw_aaa073e22d) (hW _ qc_obj) rfl (hl.1.trans hml.symm) rfl dNames_init_1 (Nat.le_of_ble_eq_true rfl) (Nat.le_of_ble_eq_true rfl) ?_
  refine lv_aload_n hx hb dNames_init_4 rfl (lv_at hl 0 rfl) ?_
  refine lv_bipush (v := 64) hx hb dNames_init_5 (by decide) ?_
  refine cw_newa S hC qw_8e969fb20a hP hD hS hA hz 64 rfl (by omega) (Nat.le_of_ble_eq_true rfl) (Nat.le_of_ble_eq_true rfl) dNames_init_7 (fun H hP hD hS hz hk9 => ?_)
  have hz : H.size = a + 2 := hz
  have hP : va_P γ.1 vwCl [(a, .inr (2, [.null, .null, .null, .null, .null, .null, .null, .int 0, .int 0])), (a + 1, .inl (γ.2.1, 64, .inl (fun _ => 0)))] _ := hP
  have hD : va_D _ [(a, .inr (2, [.null, .null, .null, .null, .null, .null, .null, .int 0, .int 0])), (a + 1, .inl (γ.2.1, 64, .inl (fun _ => 0)))] := hD
  refine st_put (D := γ.1) (ci := 2) (v := .ref (a + 1)) (ty := .array .int) (C := R_Names) (T := T_Names) (N := 9) (Ts := bs_W0) hx hb hW in_Names t_Names t_Names_ok n_Names hown hC.1 hP hD (fun q h => h) hS 0 rfl rfl 0 (by decide) (hW _ qw_a8d4a716ae) (fun _ h9 => h9) rfl (by decide +kernel) rfl rfl (Nat.le_of_ble_eq_true rfl) dNames_init_9 (fun H locs hP hD hS hz9 ho9 => ?_)
  have hz : H.size = a + 2 := hz9.trans hz
  have hP : va_P γ.1 vwCl [(a, .inr (2, [.ref (a + 1), .null, .null, .null, .null, .null, .null, .int 0, .int 0])), (a + 1, .inl (γ.2.1, 64, .inl (fun _ => 0)))] _ := hP
  have hD : va_D _ [(a, .inr (2, [.ref (a + 1), .null, .null, .null, .null, .null, .null, .int 0, .int 0])), (a + 1, .inl (γ.2.1, 64, .inl (fun _ => 0)))] := hD
  refine lv_aload_n hx hb dNames_init_12 rfl (lv_at hl 0 rfl) ?_
  refine lv_bipush (v := 64) hx hb dNames_init_13 (by decide) ?_
  refine cw_newa S hC qw_8e969fb20a hP hD hS hA hz 64 rfl (by omega) (Nat.le_of_ble_eq_true rfl) (Nat.le_of_ble_eq_true rfl) dNames_init_15 (fun H hP hD hS hz hk9 => ?_)
  have hz : H.size = a + 3 := hz
  have hP : va_P γ.1 vwCl [(a, .inr (2, [.ref (a + 1), .null, .null, .null, .null, .null, .null, .int 0, .int 0])), (a + 1, .inl (γ.2.1, 64, .inl (fun _ => 0))), (a + 2, .inl (γ.2.1, 64, .inl (fun _ => 0)))] _ := hP
  have hD : va_D _ [(a, .inr (2, [.ref (a + 1), .null, .null, .null, .null, .null, .null, .int 0, .int 0])), (a + 1, .inl (γ.2.1, 64, .inl (fun _ => 0))), (a + 2, .inl (γ.2.1, 64, .inl (fun _ => 0)))] := hD
  refine st_put (D := γ.1) (ci := 2) (v := .ref (a + 2)) (ty := .array .int) (C := R_Names) (T := T_Names) (N := 9) (Ts := bs_W0) hx hb hW in_Names t_Names t_Names_ok n_Names hown hC.1 hP hD (fun q h => h) hS 0 rfl rfl 1 (by decide) (hW _ qw_5903ecb25d) (fun _ h9 => h9) rfl (by decide +kernel) rfl rfl (Nat.le_of_ble_eq_true rfl) dNames_init_17 (fun H locs hP hD hS hz9 ho9 => ?_)
  have hz : H.size = a + 3 := hz9.trans hz
  have hP : va_P γ.1 vwCl [(a, .inr (2, [.ref (a + 1), .ref (a + 2), .null, .null, .null, .null, .null, .int 0, .int 0])), (a + 1, .inl (γ.2.1, 64, .inl (fun _ => 0))), (a + 2, .inl (γ.2.1, 64, .inl (fun _ => 0)))] _ := hP
  have hD : va_D _ [(a, .inr (2, [.ref (a + 1), .ref (a + 2), .null, .null, .null, .null, .null, .int 0, .int 0])), (a + 1, .inl (γ.2.1, 64, .inl (fun _ => 0))), (a + 2, .inl (γ.2.1, 64, .inl (fun _ => 0)))] := hD
  refine lv_aload_n hx hb dNames_init_20 rfl (lv_at hl 0 rfl) ?_
  refine lv_bipush (v := 64) hx hb dNames_init_21 (by decide) ?_
  refine cw_newa S hC qw_8e969fb20a hP hD hS hA hz 64 rfl (by omega) (Nat.le_of_ble_eq_true rfl) (Nat.le_of_ble_eq_true rfl) dNames_init_23 (fun H hP hD hS hz hk9 => ?_)
  have hz : H.size = a + 4 := hz
  have hP : va_P γ.1 vwCl [(a, .inr (2, [.ref (a + 1), .ref (a + 2), .null, .null, .null, .null, .null, .int 0, .int 0])), (a + 1, .inl (γ.2.1, 64, .inl (fun _ => 0))), (a + 2, .inl (γ.2.1, 64, .inl (fun _ => 0))), (a + 3, .inl (γ.2.1, 64, .inl (fun _ => 0)))] _ := hP
  have hD : va_D _ [(a, .inr (2, [.ref (a + 1), .ref (a + 2), .null, .null, .null, .null, .null, .int 0, .int 0])), (a + 1, .inl (γ.2.1, 64, .inl (fun _ => 0))), (a + 2, .inl (γ.2.1, 64, .inl (fun _ => 0))), (a + 3, .inl (γ.2.1, 64, .inl (fun _ => 0)))] := hD
  refine st_put (D := γ.1) (ci := 2) (v := .ref (a + 3)) (ty := .array .int) (C := R_Names) (T := T_Names) (N := 9) (Ts := bs_W0) hx hb hW in_Names t_Names t_Names_ok n_Names hown hC.1 hP hD (fun q h => h) hS 0 rfl rfl 2 (by decide) (hW _ qw_ee1ba38ad0) (fun _ h9 => h9) rfl (by decide +kernel) rfl rfl (Nat.le_of_ble_eq_true rfl) dNames_init_25 (fun H locs hP hD hS hz9 ho9 => ?_)
  have hz : H.size = a + 4 := hz9.trans hz
  have hP : va_P γ.1 vwCl [(a, .inr (2, [.ref (a + 1), .ref (a + 2), .ref (a + 3), .null, .null, .null, .null, .int 0, .int 0])), (a + 1, .inl (γ.2.1, 64, .inl (fun _ => 0))), (a + 2, .inl (γ.2.1, 64, .inl (fun _ => 0))), (a + 3, .inl (γ.2.1, 64, .inl (fun _ => 0)))] _ := hP
  have hD : va_D _ [(a, .inr (2, [.ref (a + 1), .ref (a + 2), .ref (a + 3), .null, .null, .null, .null, .int 0, .int 0])), (a + 1, .inl (γ.2.1, 64, .inl (fun _ => 0))), (a + 2, .inl (γ.2.1, 64, .inl (fun _ => 0))), (a + 3, .inl (γ.2.1, 64, .inl (fun _ => 0)))] := hD
  refine lv_aload_n hx hb dNames_init_28 rfl (lv_at hl 0 rfl) ?_
  refine lv_bipush (v := 64) hx hb dNames_init_29 (by decide) ?_
  refine cw_newa S hC qw_8e969fb20a hP hD hS hA hz 64 rfl (by omega) (Nat.le_of_ble_eq_true rfl) (Nat.le_of_ble_eq_true rfl) dNames_init_31 (fun H hP hD hS hz hk9 => ?_)
  have hz : H.size = a + 5 := hz
  have hP : va_P γ.1 vwCl [(a, .inr (2, [.ref (a + 1), .ref (a + 2), .ref (a + 3), .null, .null, .null, .null, .int 0, .int 0])), (a + 1, .inl (γ.2.1, 64, .inl (fun _ => 0))), (a + 2, .inl (γ.2.1, 64, .inl (fun _ => 0))), (a + 3, .inl (γ.2.1, 64, .inl (fun _ => 0))), (a + 4, .inl (γ.2.1, 64, .inl (fun _ => 0)))] _ := hP
  have hD : va_D _ [(a, .inr (2, [.ref (a + 1), .ref (a + 2), .ref (a + 3), .null, .null, .null, .null, .int 0, .int 0])), (a + 1, .inl (γ.2.1, 64, .inl (fun _ => 0))), (a + 2, .inl (γ.2.1, 64, .inl (fun _ => 0))), (a + 3, .inl (γ.2.1, 64, .inl (fun _ => 0))), (a + 4, .inl (γ.2.1, 64, .inl (fun _ => 0)))] := hD
  refine st_put (D := γ.1) (ci := 2) (v := .ref (a + 4)) (ty := .array .int) (C := R_Names) (T := T_Names) (N := 9) (Ts := bs_W0) hx hb hW in_Names t_Names t_Names_ok n_Names hown hC.1 hP hD (fun q h => h) hS 0 rfl rfl 3 (by decide) (hW _ qw_1a22e5f505) (fun _ h9 => h9) rfl (by decide +kernel) rfl rfl (Nat.le_of_ble_eq_true rfl) dNames_init_33 (fun H locs hP hD hS hz9 ho9 => ?_)
  have hz : H.size = a + 5 := hz9.trans hz
  have hP : va_P γ.1 vwCl [(a, .inr (2, [.ref (a + 1), .ref (a + 2), .ref (a + 3), .ref (a + 4), .null, .null, .null, .int 0, .int 0])), (a + 1, .inl (γ.2.1, 64, .inl (fun _ => 0))), (a + 2, .inl (γ.2.1, 64, .inl (fun _ => 0))), (a + 3, .inl (γ.2.1, 64, .inl (fun _ => 0))), (a + 4, .inl (γ.2.1, 64, .inl (fun _ => 0)))] _ := hP
  have hD : va_D _ [(a, .inr (2, [.ref (a + 1), .ref (a + 2), .ref (a + 3), .ref (a + 4), .null, .null, .null, .int 0, .int 0])), (a + 1, .inl (γ.2.1, 64, .inl (fun _ => 0))), (a + 2, .inl (γ.2.1, 64, .inl (fun _ => 0))), (a + 3, .inl (γ.2.1, 64, .inl (fun _ => 0))), (a + 4, .inl (γ.2.1, 64, .inl (fun _ => 0)))] := hD
  refine lv_aload_n hx hb dNames_init_36 rfl (lv_at hl 0 rfl) ?_
  refine lv_bipush (v := 64) hx hb dNames_init_37 (by decide) ?_
  refine cw_newa S hC qw_8e969fb20a hP hD hS hA hz 64 rfl (by omega) (Nat.le_of_ble_eq_true rfl) (Nat.le_of_ble_eq_true rfl) dNames_init_39 (fun H hP hD hS hz hk9 => ?_)
  have hz : H.size = a + 6 := hz
  have hP : va_P γ.1 vwCl [(a, .inr (2, [.ref (a + 1), .ref (a + 2), .ref (a + 3), .ref (a + 4), .null, .null, .null, .int 0, .int 0])), (a + 1, .inl (γ.2.1, 64, .inl (fun _ => 0))), (a + 2, .inl (γ.2.1, 64, .inl (fun _ => 0))), (a + 3, .inl (γ.2.1, 64, .inl (fun _ => 0))), (a + 4, .inl (γ.2.1, 64, .inl (fun _ => 0))), (a + 5, .inl (γ.2.1, 64, .inl (fun _ => 0)))] _ := hP
  have hD : va_D _ [(a, .inr (2, [.ref (a + 1), .ref (a + 2), .ref (a + 3), .ref (a + 4), .null, .null, .null, .int 0, .int 0])), (a + 1, .inl (γ.2.1, 64, .inl (fun _ => 0))), (a + 2, .inl (γ.2.1, 64, .inl (fun _ => 0))), (a + 3, .inl (γ.2.1, 64, .inl (fun _ => 0))), (a + 4, .inl (γ.2.1, 64, .inl (fun _ => 0))), (a + 5, .inl (γ.2.1, 64, .inl (fun _ => 0)))] := hD
  refine st_put (D := γ.1) (ci := 2) (v := .ref (a + 5)) (ty := .array .int) (C := R_Names) (T := T_Names) (N := 9) (Ts := bs_W0) hx hb hW in_Names t_Names t_Names_ok n_Names hown hC.1 hP hD (fun q h => h) hS 0 rfl rfl 4 (by decide) (hW _ qw_ddfb92ec41) (fun _ h9 => h9) rfl (by decide +kernel) rfl rfl (Nat.le_of_ble_eq_true rfl) dNames_init_41 (fun H locs hP hD hS hz9 ho9 => ?_)
  have hz : H.size = a + 6 := hz9.trans hz
  have hP : va_P γ.1 vwCl [(a, .inr (2, [.ref (a + 1), .ref (a + 2), .ref (a + 3), .ref (a + 4), .ref (a + 5), .null, .null, .int 0, .int 0])), (a + 1, .inl (γ.2.1, 64, .inl (fun _ => 0))), (a + 2, .inl (γ.2.1, 64, .inl (fun _ => 0))), (a + 3, .inl (γ.2.1, 64, .inl (fun _ => 0))), (a + 4, .inl (γ.2.1, 64, .inl (fun _ => 0))), (a + 5, .inl (γ.2.1, 64, .inl (fun _ => 0)))] _ := hP
  have hD : va_D _ [(a, .inr (2, [.ref (a + 1), .ref (a + 2), .ref (a + 3), .ref (a + 4), .ref (a + 5), .null, .null, .int 0, .int 0])), (a + 1, .inl (γ.2.1, 64, .inl (fun _ => 0))), (a + 2, .inl (γ.2.1, 64, .inl (fun _ => 0))), (a + 3, .inl (γ.2.1, 64, .inl (fun _ => 0))), (a + 4, .inl (γ.2.1, 64, .inl (fun _ => 0))), (a + 5, .inl (γ.2.1, 64, .inl (fun _ => 0)))] := hD
  refine lv_aload_n hx hb dNames_init_44 rfl (lv_at hl 0 rfl) ?_
  refine lv_sipush (v := 256) hx hb dNames_init_45 (by decide) ?_
  refine cw_newa S hC qw_8e969fb20a hP hD hS hA hz 256 rfl (by omega) (Nat.le_of_ble_eq_true rfl) (Nat.le_of_ble_eq_true rfl) dNames_init_48 (fun H hP hD hS hz hk9 => ?_)
  have hz : H.size = a + 7 := hz
  have hP : va_P γ.1 vwCl [(a, .inr (2, [.ref (a + 1), .ref (a + 2), .ref (a + 3), .ref (a + 4), .ref (a + 5), .null, .null, .int 0, .int 0])), (a + 1, .inl (γ.2.1, 64, .inl (fun _ => 0))), (a + 2, .inl (γ.2.1, 64, .inl (fun _ => 0))), (a + 3, .inl (γ.2.1, 64, .inl (fun _ => 0))), (a + 4, .inl (γ.2.1, 64, .inl (fun _ => 0))), (a + 5, .inl (γ.2.1, 64, .inl (fun _ => 0))), (a + 6, .inl (γ.2.1, 256, .inl (fun _ => 0)))] _ := hP
  have hD : va_D _ [(a, .inr (2, [.ref (a + 1), .ref (a + 2), .ref (a + 3), .ref (a + 4), .ref (a + 5), .null, .null, .int 0, .int 0])), (a + 1, .inl (γ.2.1, 64, .inl (fun _ => 0))), (a + 2, .inl (γ.2.1, 64, .inl (fun _ => 0))), (a + 3, .inl (γ.2.1, 64, .inl (fun _ => 0))), (a + 4, .inl (γ.2.1, 64, .inl (fun _ => 0))), (a + 5, .inl (γ.2.1, 64, .inl (fun _ => 0))), (a + 6, .inl (γ.2.1, 256, .inl (fun _ => 0)))] := hD
  refine st_putF (D := γ.1) (ci := 2) (v := .ref (a + 6)) (ty := .array .int) (C := R_Names) (T := T_Names) (N := 9) (Ts := bs_W0) hx hb hW in_Names t_Names t_Names_ok n_Names hown hC.1 hP hD (fun q h => h) hS 0 rfl rfl 5 (by decide) (hW _ qw_ae9666db7d) (fun _ h9 => h9) rfl hnm rfl (by decide +kernel) rfl rfl (Nat.le_of_ble_eq_true rfl) dNames_init_50 (fun H locs hP hD hS hz9 ho9 => ?_)
  have hz : H.size = a + 7 := hz9.trans hz
  have hP : va_P γ.1 vwCl [(a, .inr (2, [.ref (a + 1), .ref (a + 2), .ref (a + 3), .ref (a + 4), .ref (a + 5), .ref (a + 6), .null, .int 0, .int 0])), (a + 1, .inl (γ.2.1, 64, .inl (fun _ => 0))), (a + 2, .inl (γ.2.1, 64, .inl (fun _ => 0))), (a + 3, .inl (γ.2.1, 64, .inl (fun _ => 0))), (a + 4, .inl (γ.2.1, 64, .inl (fun _ => 0))), (a + 5, .inl (γ.2.1, 64, .inl (fun _ => 0))), (a + 6, .inl (γ.2.1, 256, .inl (fun _ => 0)))] _ := hP
  have hD : va_D _ [(a, .inr (2, [.ref (a + 1), .ref (a + 2), .ref (a + 3), .ref (a + 4), .ref (a + 5), .ref (a + 6), .null, .int 0, .int 0])), (a + 1, .inl (γ.2.1, 64, .inl (fun _ => 0))), (a + 2, .inl (γ.2.1, 64, .inl (fun _ => 0))), (a + 3, .inl (γ.2.1, 64, .inl (fun _ => 0))), (a + 4, .inl (γ.2.1, 64, .inl (fun _ => 0))), (a + 5, .inl (γ.2.1, 64, .inl (fun _ => 0))), (a + 6, .inl (γ.2.1, 256, .inl (fun _ => 0)))] := hD
  refine lv_aload_n hx hb dNames_init_53 rfl (lv_at hl 0 rfl) ?_
  refine lv_bipush (v := 32) hx hb dNames_init_54 (by decide) ?_
  refine cw_newa S hC qw_8e969fb20a hP hD hS hA hz 32 rfl (by omega) (Nat.le_of_ble_eq_true rfl) (Nat.le_of_ble_eq_true rfl) dNames_init_56 (fun H hP hD hS hz hk9 => ?_)
  have hz : H.size = a + 8 := hz
  have hP : va_P γ.1 vwCl [(a, .inr (2, [.ref (a + 1), .ref (a + 2), .ref (a + 3), .ref (a + 4), .ref (a + 5), .ref (a + 6), .null, .int 0, .int 0])), (a + 1, .inl (γ.2.1, 64, .inl (fun _ => 0))), (a + 2, .inl (γ.2.1, 64, .inl (fun _ => 0))), (a + 3, .inl (γ.2.1, 64, .inl (fun _ => 0))), (a + 4, .inl (γ.2.1, 64, .inl (fun _ => 0))), (a + 5, .inl (γ.2.1, 64, .inl (fun _ => 0))), (a + 6, .inl (γ.2.1, 256, .inl (fun _ => 0))), (a + 7, .inl (γ.2.1, 32, .inl (fun _ => 0)))] _ := hP
  have hD : va_D _ [(a, .inr (2, [.ref (a + 1), .ref (a + 2), .ref (a + 3), .ref (a + 4), .ref (a + 5), .ref (a + 6), .null, .int 0, .int 0])), (a + 1, .inl (γ.2.1, 64, .inl (fun _ => 0))), (a + 2, .inl (γ.2.1, 64, .inl (fun _ => 0))), (a + 3, .inl (γ.2.1, 64, .inl (fun _ => 0))), (a + 4, .inl (γ.2.1, 64, .inl (fun _ => 0))), (a + 5, .inl (γ.2.1, 64, .inl (fun _ => 0))), (a + 6, .inl (γ.2.1, 256, .inl (fun _ => 0))), (a + 7, .inl (γ.2.1, 32, .inl (fun _ => 0)))] := hD
  refine st_putF (D := γ.1) (ci := 2) (v := .ref (a + 7)) (ty := .array .int) (C := R_Names) (T := T_Names) (N := 9) (Ts := bs_W0) hx hb hW in_Names t_Names t_Names_ok n_Names hown hC.1 hP hD (fun q h => h) hS 0 rfl rfl 6 (by decide) (hW _ qw_c2f4fc63da) (fun _ h9 => h9) rfl hnm rfl (by decide +kernel) rfl rfl (Nat.le_of_ble_eq_true rfl) dNames_init_58 (fun H locs hP hD hS hz9 ho9 => ?_)
  have hz : H.size = a + 8 := hz9.trans hz
  have hP : va_P γ.1 vwCl [(a, .inr (2, [.ref (a + 1), .ref (a + 2), .ref (a + 3), .ref (a + 4), .ref (a + 5), .ref (a + 6), .ref (a + 7), .int 0, .int 0])), (a + 1, .inl (γ.2.1, 64, .inl (fun _ => 0))), (a + 2, .inl (γ.2.1, 64, .inl (fun _ => 0))), (a + 3, .inl (γ.2.1, 64, .inl (fun _ => 0))), (a + 4, .inl (γ.2.1, 64, .inl (fun _ => 0))), (a + 5, .inl (γ.2.1, 64, .inl (fun _ => 0))), (a + 6, .inl (γ.2.1, 256, .inl (fun _ => 0))), (a + 7, .inl (γ.2.1, 32, .inl (fun _ => 0)))] _ := hP
  have hD : va_D _ [(a, .inr (2, [.ref (a + 1), .ref (a + 2), .ref (a + 3), .ref (a + 4), .ref (a + 5), .ref (a + 6), .ref (a + 7), .int 0, .int 0])), (a + 1, .inl (γ.2.1, 64, .inl (fun _ => 0))), (a + 2, .inl (γ.2.1, 64, .inl (fun _ => 0))), (a + 3, .inl (γ.2.1, 64, .inl (fun _ => 0))), (a + 4, .inl (γ.2.1, 64, .inl (fun _ => 0))), (a + 5, .inl (γ.2.1, 64, .inl (fun _ => 0))), (a + 6, .inl (γ.2.1, 256, .inl (fun _ => 0))), (a + 7, .inl (γ.2.1, 32, .inl (fun _ => 0)))] := hD
  refine lv_aload_n hx hb dNames_init_61 rfl (lv_at hl 0 rfl) ?_
  refine lv_iconst (v := 0) hx hb dNames_init_62 (by decide) ?_
  refine st_put (D := γ.1) (ci := 2) (v := .int 0) (ty := .int) (C := R_Names) (T := T_Names) (N := 9) (Ts := bs_W0) hx hb hW in_Names t_Names t_Names_ok n_Names hown hC.1 hP hD (fun q h => h) hS 0 rfl rfl 7 (by decide) (hW _ qw_171adcdf9f) (fun _ h9 => h9) rfl (by decide +kernel) rfl rfl (Nat.le_of_ble_eq_true rfl) dNames_init_63 (fun H locs hP hD hS hz9 ho9 => ?_)
  have hz : H.size = a + 8 := hz9.trans hz
  have hP : va_P γ.1 vwCl [(a, .inr (2, [.ref (a + 1), .ref (a + 2), .ref (a + 3), .ref (a + 4), .ref (a + 5), .ref (a + 6), .ref (a + 7), .int 0, .int 0])), (a + 1, .inl (γ.2.1, 64, .inl (fun _ => 0))), (a + 2, .inl (γ.2.1, 64, .inl (fun _ => 0))), (a + 3, .inl (γ.2.1, 64, .inl (fun _ => 0))), (a + 4, .inl (γ.2.1, 64, .inl (fun _ => 0))), (a + 5, .inl (γ.2.1, 64, .inl (fun _ => 0))), (a + 6, .inl (γ.2.1, 256, .inl (fun _ => 0))), (a + 7, .inl (γ.2.1, 32, .inl (fun _ => 0)))] _ := hP
  have hD : va_D _ [(a, .inr (2, [.ref (a + 1), .ref (a + 2), .ref (a + 3), .ref (a + 4), .ref (a + 5), .ref (a + 6), .ref (a + 7), .int 0, .int 0])), (a + 1, .inl (γ.2.1, 64, .inl (fun _ => 0))), (a + 2, .inl (γ.2.1, 64, .inl (fun _ => 0))), (a + 3, .inl (γ.2.1, 64, .inl (fun _ => 0))), (a + 4, .inl (γ.2.1, 64, .inl (fun _ => 0))), (a + 5, .inl (γ.2.1, 64, .inl (fun _ => 0))), (a + 6, .inl (γ.2.1, 256, .inl (fun _ => 0))), (a + 7, .inl (γ.2.1, 32, .inl (fun _ => 0)))] := hD
  refine lv_aload_n hx hb dNames_init_66 rfl (lv_at hl 0 rfl) ?_
  refine lv_iconst (v := 1) hx hb dNames_init_67 (by decide) ?_
  refine st_put (D := γ.1) (ci := 2) (v := .int 1) (ty := .int) (C := R_Names) (T := T_Names) (N := 9) (Ts := bs_W0) hx hb hW in_Names t_Names t_Names_ok n_Names hown hC.1 hP hD (fun q h => h) hS 0 rfl rfl 8 (by decide) (hW _ qw_40882965f2) (fun _ h9 => h9) rfl (by decide +kernel) rfl rfl (Nat.le_of_ble_eq_true rfl) dNames_init_68 (fun H locs hP hD hS hz9 ho9 => ?_)
  have hz : H.size = a + 8 := hz9.trans hz
  have hP : va_P γ.1 vwCl [(a, .inr (2, [.ref (a + 1), .ref (a + 2), .ref (a + 3), .ref (a + 4), .ref (a + 5), .ref (a + 6), .ref (a + 7), .int 0, .int 1])), (a + 1, .inl (γ.2.1, 64, .inl (fun _ => 0))), (a + 2, .inl (γ.2.1, 64, .inl (fun _ => 0))), (a + 3, .inl (γ.2.1, 64, .inl (fun _ => 0))), (a + 4, .inl (γ.2.1, 64, .inl (fun _ => 0))), (a + 5, .inl (γ.2.1, 64, .inl (fun _ => 0))), (a + 6, .inl (γ.2.1, 256, .inl (fun _ => 0))), (a + 7, .inl (γ.2.1, 32, .inl (fun _ => 0)))] _ := hP
  have hD : va_D _ [(a, .inr (2, [.ref (a + 1), .ref (a + 2), .ref (a + 3), .ref (a + 4), .ref (a + 5), .ref (a + 6), .ref (a + 7), .int 0, .int 1])), (a + 1, .inl (γ.2.1, 64, .inl (fun _ => 0))), (a + 2, .inl (γ.2.1, 64, .inl (fun _ => 0))), (a + 3, .inl (γ.2.1, 64, .inl (fun _ => 0))), (a + 4, .inl (γ.2.1, 64, .inl (fun _ => 0))), (a + 5, .inl (γ.2.1, 64, .inl (fun _ => 0))), (a + 6, .inl (γ.2.1, 256, .inl (fun _ => 0))), (a + 7, .inl (γ.2.1, 32, .inl (fun _ => 0)))] := hD
  refine lv_aload_n hx hb dNames_init_71 rfl (lv_at hl 0 rfl) ?_
  refine va_get (D := γ.1) (ci := 2) (v := .ref (a + 6)) (C := R_Names) (T := T_Names) (N := 9) (Ts := bs_W0) hx hb hW in_Names hown hC.1 hP 0 rfl rfl 5 (by decide) (hW _ qw_ae9666db7d) (fun _ h9 => h9) rfl dNames_init_72 ?_
  refine lv_iconst (v := (-1)) hx hb dNames_init_75 (by decide) ?_
  refine mu_Sv (rest := []) S hC (A := fun q => q = a + 6 ∨ a + 8 ≤ q) (fun q h => Or.inr (by omega)) (fun q h => by omega) hS (c_fill l γ _ (a + 6) 256 (-1) (Nat.le_of_ble_eq_true rfl)) mejArrays_fill qw_afaed44251 ⟨(Nat.le_of_ble_eq_true rfl), (Nat.le_of_ble_eq_true rfl)⟩ ⟨_, ⟨_, rfl⟩, one_P (hP 6 _ rfl), one_D (Or.inl rfl)⟩ rfl hl.1 rfl (Nat.le_of_ble_eq_true rfl) dNames_init_76 ⟨(Nat.le_of_ble_eq_true rfl), (Nat.le_of_ble_eq_true rfl)⟩ (fun H1 locs hF9 hS hz9 hk9 => ?_)
  obtain ⟨_, ⟨f9, rfl⟩, hF9, -⟩ := hF9
  have hP := wr_set hP hD (i := 6) rfl (fun q h1 h2 => hk9 q h1 (by omega)) (hF9 0 _ rfl)
  have hD := wr_D (e1 := .inl (γ.2.1, 256, .inl f9)) hD (i := 6) rfl
  have hz9 : a + 8 ≤ H1.size := by omega
  refine W.cs (cells' := 0 + 1 + 1 + 1 + 1 + 1 + 1 + 1) (slots' := 0 + 64 + 64 + 64 + 64 + 64 + 256 + 32) rfl rfl ?_
  have hP : va_P γ.1 vwCl [(a, .inr (2, [.ref (a + 1), .ref (a + 2), .ref (a + 3), .ref (a + 4), .ref (a + 5), .ref (a + 6), .ref (a + 7), .int 0, .int 1])), (a + 1, .inl (γ.2.1, 64, .inl (fun _ => 0))), (a + 2, .inl (γ.2.1, 64, .inl (fun _ => 0))), (a + 3, .inl (γ.2.1, 64, .inl (fun _ => 0))), (a + 4, .inl (γ.2.1, 64, .inl (fun _ => 0))), (a + 5, .inl (γ.2.1, 64, .inl (fun _ => 0))), (a + 6, .inl (γ.2.1, 256, .inl f9)), (a + 7, .inl (γ.2.1, 32, .inl (fun _ => 0)))] _ := hP
  have hD : va_D _ [(a, .inr (2, [.ref (a + 1), .ref (a + 2), .ref (a + 3), .ref (a + 4), .ref (a + 5), .ref (a + 6), .ref (a + 7), .int 0, .int 1])), (a + 1, .inl (γ.2.1, 64, .inl (fun _ => 0))), (a + 2, .inl (γ.2.1, 64, .inl (fun _ => 0))), (a + 3, .inl (γ.2.1, 64, .inl (fun _ => 0))), (a + 4, .inl (γ.2.1, 64, .inl (fun _ => 0))), (a + 5, .inl (γ.2.1, 64, .inl (fun _ => 0))), (a + 6, .inl (γ.2.1, 256, .inl f9)), (a + 7, .inl (γ.2.1, 32, .inl (fun _ => 0)))] := hD
  have hI : cmp γ (fNames γ a 0 1 64) (fun q => a ≤ q) H1 := ⟨_, ⟨a + 1, a + 2, a + 3, a + 4, a + 5, a + 6, a + 7, fun _ => 0, fun _ => 0, fun _ => 0, fun _ => 0, fun _ => 0, f9, fun _ => 0, rfl, (Nat.le_of_ble_eq_true rfl), (Nat.le_of_ble_eq_true rfl), (Nat.le_of_ble_eq_true rfl), (Nat.le_of_ble_eq_true rfl), (Nat.le_of_ble_eq_true rfl), fun _ => 0, fun _ _ => rfl, fun _ _ _ _ => Nat.le_refl _, fun _ _ => Nat.le_refl _⟩, hP, hD⟩
  refine lv_iconst (v := 0) hx hb dNames_init_79 (by decide) ?_
  refine lv_istore_n (lv' := [(1, .int 0), (0, .ref a)]) hx hb dNames_init_80 rfl hl (by decide) rfl (fun ls hl => ?_)
  exact J81 _ ls _ _ 0 0 hI hS hz9 ⟨(Nat.le_of_ble_eq_true rfl), rfl⟩ rfl (lv_sub hl [1, 0] rfl)
