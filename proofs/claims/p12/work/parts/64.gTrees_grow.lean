theorem qn_1ebf0e5650 : (Cond.methodLinkNest R_Trees 39 yTypeBook_withRoom "TypeBook") ∈ lw_tbl := in_tables_1_2 (List.mem_of_getElem? (i := 190) rfl)
theorem qw_986a639143 : (Cond.fieldLink R_Trees 28 R_Trees "roots" "I") ∈ bs_W0 := bs_in (in_tables_1_1 (List.mem_of_getElem? (i := 44) rfl)) rfl
set_option maxHeartbeats 4000000 in
set_option maxRecDepth 100000 in
theorem c_Trees_grow (l : Launch) (γ : gE) (Z : Nat → Prop) (a N rt L : Nat) (x1 : Int32) (x2 : Int32) (k3 : Nat) (hN : N ≤ 4000) (hk3 : k3 ≤ rt) : MU l yTrees_grow bTrees_grow 7 (some .int) 3 103 (0 + wc L (N + 1) + wc L (N + 1) + wc L (N + 1) + wc L (N + 1)) (0 + wm L (N + 1) + wm L (N + 1) + wm L (N + 1) + wm L (N + 1)) [.ref a, .int x1, .int x2, .int (nI k3)] γ Z (cmp γ (fTrees γ a N rt L) Z) (mQi (fun r H => r = nI N ∧ cmp γ (fTrees γ a (N + 1) (rt + 1 - k3) (wl L (N + 1))) Z H) Z) := by
  refine mu_openI (by decide) (Nat.le_of_ble_eq_true rfl) ?_
  intro p e s m args below meth c ls Q S hnm hC hA hI hE hl
  obtain ⟨hx, hb, hml, hown, hW⟩ := id S
  have hS : va_S Z s.heap s.heap [] := va_S.rf
  have hl : lv_has ls 7 [(0, .ref a), (1, .int x1), (2, .int x2), (3, .int (nI k3))] := hl
  have hb9 : L ≤ 8192 ∧ N ≤ L := (by obtain ⟨w9, ⟨_, _, _, _, _, _, _, _, _, h1, h2, _⟩, _, _⟩ := id hI; exact ⟨h2, h1⟩)
  have hwl := wl_ok (n := L) (N := N + 1) (by omega) (by omega)
  have J73 : ∀ (N73 : Nat) (ls : Array Slot) (H : Heap) (locs : List Loc) (i1 : Int32) (i2 : Int32) (i3 : Int32) (i4 : Int32) (i5 : Int32) (i6 : Int32), cmp γ (fTrees γ a N rt (wl L (N + 1))) Z H → va_S Z s.heap H locs → (i3 = nI k3) → (i4 = nI N) → (¬ i5 < 0) → (2147483647 - i6.toInt).toNat = N73 → lv_has ls 7 [(0, .ref a), (1, .int i1), (2, .int i2), (3, .int i3), (4, .int i4), (5, .int i5), (6, .int i6)] → W p l e (bs_rm 3 (0 + wc L (N + 1) + wc L (N + 1) + wc L (N + 1) + wc L (N + 1)) (0 + wm L (N + 1) + wm L (N + 1) + wm L (N + 1) + wm L (N + 1)) 103) s m args below meth c H locs (0 + wc L (N + 1) + wc L (N + 1) + wc L (N + 1) + wc L (N + 1)) (0 + wm L (N + 1) + wm L (N + 1) + wm L (N + 1) + wm L (N + 1)) Q (F0 m 73 ls []) := by
    intro N73
    induction N73 using Nat.strongRecOn with
    | ind N73 ih73 =>
      intro ls H locs i1 i2 i3 i4 i5 i6 hI hS ei3 ei4 hq5 hm73 hl
      refine lv_iload hx hb dTrees_grow_73 (lv_at hl 6 rfl) ?_
      refine lv_iload_n hx hb dTrees_grow_75 rfl (lv_at hl 3 rfl) ?_
      refine lv_icmp_ge (tgt := 95) hx hb dTrees_grow_76 (by decide) (fun c23 => ?_) (fun c23 => ?_)
      · refine lv_aload_n hx hb dTrees_grow_95 rfl (lv_at hl 0 rfl) ?_
        obtain ⟨ws_4, ⟨b0_4, b1_4, b2_4, b3_4, f0_4, f1_4, f2_4, f3_4, rfl, h1_4, h2_4, h3_4, h4_4, h5_4, h6_4⟩, hP, hD⟩ := id hI
        have hP : va_P γ.1 vwCl [(a, .inr (1, [.ref b0_4, .ref b1_4, .ref b2_4, .ref b3_4, .int (nI N), .int (nI rt)])), (b0_4, .inl (γ.2.1, wl L (N + 1), .inl f0_4)), (b1_4, .inl (γ.2.1, wl L (N + 1), .inl f1_4)), (b2_4, .inl (γ.2.1, wl L (N + 1), .inl f2_4)), (b3_4, .inl (γ.2.1, wl L (N + 1), .inl f3_4))] _ := hP
        have hD : va_D Z [(a, .inr (1, [.ref b0_4, .ref b1_4, .ref b2_4, .ref b3_4, .int (nI N), .int (nI rt)])), (b0_4, .inl (γ.2.1, wl L (N + 1), .inl f0_4)), (b1_4, .inl (γ.2.1, wl L (N + 1), .inl f1_4)), (b2_4, .inl (γ.2.1, wl L (N + 1), .inl f2_4)), (b3_4, .inl (γ.2.1, wl L (N + 1), .inl f3_4))] := hD
        refine va_get (D := γ.1) (ci := 1) (v := .ref b0_4) (C := R_Trees) (T := T_Trees) (N := 6) (Ts := bs_W0) hx hb hW in_Trees hown hC.1 hP 0 rfl rfl 0 (by decide) (hW _ qw_ffd9ddfb57) (fun _ h9 => h9) rfl dTrees_grow_96 ?_
        refine lv_iload hx hb dTrees_grow_99 (lv_at hl 4 rfl) ?_
        refine lv_iload_n hx hb dTrees_grow_101 rfl (lv_at hl 1 rfl) ?_
        refine va_iast hx hb hC.1 hP hD hS 1 0 rfl rfl (by rw [ei4]; exact in_sz (by omega) (by omega)) dTrees_grow_102 (fun H locs hP hD hS => ?_)
        obtain ⟨u24, eu24⟩ : ∃ z : Nat → Int32, z = upd f0_4 (i4).toNatClampNeg i1 := ⟨_, rfl⟩
        rw [← eu24] at hP hD
        have hP : va_P γ.1 vwCl [(a, .inr (1, [.ref b0_4, .ref b1_4, .ref b2_4, .ref b3_4, .int (nI N), .int (nI rt)])), (b0_4, .inl (γ.2.1, wl L (N + 1), .inl u24)), (b1_4, .inl (γ.2.1, wl L (N + 1), .inl f1_4)), (b2_4, .inl (γ.2.1, wl L (N + 1), .inl f2_4)), (b3_4, .inl (γ.2.1, wl L (N + 1), .inl f3_4))] _ := hP
        have hD : va_D Z [(a, .inr (1, [.ref b0_4, .ref b1_4, .ref b2_4, .ref b3_4, .int (nI N), .int (nI rt)])), (b0_4, .inl (γ.2.1, wl L (N + 1), .inl u24)), (b1_4, .inl (γ.2.1, wl L (N + 1), .inl f1_4)), (b2_4, .inl (γ.2.1, wl L (N + 1), .inl f2_4)), (b3_4, .inl (γ.2.1, wl L (N + 1), .inl f3_4))] := hD
        refine lv_aload_n hx hb dTrees_grow_103 rfl (lv_at hl 0 rfl) ?_
        refine va_get (D := γ.1) (ci := 1) (v := .ref b1_4) (C := R_Trees) (T := T_Trees) (N := 6) (Ts := bs_W0) hx hb hW in_Trees hown hC.1 hP 0 rfl rfl 1 (by decide) (hW _ qw_fdd50f5077) (fun _ h9 => h9) rfl dTrees_grow_104 ?_
        refine lv_iload hx hb dTrees_grow_107 (lv_at hl 4 rfl) ?_
        refine lv_iload_n hx hb dTrees_grow_109 rfl (lv_at hl 2 rfl) ?_
        refine va_iast hx hb hC.1 hP hD hS 2 0 rfl rfl (by rw [ei4]; exact in_sz (by omega) (by omega)) dTrees_grow_110 (fun H locs hP hD hS => ?_)
        obtain ⟨u25, eu25⟩ : ∃ z : Nat → Int32, z = upd f1_4 (i4).toNatClampNeg i2 := ⟨_, rfl⟩
        rw [← eu25] at hP hD
        have hP : va_P γ.1 vwCl [(a, .inr (1, [.ref b0_4, .ref b1_4, .ref b2_4, .ref b3_4, .int (nI N), .int (nI rt)])), (b0_4, .inl (γ.2.1, wl L (N + 1), .inl u24)), (b1_4, .inl (γ.2.1, wl L (N + 1), .inl u25)), (b2_4, .inl (γ.2.1, wl L (N + 1), .inl f2_4)), (b3_4, .inl (γ.2.1, wl L (N + 1), .inl f3_4))] _ := hP
        have hD : va_D Z [(a, .inr (1, [.ref b0_4, .ref b1_4, .ref b2_4, .ref b3_4, .int (nI N), .int (nI rt)])), (b0_4, .inl (γ.2.1, wl L (N + 1), .inl u24)), (b1_4, .inl (γ.2.1, wl L (N + 1), .inl u25)), (b2_4, .inl (γ.2.1, wl L (N + 1), .inl f2_4)), (b3_4, .inl (γ.2.1, wl L (N + 1), .inl f3_4))] := hD
        refine lv_aload_n hx hb dTrees_grow_111 rfl (lv_at hl 0 rfl) ?_
        refine va_get (D := γ.1) (ci := 1) (v := .ref b2_4) (C := R_Trees) (T := T_Trees) (N := 6) (Ts := bs_W0) hx hb hW in_Trees hown hC.1 hP 0 rfl rfl 2 (by decide) (hW _ qw_887ccc8355) (fun _ h9 => h9) rfl dTrees_grow_112 ?_
        refine lv_iload hx hb dTrees_grow_115 (lv_at hl 4 rfl) ?_
        refine lv_iload_n hx hb dTrees_grow_117 rfl (lv_at hl 3 rfl) ?_
        refine va_iast hx hb hC.1 hP hD hS 3 0 rfl rfl (by rw [ei4]; exact in_sz (by omega) (by omega)) dTrees_grow_118 (fun H locs hP hD hS => ?_)
        obtain ⟨u26, eu26⟩ : ∃ z : Nat → Int32, z = upd f2_4 (i4).toNatClampNeg i3 := ⟨_, rfl⟩
        rw [← eu26] at hP hD
        have hP : va_P γ.1 vwCl [(a, .inr (1, [.ref b0_4, .ref b1_4, .ref b2_4, .ref b3_4, .int (nI N), .int (nI rt)])), (b0_4, .inl (γ.2.1, wl L (N + 1), .inl u24)), (b1_4, .inl (γ.2.1, wl L (N + 1), .inl u25)), (b2_4, .inl (γ.2.1, wl L (N + 1), .inl u26)), (b3_4, .inl (γ.2.1, wl L (N + 1), .inl f3_4))] _ := hP
        have hD : va_D Z [(a, .inr (1, [.ref b0_4, .ref b1_4, .ref b2_4, .ref b3_4, .int (nI N), .int (nI rt)])), (b0_4, .inl (γ.2.1, wl L (N + 1), .inl u24)), (b1_4, .inl (γ.2.1, wl L (N + 1), .inl u25)), (b2_4, .inl (γ.2.1, wl L (N + 1), .inl u26)), (b3_4, .inl (γ.2.1, wl L (N + 1), .inl f3_4))] := hD
        refine lv_aload_n hx hb dTrees_grow_119 rfl (lv_at hl 0 rfl) ?_
        refine va_get (D := γ.1) (ci := 1) (v := .ref b3_4) (C := R_Trees) (T := T_Trees) (N := 6) (Ts := bs_W0) hx hb hW in_Trees hown hC.1 hP 0 rfl rfl 3 (by decide) (hW _ qw_3682c3415f) (fun _ h9 => h9) rfl dTrees_grow_120 ?_
        refine lv_iload hx hb dTrees_grow_123 (lv_at hl 4 rfl) ?_
        refine lv_iload hx hb dTrees_grow_125 (lv_at hl 5 rfl) ?_
        refine va_iast hx hb hC.1 hP hD hS 4 0 rfl rfl (by rw [ei4]; exact in_sz (by omega) (by omega)) dTrees_grow_127 (fun H locs hP hD hS => ?_)
        obtain ⟨u27, eu27⟩ : ∃ z : Nat → Int32, z = upd f3_4 (i4).toNatClampNeg i5 := ⟨_, rfl⟩
        rw [← eu27] at hP hD
        have hP : va_P γ.1 vwCl [(a, .inr (1, [.ref b0_4, .ref b1_4, .ref b2_4, .ref b3_4, .int (nI N), .int (nI rt)])), (b0_4, .inl (γ.2.1, wl L (N + 1), .inl u24)), (b1_4, .inl (γ.2.1, wl L (N + 1), .inl u25)), (b2_4, .inl (γ.2.1, wl L (N + 1), .inl u26)), (b3_4, .inl (γ.2.1, wl L (N + 1), .inl u27))] _ := hP
        have hD : va_D Z [(a, .inr (1, [.ref b0_4, .ref b1_4, .ref b2_4, .ref b3_4, .int (nI N), .int (nI rt)])), (b0_4, .inl (γ.2.1, wl L (N + 1), .inl u24)), (b1_4, .inl (γ.2.1, wl L (N + 1), .inl u25)), (b2_4, .inl (γ.2.1, wl L (N + 1), .inl u26)), (b3_4, .inl (γ.2.1, wl L (N + 1), .inl u27))] := hD
        refine lv_aload_n hx hb dTrees_grow_128 rfl (lv_at hl 0 rfl) ?_
        refine lv_dup hx hb dTrees_grow_129 rfl ?_
        refine va_get (D := γ.1) (ci := 1) (v := .int (nI N)) (C := R_Trees) (T := T_Trees) (N := 6) (Ts := bs_W0) hx hb hW in_Trees hown hC.1 hP 0 rfl rfl 4 (by decide) (hW _ qw_adbe8dbe65) (fun _ h9 => h9) rfl dTrees_grow_130 ?_
        refine lv_topi (fun v28 ev28 => ?_)
        refine lv_iconst (v := 1) hx hb dTrees_grow_133 (by decide) ?_
        refine lv_iadd hx hb dTrees_grow_134 ?_
        refine lv_topi (fun v29 ev29 => ?_)
        have ev29 : v29 = nI (N + 1) := by rw [ev29, ev28]; exact nI_add (N) (1)
        obtain rfl : v29 = nI (N + 1) := ev29
        refine va_put (D := γ.1) (ci := 1) (v := .int (nI (N + 1))) (ty := .int) (C := R_Trees) (T := T_Trees) (N := 6) (Ts := bs_W0) hx hb hW in_Trees t_Trees t_Trees_ok n_Trees hown hC.1 hP hD hS 0 rfl rfl 4 (by decide) (hW _ qw_adbe8dbe65) (fun _ h9 => h9) rfl (by decide +kernel) rfl rfl (Nat.le_of_ble_eq_true rfl) dTrees_grow_135 (fun H locs hP hD hS => ?_)
        have hP : va_P γ.1 vwCl [(a, .inr (1, [.ref b0_4, .ref b1_4, .ref b2_4, .ref b3_4, .int (nI (N + 1)), .int (nI rt)])), (b0_4, .inl (γ.2.1, wl L (N + 1), .inl u24)), (b1_4, .inl (γ.2.1, wl L (N + 1), .inl u25)), (b2_4, .inl (γ.2.1, wl L (N + 1), .inl u26)), (b3_4, .inl (γ.2.1, wl L (N + 1), .inl u27))] _ := hP
        have hD : va_D Z [(a, .inr (1, [.ref b0_4, .ref b1_4, .ref b2_4, .ref b3_4, .int (nI (N + 1)), .int (nI rt)])), (b0_4, .inl (γ.2.1, wl L (N + 1), .inl u24)), (b1_4, .inl (γ.2.1, wl L (N + 1), .inl u25)), (b2_4, .inl (γ.2.1, wl L (N + 1), .inl u26)), (b3_4, .inl (γ.2.1, wl L (N + 1), .inl u27))] := hD
        refine lv_aload_n hx hb dTrees_grow_138 rfl (lv_at hl 0 rfl) ?_
        refine lv_dup hx hb dTrees_grow_139 rfl ?_
        refine va_get (D := γ.1) (ci := 1) (v := .int (nI rt)) (C := R_Trees) (T := T_Trees) (N := 6) (Ts := bs_W0) hx hb hW in_Trees hown hC.1 hP 0 rfl rfl 5 (by decide) (hW _ qw_986a639143) (fun _ h9 => h9) rfl dTrees_grow_140 ?_
        refine lv_topi (fun v30 ev30 => ?_)
        refine lv_iconst (v := 1) hx hb dTrees_grow_143 (by decide) ?_
        refine lv_iload_n hx hb dTrees_grow_144 rfl (lv_at hl 3 rfl) ?_
        refine lv_isub hx hb dTrees_grow_145 ?_
        refine lv_topi (fun v31 ev31 => ?_)
        refine lv_iadd hx hb dTrees_grow_146 ?_
        refine lv_topi (fun v32 ev32 => ?_)
        obtain rfl : v32 = nI (rt + 1 - k3) := (by rw [ev32, ev30, ev31, ei3]; exact roots_eq hk3)
        refine va_put (D := γ.1) (ci := 1) (v := .int (nI (rt + 1 - k3))) (ty := .int) (C := R_Trees) (T := T_Trees) (N := 6) (Ts := bs_W0) hx hb hW in_Trees t_Trees t_Trees_ok n_Trees hown hC.1 hP hD hS 0 rfl rfl 5 (by decide) (hW _ qw_986a639143) (fun _ h9 => h9) rfl (by decide +kernel) rfl rfl (Nat.le_of_ble_eq_true rfl) dTrees_grow_147 (fun H locs hP hD hS => ?_)
        have hP : va_P γ.1 vwCl [(a, .inr (1, [.ref b0_4, .ref b1_4, .ref b2_4, .ref b3_4, .int (nI (N + 1)), .int (nI (rt + 1 - k3))])), (b0_4, .inl (γ.2.1, wl L (N + 1), .inl u24)), (b1_4, .inl (γ.2.1, wl L (N + 1), .inl u25)), (b2_4, .inl (γ.2.1, wl L (N + 1), .inl u26)), (b3_4, .inl (γ.2.1, wl L (N + 1), .inl u27))] _ := hP
        have hD : va_D Z [(a, .inr (1, [.ref b0_4, .ref b1_4, .ref b2_4, .ref b3_4, .int (nI (N + 1)), .int (nI (rt + 1 - k3))])), (b0_4, .inl (γ.2.1, wl L (N + 1), .inl u24)), (b1_4, .inl (γ.2.1, wl L (N + 1), .inl u25)), (b2_4, .inl (γ.2.1, wl L (N + 1), .inl u26)), (b3_4, .inl (γ.2.1, wl L (N + 1), .inl u27))] := hD
        refine lv_iload hx hb dTrees_grow_150 (lv_at hl 4 rfl) ?_
        have hI : cmp γ (fTrees γ a (N + 1) (rt + 1 - k3) (wl L (N + 1))) Z _ := ⟨_, ⟨b0_4, b1_4, b2_4, b3_4, u24, u25, u26, u27, rfl, (by omega), (by omega), (by omega), (by omega), (by rw [eu27]; exact upd_ok (by rw [ei4]; exact nI_clamp (by omega)) hq5 h5_4), (by rw [eu26]; exact cn_ok (by rw [ei4]; exact nI_clamp (by omega)) ⟨k3, by omega, ei3⟩ h6_4)⟩, hP, hD⟩
        have hQ := hE _ _ i4 152 ls hS ⟨ei4, hI⟩ dTrees_grow_152
        refine W.cs (cells' := 0 + wc L (N + 1) + wc L (N + 1) + wc L (N + 1) + wc L (N + 1)) (slots' := 0 + wm L (N + 1) + wm L (N + 1) + wm L (N + 1) + wm L (N + 1)) (by omega) (by omega) ?_
        exact hQ
      · refine lv_aload_n hx hb dTrees_grow_79 rfl (lv_at hl 0 rfl) ?_
        refine lv_iload hx hb dTrees_grow_80 (lv_at hl 5 rfl) ?_
        refine lv_iconst (v := 1) hx hb dTrees_grow_82 (by decide) ?_
        refine lv_isub hx hb dTrees_grow_83 ?_
        refine lv_topi (fun v33 ev33 => ?_)
        obtain ⟨ws_5, ⟨b0_5, b1_5, b2_5, b3_5, f0_5, f1_5, f2_5, f3_5, rfl, h1_5, h2_5, h3_5, h4_5, h5_5, h6_5⟩, hP, hD⟩ := id hI
        have hP : va_P γ.1 vwCl [(a, .inr (1, [.ref b0_5, .ref b1_5, .ref b2_5, .ref b3_5, .int (nI N), .int (nI rt)])), (b0_5, .inl (γ.2.1, wl L (N + 1), .inl f0_5)), (b1_5, .inl (γ.2.1, wl L (N + 1), .inl f1_5)), (b2_5, .inl (γ.2.1, wl L (N + 1), .inl f2_5)), (b3_5, .inl (γ.2.1, wl L (N + 1), .inl f3_5))] _ := hP
        have hD : va_D Z [(a, .inr (1, [.ref b0_5, .ref b1_5, .ref b2_5, .ref b3_5, .int (nI N), .int (nI rt)])), (b0_5, .inl (γ.2.1, wl L (N + 1), .inl f0_5)), (b1_5, .inl (γ.2.1, wl L (N + 1), .inl f1_5)), (b2_5, .inl (γ.2.1, wl L (N + 1), .inl f2_5)), (b3_5, .inl (γ.2.1, wl L (N + 1), .inl f3_5))] := hD
        refine pu_Vi (rest := []) S hC (c_Trees_firstOf l γ Z a N rt (wl L (N + 1)) v33) meTrees_firstOf qw_e019bcaac8 ⟨Nat.le_of_ble_eq_true rfl, Nat.le_of_ble_eq_true rfl⟩ (va_recv hC.1 hP (ci := 1) (q0 := 0) rfl rfl) hI rfl hl.1 rfl (Nat.le_of_ble_eq_true rfl) dTrees_grow_84 ⟨(by show _ ≤ 0 + wc L (N + 1) + wc L (N + 1) + wc L (N + 1) + wc L (N + 1); omega), (by show _ ≤ 0 + wm L (N + 1) + wm L (N + 1) + wm L (N + 1) + wm L (N + 1); omega)⟩ (fun r34 hr34 => ?_)
        refine lv_istore (lv' := [(5, .int r34), (0, .ref a), (1, .int i1), (2, .int i2), (3, .int i3), (4, .int i4), (6, .int i6)]) hx hb dTrees_grow_87 hl (by decide) rfl (fun ls hl => ?_)
        obtain ⟨v35, ev35⟩ : ∃ y : Int32, y = i6 + 1 := ⟨_, rfl⟩
        refine lv_iinc (v := v35) (lv' := [(6, .int v35), (5, .int r34), (0, .ref a), (1, .int i1), (2, .int i2), (3, .int i3), (4, .int i4)]) hx hb dTrees_grow_89 hl (k := 6) rfl (by rw [ev35]; rfl) (by decide) rfl (fun ls hl => ?_)
        refine lv_goto (tgt := 73) hx hb dTrees_grow_92 (by decide) ?_
        refine W.cs (cells' := 0 + wc L (N + 1) + wc L (N + 1) + wc L (N + 1) + wc L (N + 1)) (slots' := 0 + wm L (N + 1) + wm L (N + 1) + wm L (N + 1) + wm L (N + 1)) (by omega) (by omega) ?_
        exact ih73 _ (by have q1 : i6.toInt < 2147483647 := (by first | exact (mu_up (k := i6) (by assumption)).2 | assumption); have q2 := mu_lt q1; rw [← ev35] at q2; omega) ls _ _ i1 i2 i3 i4 r34 v35 hI hS (by first | assumption | exact ei3 | rfl) (by first | assumption | exact ei4 | rfl) (by first | assumption | (rw [er34]; exact nI_pos (by omega))) rfl (lv_sub hl [2, 3, 4, 5, 6, 1, 0] rfl)
  refine lv_aload_n hx hb dTrees_grow_0 rfl (lv_at hl 0 rfl) ?_
  obtain ⟨ws_6, ⟨b0_6, b1_6, b2_6, b3_6, f0_6, f1_6, f2_6, f3_6, rfl, h1_6, h2_6, h3_6, h4_6, h5_6, h6_6⟩, hP, hD⟩ := id hI
  have hP : va_P γ.1 vwCl [(a, .inr (1, [.ref b0_6, .ref b1_6, .ref b2_6, .ref b3_6, .int (nI N), .int (nI rt)])), (b0_6, .inl (γ.2.1, L, .inl f0_6)), (b1_6, .inl (γ.2.1, L, .inl f1_6)), (b2_6, .inl (γ.2.1, L, .inl f2_6)), (b3_6, .inl (γ.2.1, L, .inl f3_6))] _ := hP
  have hD : va_D Z [(a, .inr (1, [.ref b0_6, .ref b1_6, .ref b2_6, .ref b3_6, .int (nI N), .int (nI rt)])), (b0_6, .inl (γ.2.1, L, .inl f0_6)), (b1_6, .inl (γ.2.1, L, .inl f1_6)), (b2_6, .inl (γ.2.1, L, .inl f2_6)), (b3_6, .inl (γ.2.1, L, .inl f3_6))] := hD
  refine va_get (D := γ.1) (ci := 1) (v := .int (nI N)) (C := R_Trees) (T := T_Trees) (N := 6) (Ts := bs_W0) hx hb hW in_Trees hown hC.1 hP 0 rfl rfl 4 (by decide) (hW _ qw_adbe8dbe65) (fun _ h9 => h9) rfl dTrees_grow_1 ?_
  refine lv_topi (fun v36 ev36 => ?_)
  refine lv_istore (lv' := [(4, .int v36), (0, .ref a), (1, .int x1), (2, .int x2), (3, .int (nI k3))]) hx hb dTrees_grow_4 hl (by decide) rfl (fun ls hl => ?_)
  refine lv_aload_n hx hb dTrees_grow_6 rfl (lv_at hl 1 rfl) ?_
  refine lv_aload_n hx hb dTrees_grow_7 rfl (lv_at hl 1 rfl) ?_
  refine va_get (D := γ.1) (ci := 1) (v := .ref b0_6) (C := R_Trees) (T := T_Trees) (N := 6) (Ts := bs_W0) hx hb hW in_Trees hown hC.1 hP 0 rfl rfl 0 (by decide) (hW _ qw_ffd9ddfb57) (fun _ h9 => h9) rfl dTrees_grow_8 ?_
  refine lv_iload hx hb dTrees_grow_11 (lv_at hl 0 rfl) ?_
  refine lv_iconst (v := 1) hx hb dTrees_grow_13 (by decide) ?_
  refine lv_iadd hx hb dTrees_grow_14 ?_
  refine lv_topi (fun v37 ev37 => ?_)
  have ev37 : v37 = nI (N + 1) := by rw [ev37, ev36]; exact nI_add (N) (1)
  obtain rfl : v37 = nI (N + 1) := ev37
  refine mu_Tr (rest := [.ref a]) S hC (fun q h => hA q (Nat.le_trans hS.1 h)) (fun q h => h) hS (c_withRoom l γ Z b0_6 L (N + 1) f0_6 _ (by omega) (by omega)) meTypeBook_withRoom (hC.2 _ qn_1ebf0e5650 rfl) ⟨Nat.le_of_ble_eq_true rfl, Nat.le_of_ble_eq_true rfl⟩ ⟨rfl, hD.2 1 _ rfl, hP 1 _ rfl⟩ rfl hl.1 rfl (Nat.le_of_ble_eq_true rfl) dTrees_grow_15 ⟨(by show _ ≤ 0 + wc L (N + 1) + wc L (N + 1) + wc L (N + 1) + wc L (N + 1); omega), (by show _ ≤ 0 + wm L (N + 1) + wm L (N + 1) + wm L (N + 1) + wm L (N + 1); omega)⟩ (fun r38 Hr38 locs hPO hS _ _ => ?_)
  obtain ⟨g1r38, g2r38, g3r38, g4r38, fr38, g5r38, g6r38⟩ := hPO
  obtain ⟨hP, hD⟩ := wr_join (i := 1) hP hD rfl g4r38 g5r38 g1r38 g2r38
  have hP : va_P γ.1 vwCl [(a, .inr (1, [.ref b0_6, .ref b1_6, .ref b2_6, .ref b3_6, .int (nI N), .int (nI rt)])), (r38, .inl (γ.2.1, wl L (N + 1), .inl fr38)), (b1_6, .inl (γ.2.1, L, .inl f1_6)), (b2_6, .inl (γ.2.1, L, .inl f2_6)), (b3_6, .inl (γ.2.1, L, .inl f3_6))] _ := hP
  have hD : va_D Z [(a, .inr (1, [.ref b0_6, .ref b1_6, .ref b2_6, .ref b3_6, .int (nI N), .int (nI rt)])), (r38, .inl (γ.2.1, wl L (N + 1), .inl fr38)), (b1_6, .inl (γ.2.1, L, .inl f1_6)), (b2_6, .inl (γ.2.1, L, .inl f2_6)), (b3_6, .inl (γ.2.1, L, .inl f3_6))] := hD
  refine va_put (D := γ.1) (ci := 1) (v := .ref r38) (ty := .array .int) (C := R_Trees) (T := T_Trees) (N := 6) (Ts := bs_W0) hx hb hW in_Trees t_Trees t_Trees_ok n_Trees hown hC.1 hP hD hS 0 rfl rfl 0 (by decide) (hW _ qw_ffd9ddfb57) (fun _ h9 => h9) rfl (by decide +kernel) rfl rfl (Nat.le_of_ble_eq_true rfl) dTrees_grow_18 (fun H locs hP hD hS => ?_)
  have hP : va_P γ.1 vwCl [(a, .inr (1, [.ref r38, .ref b1_6, .ref b2_6, .ref b3_6, .int (nI N), .int (nI rt)])), (r38, .inl (γ.2.1, wl L (N + 1), .inl fr38)), (b1_6, .inl (γ.2.1, L, .inl f1_6)), (b2_6, .inl (γ.2.1, L, .inl f2_6)), (b3_6, .inl (γ.2.1, L, .inl f3_6))] _ := hP
  have hD : va_D Z [(a, .inr (1, [.ref r38, .ref b1_6, .ref b2_6, .ref b3_6, .int (nI N), .int (nI rt)])), (r38, .inl (γ.2.1, wl L (N + 1), .inl fr38)), (b1_6, .inl (γ.2.1, L, .inl f1_6)), (b2_6, .inl (γ.2.1, L, .inl f2_6)), (b3_6, .inl (γ.2.1, L, .inl f3_6))] := hD
  refine lv_aload_n hx hb dTrees_grow_21 rfl (lv_at hl 1 rfl) ?_
  refine lv_aload_n hx hb dTrees_grow_22 rfl (lv_at hl 1 rfl) ?_
  refine va_get (D := γ.1) (ci := 1) (v := .ref b1_6) (C := R_Trees) (T := T_Trees) (N := 6) (Ts := bs_W0) hx hb hW in_Trees hown hC.1 hP 0 rfl rfl 1 (by decide) (hW _ qw_fdd50f5077) (fun _ h9 => h9) rfl dTrees_grow_23 ?_
  refine lv_iload hx hb dTrees_grow_26 (lv_at hl 0 rfl) ?_
  refine lv_iconst (v := 1) hx hb dTrees_grow_28 (by decide) ?_
  refine lv_iadd hx hb dTrees_grow_29 ?_
  refine lv_topi (fun v39 ev39 => ?_)
  have ev39 : v39 = nI (N + 1) := by rw [ev39, ev36]; exact nI_add (N) (1)
  obtain rfl : v39 = nI (N + 1) := ev39
  refine mu_Tr (rest := [.ref a]) S hC (fun q h => hA q (Nat.le_trans hS.1 h)) (fun q h => h) hS (c_withRoom l γ Z b1_6 L (N + 1) f1_6 _ (by omega) (by omega)) meTypeBook_withRoom (hC.2 _ qn_1ebf0e5650 rfl) ⟨Nat.le_of_ble_eq_true rfl, Nat.le_of_ble_eq_true rfl⟩ ⟨rfl, hD.2 2 _ rfl, hP 2 _ rfl⟩ rfl hl.1 rfl (Nat.le_of_ble_eq_true rfl) dTrees_grow_30 ⟨(by show _ ≤ 0 + wc L (N + 1) + wc L (N + 1) + wc L (N + 1) + wc L (N + 1); omega), (by show _ ≤ 0 + wm L (N + 1) + wm L (N + 1) + wm L (N + 1) + wm L (N + 1); omega)⟩ (fun r40 Hr40 locs hPO hS _ _ => ?_)
  obtain ⟨g1r40, g2r40, g3r40, g4r40, fr40, g5r40, g6r40⟩ := hPO
  obtain ⟨hP, hD⟩ := wr_join (i := 2) hP hD rfl g4r40 g5r40 g1r40 g2r40
  have hP : va_P γ.1 vwCl [(a, .inr (1, [.ref r38, .ref b1_6, .ref b2_6, .ref b3_6, .int (nI N), .int (nI rt)])), (r38, .inl (γ.2.1, wl L (N + 1), .inl fr38)), (r40, .inl (γ.2.1, wl L (N + 1), .inl fr40)), (b2_6, .inl (γ.2.1, L, .inl f2_6)), (b3_6, .inl (γ.2.1, L, .inl f3_6))] _ := hP
  have hD : va_D Z [(a, .inr (1, [.ref r38, .ref b1_6, .ref b2_6, .ref b3_6, .int (nI N), .int (nI rt)])), (r38, .inl (γ.2.1, wl L (N + 1), .inl fr38)), (r40, .inl (γ.2.1, wl L (N + 1), .inl fr40)), (b2_6, .inl (γ.2.1, L, .inl f2_6)), (b3_6, .inl (γ.2.1, L, .inl f3_6))] := hD
  refine va_put (D := γ.1) (ci := 1) (v := .ref r40) (ty := .array .int) (C := R_Trees) (T := T_Trees) (N := 6) (Ts := bs_W0) hx hb hW in_Trees t_Trees t_Trees_ok n_Trees hown hC.1 hP hD hS 0 rfl rfl 1 (by decide) (hW _ qw_fdd50f5077) (fun _ h9 => h9) rfl (by decide +kernel) rfl rfl (Nat.le_of_ble_eq_true rfl) dTrees_grow_33 (fun H locs hP hD hS => ?_)
  have hP : va_P γ.1 vwCl [(a, .inr (1, [.ref r38, .ref r40, .ref b2_6, .ref b3_6, .int (nI N), .int (nI rt)])), (r38, .inl (γ.2.1, wl L (N + 1), .inl fr38)), (r40, .inl (γ.2.1, wl L (N + 1), .inl fr40)), (b2_6, .inl (γ.2.1, L, .inl f2_6)), (b3_6, .inl (γ.2.1, L, .inl f3_6))] _ := hP
  have hD : va_D Z [(a, .inr (1, [.ref r38, .ref r40, .ref b2_6, .ref b3_6, .int (nI N), .int (nI rt)])), (r38, .inl (γ.2.1, wl L (N + 1), .inl fr38)), (r40, .inl (γ.2.1, wl L (N + 1), .inl fr40)), (b2_6, .inl (γ.2.1, L, .inl f2_6)), (b3_6, .inl (γ.2.1, L, .inl f3_6))] := hD
  refine lv_aload_n hx hb dTrees_grow_36 rfl (lv_at hl 1 rfl) ?_
  refine lv_aload_n hx hb dTrees_grow_37 rfl (lv_at hl 1 rfl) ?_
  refine va_get (D := γ.1) (ci := 1) (v := .ref b2_6) (C := R_Trees) (T := T_Trees) (N := 6) (Ts := bs_W0) hx hb hW in_Trees hown hC.1 hP 0 rfl rfl 2 (by decide) (hW _ qw_887ccc8355) (fun _ h9 => h9) rfl dTrees_grow_38 ?_
  refine lv_iload hx hb dTrees_grow_41 (lv_at hl 0 rfl) ?_
  refine lv_iconst (v := 1) hx hb dTrees_grow_43 (by decide) ?_
  refine lv_iadd hx hb dTrees_grow_44 ?_
  refine lv_topi (fun v41 ev41 => ?_)
  have ev41 : v41 = nI (N + 1) := by rw [ev41, ev36]; exact nI_add (N) (1)
  obtain rfl : v41 = nI (N + 1) := ev41
  refine mu_Tr (rest := [.ref a]) S hC (fun q h => hA q (Nat.le_trans hS.1 h)) (fun q h => h) hS (c_withRoom l γ Z b2_6 L (N + 1) f2_6 _ (by omega) (by omega)) meTypeBook_withRoom (hC.2 _ qn_1ebf0e5650 rfl) ⟨Nat.le_of_ble_eq_true rfl, Nat.le_of_ble_eq_true rfl⟩ ⟨rfl, hD.2 3 _ rfl, hP 3 _ rfl⟩ rfl hl.1 rfl (Nat.le_of_ble_eq_true rfl) dTrees_grow_45 ⟨(by show _ ≤ 0 + wc L (N + 1) + wc L (N + 1) + wc L (N + 1) + wc L (N + 1); omega), (by show _ ≤ 0 + wm L (N + 1) + wm L (N + 1) + wm L (N + 1) + wm L (N + 1); omega)⟩ (fun r42 Hr42 locs hPO hS _ _ => ?_)
  obtain ⟨g1r42, g2r42, g3r42, g4r42, fr42, g5r42, g6r42⟩ := hPO
  obtain ⟨hP, hD⟩ := wr_join (i := 3) hP hD rfl g4r42 g5r42 g1r42 g2r42
  have hP : va_P γ.1 vwCl [(a, .inr (1, [.ref r38, .ref r40, .ref b2_6, .ref b3_6, .int (nI N), .int (nI rt)])), (r38, .inl (γ.2.1, wl L (N + 1), .inl fr38)), (r40, .inl (γ.2.1, wl L (N + 1), .inl fr40)), (r42, .inl (γ.2.1, wl L (N + 1), .inl fr42)), (b3_6, .inl (γ.2.1, L, .inl f3_6))] _ := hP
  have hD : va_D Z [(a, .inr (1, [.ref r38, .ref r40, .ref b2_6, .ref b3_6, .int (nI N), .int (nI rt)])), (r38, .inl (γ.2.1, wl L (N + 1), .inl fr38)), (r40, .inl (γ.2.1, wl L (N + 1), .inl fr40)), (r42, .inl (γ.2.1, wl L (N + 1), .inl fr42)), (b3_6, .inl (γ.2.1, L, .inl f3_6))] := hD
  refine va_put (D := γ.1) (ci := 1) (v := .ref r42) (ty := .array .int) (C := R_Trees) (T := T_Trees) (N := 6) (Ts := bs_W0) hx hb hW in_Trees t_Trees t_Trees_ok n_Trees hown hC.1 hP hD hS 0 rfl rfl 2 (by decide) (hW _ qw_887ccc8355) (fun _ h9 => h9) rfl (by decide +kernel) rfl rfl (Nat.le_of_ble_eq_true rfl) dTrees_grow_48 (fun H locs hP hD hS => ?_)
  have hP : va_P γ.1 vwCl [(a, .inr (1, [.ref r38, .ref r40, .ref r42, .ref b3_6, .int (nI N), .int (nI rt)])), (r38, .inl (γ.2.1, wl L (N + 1), .inl fr38)), (r40, .inl (γ.2.1, wl L (N + 1), .inl fr40)), (r42, .inl (γ.2.1, wl L (N + 1), .inl fr42)), (b3_6, .inl (γ.2.1, L, .inl f3_6))] _ := hP
  have hD : va_D Z [(a, .inr (1, [.ref r38, .ref r40, .ref r42, .ref b3_6, .int (nI N), .int (nI rt)])), (r38, .inl (γ.2.1, wl L (N + 1), .inl fr38)), (r40, .inl (γ.2.1, wl L (N + 1), .inl fr40)), (r42, .inl (γ.2.1, wl L (N + 1), .inl fr42)), (b3_6, .inl (γ.2.1, L, .inl f3_6))] := hD
  refine lv_aload_n hx hb dTrees_grow_51 rfl (lv_at hl 1 rfl) ?_
  refine lv_aload_n hx hb dTrees_grow_52 rfl (lv_at hl 1 rfl) ?_
  refine va_get (D := γ.1) (ci := 1) (v := .ref b3_6) (C := R_Trees) (T := T_Trees) (N := 6) (Ts := bs_W0) hx hb hW in_Trees hown hC.1 hP 0 rfl rfl 3 (by decide) (hW _ qw_3682c3415f) (fun _ h9 => h9) rfl dTrees_grow_53 ?_
  refine lv_iload hx hb dTrees_grow_56 (lv_at hl 0 rfl) ?_
  refine lv_iconst (v := 1) hx hb dTrees_grow_58 (by decide) ?_
  refine lv_iadd hx hb dTrees_grow_59 ?_
  refine lv_topi (fun v43 ev43 => ?_)
  have ev43 : v43 = nI (N + 1) := by rw [ev43, ev36]; exact nI_add (N) (1)
  obtain rfl : v43 = nI (N + 1) := ev43
  refine mu_Tr (rest := [.ref a]) S hC (fun q h => hA q (Nat.le_trans hS.1 h)) (fun q h => h) hS (c_withRoom l γ Z b3_6 L (N + 1) f3_6 _ (by omega) (by omega)) meTypeBook_withRoom (hC.2 _ qn_1ebf0e5650 rfl) ⟨Nat.le_of_ble_eq_true rfl, Nat.le_of_ble_eq_true rfl⟩ ⟨rfl, hD.2 4 _ rfl, hP 4 _ rfl⟩ rfl hl.1 rfl (Nat.le_of_ble_eq_true rfl) dTrees_grow_60 ⟨(by show _ ≤ 0 + wc L (N + 1) + wc L (N + 1) + wc L (N + 1) + wc L (N + 1); omega), (by show _ ≤ 0 + wm L (N + 1) + wm L (N + 1) + wm L (N + 1) + wm L (N + 1); omega)⟩ (fun r44 Hr44 locs hPO hS _ _ => ?_)
  obtain ⟨g1r44, g2r44, g3r44, g4r44, fr44, g5r44, g6r44⟩ := hPO
  obtain ⟨hP, hD⟩ := wr_join (i := 4) hP hD rfl g4r44 g5r44 g1r44 g2r44
  have hP : va_P γ.1 vwCl [(a, .inr (1, [.ref r38, .ref r40, .ref r42, .ref b3_6, .int (nI N), .int (nI rt)])), (r38, .inl (γ.2.1, wl L (N + 1), .inl fr38)), (r40, .inl (γ.2.1, wl L (N + 1), .inl fr40)), (r42, .inl (γ.2.1, wl L (N + 1), .inl fr42)), (r44, .inl (γ.2.1, wl L (N + 1), .inl fr44))] _ := hP
  have hD : va_D Z [(a, .inr (1, [.ref r38, .ref r40, .ref r42, .ref b3_6, .int (nI N), .int (nI rt)])), (r38, .inl (γ.2.1, wl L (N + 1), .inl fr38)), (r40, .inl (γ.2.1, wl L (N + 1), .inl fr40)), (r42, .inl (γ.2.1, wl L (N + 1), .inl fr42)), (r44, .inl (γ.2.1, wl L (N + 1), .inl fr44))] := hD
  refine va_put (D := γ.1) (ci := 1) (v := .ref r44) (ty := .array .int) (C := R_Trees) (T := T_Trees) (N := 6) (Ts := bs_W0) hx hb hW in_Trees t_Trees t_Trees_ok n_Trees hown hC.1 hP hD hS 0 rfl rfl 3 (by decide) (hW _ qw_3682c3415f) (fun _ h9 => h9) rfl (by decide +kernel) rfl rfl (Nat.le_of_ble_eq_true rfl) dTrees_grow_63 (fun H locs hP hD hS => ?_)
  have hP : va_P γ.1 vwCl [(a, .inr (1, [.ref r38, .ref r40, .ref r42, .ref r44, .int (nI N), .int (nI rt)])), (r38, .inl (γ.2.1, wl L (N + 1), .inl fr38)), (r40, .inl (γ.2.1, wl L (N + 1), .inl fr40)), (r42, .inl (γ.2.1, wl L (N + 1), .inl fr42)), (r44, .inl (γ.2.1, wl L (N + 1), .inl fr44))] _ := hP
  have hD : va_D Z [(a, .inr (1, [.ref r38, .ref r40, .ref r42, .ref r44, .int (nI N), .int (nI rt)])), (r38, .inl (γ.2.1, wl L (N + 1), .inl fr38)), (r40, .inl (γ.2.1, wl L (N + 1), .inl fr40)), (r42, .inl (γ.2.1, wl L (N + 1), .inl fr42)), (r44, .inl (γ.2.1, wl L (N + 1), .inl fr44))] := hD
  refine lv_iload hx hb dTrees_grow_66 (lv_at hl 0 rfl) ?_
  refine lv_istore (lv' := [(5, .int v36), (4, .int v36), (0, .ref a), (1, .int x1), (2, .int x2), (3, .int (nI k3))]) hx hb dTrees_grow_68 hl (by decide) rfl (fun ls hl => ?_)
  refine lv_iconst (v := 0) hx hb dTrees_grow_70 (by decide) ?_
  refine lv_istore (lv' := [(6, .int 0), (5, .int v36), (4, .int v36), (0, .ref a), (1, .int x1), (2, .int x2), (3, .int (nI k3))]) hx hb dTrees_grow_71 hl (by decide) rfl (fun ls hl => ?_)
  have hI : cmp γ (fTrees γ a N rt (wl L (N + 1))) Z _ := ⟨_, ⟨r38, r40, r42, r44, fr38, fr40, fr42, fr44, rfl, (by omega), (by omega), (by omega), (by omega), (fun k hk => by rw [g6r44 k (by omega)]; exact h5_6 k hk), (fun k hk => by rw [g6r42 k (by omega)]; exact h6_6 k hk)⟩, hP, hD⟩
  refine W.cs (cells' := 0 + wc L (N + 1) + wc L (N + 1) + wc L (N + 1) + wc L (N + 1)) (slots' := 0 + wm L (N + 1) + wm L (N + 1) + wm L (N + 1) + wm L (N + 1)) (by omega) (by omega) ?_
  exact J73 _ ls _ _ x1 x2 (nI k3) v36 v36 0 hI hS (by first | assumption | exact enI k3 | rfl) (by first | assumption | exact ev36 | rfl) (by first | assumption | (rw [ev36]; exact nI_pos (by omega))) rfl (lv_sub hl [3, 4, 5, 6, 2, 1, 0] rfl)

set_option maxHeartbeats 4000000 in
set_option maxRecDepth 100000 in
theorem c_Trees_fell (l : Launch) (γ : gE) (Z : Nat → Prop) (a N rt L : Nat)   : MU l yTrees_fell bTrees_fell 1 (none) 0 0 0 0 [.ref a] γ Z (cmp γ (fTrees γ a N rt L) Z) (mQv (fun H => cmp γ (fTrees γ a 0 0 L) Z H) Z) := by
  refine mu_openV (by decide) (Nat.le_of_ble_eq_true rfl) ?_
  intro p e s m args below meth c ls Q S hnm hC hA hI hE hl
  obtain ⟨hx, hb, hml, hown, hW⟩ := id S
  have hS : va_S Z s.heap s.heap [] := va_S.rf
  have hl : lv_has ls 1 [(0, .ref a)] := hl
  refine lv_aload_n hx hb dTrees_fell_0 rfl (lv_at hl 0 rfl) ?_
  refine lv_iconst (v := 0) hx hb dTrees_fell_1 (by decide) ?_
  obtain ⟨ws_2, ⟨b0_2, b1_2, b2_2, b3_2, f0_2, f1_2, f2_2, f3_2, rfl, h1_2, h2_2, h3_2, h4_2, h5_2, h6_2⟩, hP, hD⟩ := id hI
  have hP : va_P γ.1 vwCl [(a, .inr (1, [.ref b0_2, .ref b1_2, .ref b2_2, .ref b3_2, .int (nI N), .int (nI rt)])), (b0_2, .inl (γ.2.1, L, .inl f0_2)), (b1_2, .inl (γ.2.1, L, .inl f1_2)), (b2_2, .inl (γ.2.1, L, .inl f2_2)), (b3_2, .inl (γ.2.1, L, .inl f3_2))] _ := hP
  have hD : va_D Z [(a, .inr (1, [.ref b0_2, .ref b1_2, .ref b2_2, .ref b3_2, .int (nI N), .int (nI rt)])), (b0_2, .inl (γ.2.1, L, .inl f0_2)), (b1_2, .inl (γ.2.1, L, .inl f1_2)), (b2_2, .inl (γ.2.1, L, .inl f2_2)), (b3_2, .inl (γ.2.1, L, .inl f3_2))] := hD
  refine va_put (D := γ.1) (ci := 1) (v := .int (nI (0))) (ty := .int) (C := R_Trees) (T := T_Trees) (N := 6) (Ts := bs_W0) hx hb hW in_Trees t_Trees t_Trees_ok n_Trees hown hC.1 hP hD hS 0 rfl rfl 4 (by decide) (hW _ qw_adbe8dbe65) (fun _ h9 => h9) rfl (by decide +kernel) rfl rfl (Nat.le_of_ble_eq_true rfl) dTrees_fell_2 (fun H locs hP hD hS => ?_)
  have hP : va_P γ.1 vwCl [(a, .inr (1, [.ref b0_2, .ref b1_2, .ref b2_2, .ref b3_2, .int (nI (0)), .int (nI rt)])), (b0_2, .inl (γ.2.1, L, .inl f0_2)), (b1_2, .inl (γ.2.1, L, .inl f1_2)), (b2_2, .inl (γ.2.1, L, .inl f2_2)), (b3_2, .inl (γ.2.1, L, .inl f3_2))] _ := hP
  have hD : va_D Z [(a, .inr (1, [.ref b0_2, .ref b1_2, .ref b2_2, .ref b3_2, .int (nI (0)), .int (nI rt)])), (b0_2, .inl (γ.2.1, L, .inl f0_2)), (b1_2, .inl (γ.2.1, L, .inl f1_2)), (b2_2, .inl (γ.2.1, L, .inl f2_2)), (b3_2, .inl (γ.2.1, L, .inl f3_2))] := hD
  refine lv_aload_n hx hb dTrees_fell_5 rfl (lv_at hl 0 rfl) ?_
  refine lv_iconst (v := 0) hx hb dTrees_fell_6 (by decide) ?_
  refine va_put (D := γ.1) (ci := 1) (v := .int (nI (0))) (ty := .int) (C := R_Trees) (T := T_Trees) (N := 6) (Ts := bs_W0) hx hb hW in_Trees t_Trees t_Trees_ok n_Trees hown hC.1 hP hD hS 0 rfl rfl 5 (by decide) (hW _ qw_986a639143) (fun _ h9 => h9) rfl (by decide +kernel) rfl rfl (Nat.le_of_ble_eq_true rfl) dTrees_fell_7 (fun H locs hP hD hS => ?_)
  have hP : va_P γ.1 vwCl [(a, .inr (1, [.ref b0_2, .ref b1_2, .ref b2_2, .ref b3_2, .int (nI (0)), .int (nI (0))])), (b0_2, .inl (γ.2.1, L, .inl f0_2)), (b1_2, .inl (γ.2.1, L, .inl f1_2)), (b2_2, .inl (γ.2.1, L, .inl f2_2)), (b3_2, .inl (γ.2.1, L, .inl f3_2))] _ := hP
  have hD : va_D Z [(a, .inr (1, [.ref b0_2, .ref b1_2, .ref b2_2, .ref b3_2, .int (nI (0)), .int (nI (0))])), (b0_2, .inl (γ.2.1, L, .inl f0_2)), (b1_2, .inl (γ.2.1, L, .inl f1_2)), (b2_2, .inl (γ.2.1, L, .inl f2_2)), (b3_2, .inl (γ.2.1, L, .inl f3_2))] := hD
  have hI : cmp γ (fTrees γ a 0 0 L) Z _ := ⟨_, ⟨b0_2, b1_2, b2_2, b3_2, f0_2, f1_2, f2_2, f3_2, rfl, (by omega), (by omega), (by omega), (by omega), (fun k hk => absurd hk (Nat.not_lt_zero k)), (fun k hk => absurd hk (Nat.not_lt_zero k))⟩, hP, hD⟩
  exact hE _ _ 10 ls hS hI dTrees_fell_10

set_option maxHeartbeats 4000000 in
set_option maxRecDepth 100000 in
theorem c_Names_open (l : Launch) (γ : gE) (Z : Nat → Prop) (a N sc L : Nat)  (hsc : sc < 32) : MU l yNames_open bNames_open 1 (none) 0 0 0 0 [.ref a] γ Z (cmp γ (fNames γ a N sc L) Z) (mQv (fun H => cmp γ (fNames γ a N (sc + 1) L) Z H) Z) := by
  refine mu_openV (by decide) (Nat.le_of_ble_eq_true rfl) ?_
  intro p e s m args below meth c ls Q S hnm hC hA hI hE hl
  obtain ⟨hx, hb, hml, hown, hW⟩ := id S
  have hS : va_S Z s.heap s.heap [] := va_S.rf
  have hl : lv_has ls 1 [(0, .ref a)] := hl
  refine lv_aload_n hx hb dNames_open_0 rfl (lv_at hl 0 rfl) ?_
  obtain ⟨ws_2, ⟨b0_2, b1_2, b2_2, b3_2, b4_2, b5_2, b6_2, f0_2, f1_2, f2_2, f3_2, f4_2, f5_2, f6_2, rfl, h1_2, h2_2, h3_2, h4_2, h5_2, h6_2⟩, hP, hD⟩ := id hI
  have hP : va_P γ.1 vwCl [(a, .inr (2, [.ref b0_2, .ref b1_2, .ref b2_2, .ref b3_2, .ref b4_2, .ref b5_2, .ref b6_2, .int (nI N), .int (nI sc)])), (b0_2, .inl (γ.2.1, L, .inl f0_2)), (b1_2, .inl (γ.2.1, L, .inl f1_2)), (b2_2, .inl (γ.2.1, L, .inl f2_2)), (b3_2, .inl (γ.2.1, L, .inl f3_2)), (b4_2, .inl (γ.2.1, L, .inl f4_2)), (b5_2, .inl (γ.2.1, 256, .inl f5_2)), (b6_2, .inl (γ.2.1, 32, .inl f6_2))] _ := hP
  have hD : va_D Z [(a, .inr (2, [.ref b0_2, .ref b1_2, .ref b2_2, .ref b3_2, .ref b4_2, .ref b5_2, .ref b6_2, .int (nI N), .int (nI sc)])), (b0_2, .inl (γ.2.1, L, .inl f0_2)), (b1_2, .inl (γ.2.1, L, .inl f1_2)), (b2_2, .inl (γ.2.1, L, .inl f2_2)), (b3_2, .inl (γ.2.1, L, .inl f3_2)), (b4_2, .inl (γ.2.1, L, .inl f4_2)), (b5_2, .inl (γ.2.1, 256, .inl f5_2)), (b6_2, .inl (γ.2.1, 32, .inl f6_2))] := hD
  refine va_get (D := γ.1) (ci := 2) (v := .int (nI sc)) (C := R_Names) (T := T_Names) (N := 9) (Ts := bs_W0) hx hb hW in_Names hown hC.1 hP 0 rfl rfl 8 (by decide) (hW _ qw_40882965f2) (fun _ h9 => h9) rfl dNames_open_1 ?_
  refine lv_topi (fun v8 ev8 => ?_)
  refine lv_bipush (v := 32) hx hb dNames_open_4 (by decide) ?_
  refine lv_icmp_ge (tgt := 32) hx hb dNames_open_6 (by decide) (fun c9 => ?_) (fun c9 => ?_)
  · exact absurd c9 (by rw [ev8]; exact nI_ge (a := sc) (b := 32) hsc (by omega))
  · refine lv_aload_n hx hb dNames_open_9 rfl (lv_at hl 0 rfl) ?_
    refine va_get (D := γ.1) (ci := 2) (v := .ref b6_2) (C := R_Names) (T := T_Names) (N := 9) (Ts := bs_W0) hx hb hW in_Names hown hC.1 hP 0 rfl rfl 6 (by decide) (hW _ qw_c2f4fc63da) (fun _ h9 => h9) rfl dNames_open_10 ?_
    refine lv_aload_n hx hb dNames_open_13 rfl (lv_at hl 0 rfl) ?_
    refine va_get (D := γ.1) (ci := 2) (v := .int (nI sc)) (C := R_Names) (T := T_Names) (N := 9) (Ts := bs_W0) hx hb hW in_Names hown hC.1 hP 0 rfl rfl 8 (by decide) (hW _ qw_40882965f2) (fun _ h9 => h9) rfl dNames_open_14 ?_
    refine lv_topi (fun v10 ev10 => ?_)
    refine lv_aload_n hx hb dNames_open_17 rfl (lv_at hl 0 rfl) ?_
    refine va_get (D := γ.1) (ci := 2) (v := .int (nI N)) (C := R_Names) (T := T_Names) (N := 9) (Ts := bs_W0) hx hb hW in_Names hown hC.1 hP 0 rfl rfl 7 (by decide) (hW _ qw_171adcdf9f) (fun _ h9 => h9) rfl dNames_open_18 ?_
    refine lv_topi (fun v11 ev11 => ?_)
    refine va_iast hx hb hC.1 hP hD hS 7 0 rfl rfl (by rw [ev10]; exact vp_in_nI (by omega) (by omega)) dNames_open_21 (fun H locs hP hD hS => ?_)
    obtain ⟨u12, eu12⟩ : ∃ z : Nat → Int32, z = upd f6_2 (v10).toNatClampNeg v11 := ⟨_, rfl⟩
    rw [← eu12] at hP hD
    have hP : va_P γ.1 vwCl [(a, .inr (2, [.ref b0_2, .ref b1_2, .ref b2_2, .ref b3_2, .ref b4_2, .ref b5_2, .ref b6_2, .int (nI N), .int (nI sc)])), (b0_2, .inl (γ.2.1, L, .inl f0_2)), (b1_2, .inl (γ.2.1, L, .inl f1_2)), (b2_2, .inl (γ.2.1, L, .inl f2_2)), (b3_2, .inl (γ.2.1, L, .inl f3_2)), (b4_2, .inl (γ.2.1, L, .inl f4_2)), (b5_2, .inl (γ.2.1, 256, .inl f5_2)), (b6_2, .inl (γ.2.1, 32, .inl u12))] _ := hP
    have hD : va_D Z [(a, .inr (2, [.ref b0_2, .ref b1_2, .ref b2_2, .ref b3_2, .ref b4_2, .ref b5_2, .ref b6_2, .int (nI N), .int (nI sc)])), (b0_2, .inl (γ.2.1, L, .inl f0_2)), (b1_2, .inl (γ.2.1, L, .inl f1_2)), (b2_2, .inl (γ.2.1, L, .inl f2_2)), (b3_2, .inl (γ.2.1, L, .inl f3_2)), (b4_2, .inl (γ.2.1, L, .inl f4_2)), (b5_2, .inl (γ.2.1, 256, .inl f5_2)), (b6_2, .inl (γ.2.1, 32, .inl u12))] := hD
    refine lv_aload_n hx hb dNames_open_22 rfl (lv_at hl 0 rfl) ?_
    refine lv_dup hx hb dNames_open_23 rfl ?_
    refine va_get (D := γ.1) (ci := 2) (v := .int (nI sc)) (C := R_Names) (T := T_Names) (N := 9) (Ts := bs_W0) hx hb hW in_Names hown hC.1 hP 0 rfl rfl 8 (by decide) (hW _ qw_40882965f2) (fun _ h9 => h9) rfl dNames_open_24 ?_
    refine lv_topi (fun v13 ev13 => ?_)
    refine lv_iconst (v := 1) hx hb dNames_open_27 (by decide) ?_
    refine lv_iadd hx hb dNames_open_28 ?_
    refine lv_topi (fun v14 ev14 => ?_)
    have ev14 : v14 = nI (sc + 1) := by rw [ev14, ev13]; exact nI_add (sc) (1)
    obtain rfl : v14 = nI (sc + 1) := ev14
    refine va_put (D := γ.1) (ci := 2) (v := .int (nI (sc + 1))) (ty := .int) (C := R_Names) (T := T_Names) (N := 9) (Ts := bs_W0) hx hb hW in_Names t_Names t_Names_ok n_Names hown hC.1 hP hD hS 0 rfl rfl 8 (by decide) (hW _ qw_40882965f2) (fun _ h9 => h9) rfl (by decide +kernel) rfl rfl (Nat.le_of_ble_eq_true rfl) dNames_open_29 (fun H locs hP hD hS => ?_)
    have hP : va_P γ.1 vwCl [(a, .inr (2, [.ref b0_2, .ref b1_2, .ref b2_2, .ref b3_2, .ref b4_2, .ref b5_2, .ref b6_2, .int (nI N), .int (nI (sc + 1))])), (b0_2, .inl (γ.2.1, L, .inl f0_2)), (b1_2, .inl (γ.2.1, L, .inl f1_2)), (b2_2, .inl (γ.2.1, L, .inl f2_2)), (b3_2, .inl (γ.2.1, L, .inl f3_2)), (b4_2, .inl (γ.2.1, L, .inl f4_2)), (b5_2, .inl (γ.2.1, 256, .inl f5_2)), (b6_2, .inl (γ.2.1, 32, .inl u12))] _ := hP
    have hD : va_D Z [(a, .inr (2, [.ref b0_2, .ref b1_2, .ref b2_2, .ref b3_2, .ref b4_2, .ref b5_2, .ref b6_2, .int (nI N), .int (nI (sc + 1))])), (b0_2, .inl (γ.2.1, L, .inl f0_2)), (b1_2, .inl (γ.2.1, L, .inl f1_2)), (b2_2, .inl (γ.2.1, L, .inl f2_2)), (b3_2, .inl (γ.2.1, L, .inl f3_2)), (b4_2, .inl (γ.2.1, L, .inl f4_2)), (b5_2, .inl (γ.2.1, 256, .inl f5_2)), (b6_2, .inl (γ.2.1, 32, .inl u12))] := hD
    have hI : cmp γ (fNames γ a N (sc + 1) L) Z _ := ⟨_, ⟨b0_2, b1_2, b2_2, b3_2, b4_2, b5_2, b6_2, f0_2, f1_2, f2_2, f3_2, f4_2, f5_2, u12, rfl, (by omega), (by omega), (by omega), (by omega), (by omega), (by obtain ⟨g, q1, q2, q3⟩ := h6_2; rw [eu12]; exact st_ok (by rw [ev10]; exact nI_clamp (by omega)) ev11 q1 q2 q3)⟩, hP, hD⟩
    exact hE _ _ 32 ls hS hI dNames_open_32

set_option maxHeartbeats 4000000 in
set_option maxRecDepth 100000 in
theorem c_Names_close (l : Launch) (γ : gE) (Z : Nat → Prop) (a N sc L : Nat)  (s1 : Nat) (hs : sc = s1 + 1) (hs1 : 1 ≤ s1) : MU l yNames_close bNames_close 3 (none) 0 0 0 0 [.ref a] γ Z (cmp γ (fNames γ a N sc L) Z) (mQv (fun H => (∃ j9 : Nat, j9 ≤ N ∧ cmp γ (fNames γ a j9 s1 L) Z H)) Z) := by
  refine mu_openV (by decide) (Nat.le_of_ble_eq_true rfl) ?_
  intro p e s m args below meth c ls Q S hnm hC hA hI hE hl
  obtain ⟨hx, hb, hml, hown, hW⟩ := id S
  have hS : va_S Z s.heap s.heap [] := va_S.rf
  have hl : lv_has ls 3 [(0, .ref a)] := hl
  have hb9 : L ≤ 8192 ∧ N ≤ L ∧ sc ≤ 32 := (by obtain ⟨w9, ⟨_, _, _, _, _, _, _, _, _, _, _, _, _, _, _, h1, h2, _, _, h5, _⟩, _, _⟩ := id hI; exact ⟨h2, h1, h5⟩)
  have J35 : ∀ (N35 : Nat) (ls : Array Slot) (H : Heap) (locs : List Loc) (i1 : Int32) (i2 : Int32), cmp γ (fNamesX γ a N s1 L i1) Z H → va_S Z s.heap H locs → (∃ G : Nat, i1 = nI G ∧ G ≤ N) → (i2.toInt < (N : Int)) → (i2.toInt + 2147483648).toNat = N35 → lv_has ls 3 [(0, .ref a), (1, .int i1), (2, .int i2)] → W p l e (bs_rm 0 0 0 0) s m args below meth c H locs 0 0 Q (F0 m 35 ls []) := by
    intro N35
    induction N35 using Nat.strongRecOn with
    | ind N35 ih35 =>
      intro ls H locs i1 i2 hI hS hq1 hq2 hm35 hl
      refine lv_iload_n hx hb dNames_close_35 rfl (lv_at hl 2 rfl) ?_
      refine lv_iload_n hx hb dNames_close_36 rfl (lv_at hl 1 rfl) ?_
      refine lv_icmp_lt (tgt := 67) hx hb dNames_close_37 (by decide) (fun c15 => ?_) (fun c15 => ?_)
      · obtain ⟨G, eG, hG⟩ := id hq1
        refine lv_aload_n hx hb dNames_close_67 rfl (lv_at hl 0 rfl) ?_
        refine lv_iload_n hx hb dNames_close_68 rfl (lv_at hl 1 rfl) ?_
        obtain ⟨ws_4, ⟨b0_4, b1_4, b2_4, b3_4, b4_4, b5_4, b6_4, f0_4, f1_4, f2_4, f3_4, f4_4, f5_4, f6_4, rfl, h1_4, h2_4, h3_4, h4_4, h5_4, h6_4⟩, hP, hD⟩ := id hI
        have hP : va_P γ.1 vwCl [(a, .inr (2, [.ref b0_4, .ref b1_4, .ref b2_4, .ref b3_4, .ref b4_4, .ref b5_4, .ref b6_4, .int (nI N), .int (nI s1)])), (b0_4, .inl (γ.2.1, L, .inl f0_4)), (b1_4, .inl (γ.2.1, L, .inl f1_4)), (b2_4, .inl (γ.2.1, L, .inl f2_4)), (b3_4, .inl (γ.2.1, L, .inl f3_4)), (b4_4, .inl (γ.2.1, L, .inl f4_4)), (b5_4, .inl (γ.2.1, 256, .inl f5_4)), (b6_4, .inl (γ.2.1, 32, .inl f6_4))] _ := hP
        have hD : va_D Z [(a, .inr (2, [.ref b0_4, .ref b1_4, .ref b2_4, .ref b3_4, .ref b4_4, .ref b5_4, .ref b6_4, .int (nI N), .int (nI s1)])), (b0_4, .inl (γ.2.1, L, .inl f0_4)), (b1_4, .inl (γ.2.1, L, .inl f1_4)), (b2_4, .inl (γ.2.1, L, .inl f2_4)), (b3_4, .inl (γ.2.1, L, .inl f3_4)), (b4_4, .inl (γ.2.1, L, .inl f4_4)), (b5_4, .inl (γ.2.1, 256, .inl f5_4)), (b6_4, .inl (γ.2.1, 32, .inl f6_4))] := hD
        obtain rfl : i1 = nI (G) := eG
        refine va_put (D := γ.1) (ci := 2) (v := .int (nI (G))) (ty := .int) (C := R_Names) (T := T_Names) (N := 9) (Ts := bs_W0) hx hb hW in_Names t_Names t_Names_ok n_Names hown hC.1 hP hD hS 0 rfl rfl 7 (by decide) (hW _ qw_171adcdf9f) (fun _ h9 => h9) rfl (by decide +kernel) rfl rfl (Nat.le_of_ble_eq_true rfl) dNames_close_69 (fun H locs hP hD hS => ?_)
        have hP : va_P γ.1 vwCl [(a, .inr (2, [.ref b0_4, .ref b1_4, .ref b2_4, .ref b3_4, .ref b4_4, .ref b5_4, .ref b6_4, .int (nI (G)), .int (nI s1)])), (b0_4, .inl (γ.2.1, L, .inl f0_4)), (b1_4, .inl (γ.2.1, L, .inl f1_4)), (b2_4, .inl (γ.2.1, L, .inl f2_4)), (b3_4, .inl (γ.2.1, L, .inl f3_4)), (b4_4, .inl (γ.2.1, L, .inl f4_4)), (b5_4, .inl (γ.2.1, 256, .inl f5_4)), (b6_4, .inl (γ.2.1, 32, .inl f6_4))] _ := hP
        have hD : va_D Z [(a, .inr (2, [.ref b0_4, .ref b1_4, .ref b2_4, .ref b3_4, .ref b4_4, .ref b5_4, .ref b6_4, .int (nI (G)), .int (nI s1)])), (b0_4, .inl (γ.2.1, L, .inl f0_4)), (b1_4, .inl (γ.2.1, L, .inl f1_4)), (b2_4, .inl (γ.2.1, L, .inl f2_4)), (b3_4, .inl (γ.2.1, L, .inl f3_4)), (b4_4, .inl (γ.2.1, L, .inl f4_4)), (b5_4, .inl (γ.2.1, 256, .inl f5_4)), (b6_4, .inl (γ.2.1, 32, .inl f6_4))] := hD
        have hI : cmp γ (fNames γ a G s1 L) Z _ := ⟨_, ⟨b0_4, b1_4, b2_4, b3_4, b4_4, b5_4, b6_4, f0_4, f1_4, f2_4, f3_4, f4_4, f5_4, f6_4, rfl, (by omega), (by omega), (by omega), (by omega), (by omega), (by obtain ⟨g, G2, e2, q0, q1, q2, q3⟩ := h6_4; obtain rfl : G = G2 := (nI_eq (by omega) (by omega)).mp e2; exact ⟨g, q1, q2, q3⟩)⟩, hP, hD⟩
        exact hE _ _ 72 ls hS ⟨G, hG, hI⟩ dNames_close_72
      · obtain ⟨G, eG, hG⟩ := id hq1
        obtain ⟨hin9, hge2⟩ := rng_ok (L := L) eG hG (by assumption) hq2 hb9.2.1 hb9.1
        refine lv_aload_n hx hb dNames_close_40 rfl (lv_at hl 0 rfl) ?_
        obtain ⟨ws_5, ⟨b0_5, b1_5, b2_5, b3_5, b4_5, b5_5, b6_5, f0_5, f1_5, f2_5, f3_5, f4_5, f5_5, f6_5, rfl, h1_5, h2_5, h3_5, h4_5, h5_5, h6_5⟩, hP, hD⟩ := id hI
        have hP : va_P γ.1 vwCl [(a, .inr (2, [.ref b0_5, .ref b1_5, .ref b2_5, .ref b3_5, .ref b4_5, .ref b5_5, .ref b6_5, .int (nI N), .int (nI s1)])), (b0_5, .inl (γ.2.1, L, .inl f0_5)), (b1_5, .inl (γ.2.1, L, .inl f1_5)), (b2_5, .inl (γ.2.1, L, .inl f2_5)), (b3_5, .inl (γ.2.1, L, .inl f3_5)), (b4_5, .inl (γ.2.1, L, .inl f4_5)), (b5_5, .inl (γ.2.1, 256, .inl f5_5)), (b6_5, .inl (γ.2.1, 32, .inl f6_5))] _ := hP
        have hD : va_D Z [(a, .inr (2, [.ref b0_5, .ref b1_5, .ref b2_5, .ref b3_5, .ref b4_5, .ref b5_5, .ref b6_5, .int (nI N), .int (nI s1)])), (b0_5, .inl (γ.2.1, L, .inl f0_5)), (b1_5, .inl (γ.2.1, L, .inl f1_5)), (b2_5, .inl (γ.2.1, L, .inl f2_5)), (b3_5, .inl (γ.2.1, L, .inl f3_5)), (b4_5, .inl (γ.2.1, L, .inl f4_5)), (b5_5, .inl (γ.2.1, 256, .inl f5_5)), (b6_5, .inl (γ.2.1, 32, .inl f6_5))] := hD
        refine va_get (D := γ.1) (ci := 2) (v := .ref b5_5) (C := R_Names) (T := T_Names) (N := 9) (Ts := bs_W0) hx hb hW in_Names hown hC.1 hP 0 rfl rfl 5 (by decide) (hW _ qw_ae9666db7d) (fun _ h9 => h9) rfl dNames_close_41 ?_
        refine lv_aload_n hx hb dNames_close_44 rfl (lv_at hl 0 rfl) ?_
        refine va_get (D := γ.1) (ci := 2) (v := .ref b0_5) (C := R_Names) (T := T_Names) (N := 9) (Ts := bs_W0) hx hb hW in_Names hown hC.1 hP 0 rfl rfl 0 (by decide) (hW _ qw_a8d4a716ae) (fun _ h9 => h9) rfl dNames_close_45 ?_
        refine lv_iload_n hx hb dNames_close_48 rfl (lv_at hl 2 rfl) ?_
        refine va_iald hx hb hC.1 hP 1 0 rfl rfl hin9 dNames_close_49 ?_
        refine lv_topi (fun v16 ev16 => ?_)
        refine lv_sipush (v := 255) hx hb dNames_close_50 (by decide) ?_
        refine lv_iand hx hb dNames_close_53 ?_
        refine lv_topi (fun v17 ev17 => ?_)
        refine lv_aload_n hx hb dNames_close_54 rfl (lv_at hl 0 rfl) ?_
        refine va_get (D := γ.1) (ci := 2) (v := .ref b4_5) (C := R_Names) (T := T_Names) (N := 9) (Ts := bs_W0) hx hb hW in_Names hown hC.1 hP 0 rfl rfl 4 (by decide) (hW _ qw_ddfb92ec41) (fun _ h9 => h9) rfl dNames_close_55 ?_
        refine lv_iload_n hx hb dNames_close_58 rfl (lv_at hl 2 rfl) ?_
        refine va_iald hx hb hC.1 hP 5 0 rfl rfl hin9 dNames_close_59 ?_
        refine lv_topi (fun v18 ev18 => ?_)
        refine va_iast hx hb hC.1 hP hD hS 6 0 rfl rfl (by rw [ev17]; exact pk_andIn _ 8 (by decide) (by decide)) dNames_close_60 (fun H locs hP hD hS => ?_)
        obtain ⟨u19, eu19⟩ : ∃ z : Nat → Int32, z = upd f5_5 (v17).toNatClampNeg v18 := ⟨_, rfl⟩
        rw [← eu19] at hP hD
        have hP : va_P γ.1 vwCl [(a, .inr (2, [.ref b0_5, .ref b1_5, .ref b2_5, .ref b3_5, .ref b4_5, .ref b5_5, .ref b6_5, .int (nI N), .int (nI s1)])), (b0_5, .inl (γ.2.1, L, .inl f0_5)), (b1_5, .inl (γ.2.1, L, .inl f1_5)), (b2_5, .inl (γ.2.1, L, .inl f2_5)), (b3_5, .inl (γ.2.1, L, .inl f3_5)), (b4_5, .inl (γ.2.1, L, .inl f4_5)), (b5_5, .inl (γ.2.1, 256, .inl u19)), (b6_5, .inl (γ.2.1, 32, .inl f6_5))] _ := hP
        have hD : va_D Z [(a, .inr (2, [.ref b0_5, .ref b1_5, .ref b2_5, .ref b3_5, .ref b4_5, .ref b5_5, .ref b6_5, .int (nI N), .int (nI s1)])), (b0_5, .inl (γ.2.1, L, .inl f0_5)), (b1_5, .inl (γ.2.1, L, .inl f1_5)), (b2_5, .inl (γ.2.1, L, .inl f2_5)), (b3_5, .inl (γ.2.1, L, .inl f3_5)), (b4_5, .inl (γ.2.1, L, .inl f4_5)), (b5_5, .inl (γ.2.1, 256, .inl u19)), (b6_5, .inl (γ.2.1, 32, .inl f6_5))] := hD
        obtain ⟨v20, ev20⟩ : ∃ y : Int32, y = i2 + (-1) := ⟨_, rfl⟩
        refine lv_iinc (v := v20) (lv' := [(2, .int v20), (0, .ref a), (1, .int i1)]) hx hb dNames_close_61 hl (k := 2) rfl (by rw [ev20]; rfl) (by decide) rfl (fun ls hl => ?_)
        refine lv_goto (tgt := 35) hx hb dNames_close_64 (by decide) ?_
        have hI : cmp γ (fNamesX γ a N s1 L i1) Z _ := ⟨_, ⟨b0_5, b1_5, b2_5, b3_5, b4_5, b5_5, b6_5, f0_5, f1_5, f2_5, f3_5, f4_5, u19, f6_5, rfl, (by omega), (by omega), (by omega), (by omega), (by omega), h6_5⟩, hP, hD⟩
        exact ih35 _ (by have q1 : -2147483648 < i2.toInt := (by first | assumption | omega); have q2 := mu_dn q1; rw [← ev20] at q2; omega) ls _ _ i1 v20 hI hS hq1 (dn_lt hge2 ev20 hq2) rfl (lv_sub hl [1, 2, 0] rfl)
  refine lv_aload_n hx hb dNames_close_0 rfl (lv_at hl 0 rfl) ?_
  obtain ⟨ws_6, ⟨b0_6, b1_6, b2_6, b3_6, b4_6, b5_6, b6_6, f0_6, f1_6, f2_6, f3_6, f4_6, f5_6, f6_6, rfl, h1_6, h2_6, h3_6, h4_6, h5_6, h6_6⟩, hP, hD⟩ := id hI
  have hP : va_P γ.1 vwCl [(a, .inr (2, [.ref b0_6, .ref b1_6, .ref b2_6, .ref b3_6, .ref b4_6, .ref b5_6, .ref b6_6, .int (nI N), .int (nI sc)])), (b0_6, .inl (γ.2.1, L, .inl f0_6)), (b1_6, .inl (γ.2.1, L, .inl f1_6)), (b2_6, .inl (γ.2.1, L, .inl f2_6)), (b3_6, .inl (γ.2.1, L, .inl f3_6)), (b4_6, .inl (γ.2.1, L, .inl f4_6)), (b5_6, .inl (γ.2.1, 256, .inl f5_6)), (b6_6, .inl (γ.2.1, 32, .inl f6_6))] _ := hP
  have hD : va_D Z [(a, .inr (2, [.ref b0_6, .ref b1_6, .ref b2_6, .ref b3_6, .ref b4_6, .ref b5_6, .ref b6_6, .int (nI N), .int (nI sc)])), (b0_6, .inl (γ.2.1, L, .inl f0_6)), (b1_6, .inl (γ.2.1, L, .inl f1_6)), (b2_6, .inl (γ.2.1, L, .inl f2_6)), (b3_6, .inl (γ.2.1, L, .inl f3_6)), (b4_6, .inl (γ.2.1, L, .inl f4_6)), (b5_6, .inl (γ.2.1, 256, .inl f5_6)), (b6_6, .inl (γ.2.1, 32, .inl f6_6))] := hD
  refine va_get (D := γ.1) (ci := 2) (v := .int (nI sc)) (C := R_Names) (T := T_Names) (N := 9) (Ts := bs_W0) hx hb hW in_Names hown hC.1 hP 0 rfl rfl 8 (by decide) (hW _ qw_40882965f2) (fun _ h9 => h9) rfl dNames_close_1 ?_
  refine lv_topi (fun v21 ev21 => ?_)
  refine lv_iconst (v := 1) hx hb dNames_close_4 (by decide) ?_
  refine lv_icmp_le (tgt := 72) hx hb dNames_close_5 (by decide) (fun c22 => ?_) (fun c22 => ?_)
  · exact absurd c22 (by rw [ev21, hs]; exact nI_ge (a := 1) (b := s1 + 1) (by omega) (by omega))
  · refine lv_aload_n hx hb dNames_close_8 rfl (lv_at hl 0 rfl) ?_
    refine lv_dup hx hb dNames_close_9 rfl ?_
    refine va_get (D := γ.1) (ci := 2) (v := .int (nI sc)) (C := R_Names) (T := T_Names) (N := 9) (Ts := bs_W0) hx hb hW in_Names hown hC.1 hP 0 rfl rfl 8 (by decide) (hW _ qw_40882965f2) (fun _ h9 => h9) rfl dNames_close_10 ?_
    refine lv_topi (fun v23 ev23 => ?_)
    refine lv_iconst (v := 1) hx hb dNames_close_13 (by decide) ?_
    refine lv_isub hx hb dNames_close_14 ?_
    refine lv_topi (fun v24 ev24 => ?_)
    obtain rfl : v24 = nI (s1) := (by rw [ev24, ev23, hs]; exact nI_pred s1)
    refine va_put (D := γ.1) (ci := 2) (v := .int (nI (s1))) (ty := .int) (C := R_Names) (T := T_Names) (N := 9) (Ts := bs_W0) hx hb hW in_Names t_Names t_Names_ok n_Names hown hC.1 hP hD hS 0 rfl rfl 8 (by decide) (hW _ qw_40882965f2) (fun _ h9 => h9) rfl (by decide +kernel) rfl rfl (Nat.le_of_ble_eq_true rfl) dNames_close_15 (fun H locs hP hD hS => ?_)
    have hP : va_P γ.1 vwCl [(a, .inr (2, [.ref b0_6, .ref b1_6, .ref b2_6, .ref b3_6, .ref b4_6, .ref b5_6, .ref b6_6, .int (nI N), .int (nI (s1))])), (b0_6, .inl (γ.2.1, L, .inl f0_6)), (b1_6, .inl (γ.2.1, L, .inl f1_6)), (b2_6, .inl (γ.2.1, L, .inl f2_6)), (b3_6, .inl (γ.2.1, L, .inl f3_6)), (b4_6, .inl (γ.2.1, L, .inl f4_6)), (b5_6, .inl (γ.2.1, 256, .inl f5_6)), (b6_6, .inl (γ.2.1, 32, .inl f6_6))] _ := hP
    have hD : va_D Z [(a, .inr (2, [.ref b0_6, .ref b1_6, .ref b2_6, .ref b3_6, .ref b4_6, .ref b5_6, .ref b6_6, .int (nI N), .int (nI (s1))])), (b0_6, .inl (γ.2.1, L, .inl f0_6)), (b1_6, .inl (γ.2.1, L, .inl f1_6)), (b2_6, .inl (γ.2.1, L, .inl f2_6)), (b3_6, .inl (γ.2.1, L, .inl f3_6)), (b4_6, .inl (γ.2.1, L, .inl f4_6)), (b5_6, .inl (γ.2.1, 256, .inl f5_6)), (b6_6, .inl (γ.2.1, 32, .inl f6_6))] := hD
    refine lv_aload_n hx hb dNames_close_18 rfl (lv_at hl 0 rfl) ?_
    refine va_get (D := γ.1) (ci := 2) (v := .ref b6_6) (C := R_Names) (T := T_Names) (N := 9) (Ts := bs_W0) hx hb hW in_Names hown hC.1 hP 0 rfl rfl 6 (by decide) (hW _ qw_c2f4fc63da) (fun _ h9 => h9) rfl dNames_close_19 ?_
    refine lv_aload_n hx hb dNames_close_22 rfl (lv_at hl 0 rfl) ?_
    refine va_get (D := γ.1) (ci := 2) (v := .int (nI (s1))) (C := R_Names) (T := T_Names) (N := 9) (Ts := bs_W0) hx hb hW in_Names hown hC.1 hP 0 rfl rfl 8 (by decide) (hW _ qw_40882965f2) (fun _ h9 => h9) rfl dNames_close_23 ?_
    refine lv_topi (fun v25 ev25 => ?_)
    refine va_iald hx hb hC.1 hP 7 0 rfl rfl (by rw [ev25]; exact vp_in_nI (by omega) (by omega)) dNames_close_26 ?_
    refine lv_topi (fun v26 ev26 => ?_)
    refine lv_istore_n (lv' := [(1, .int v26), (0, .ref a)]) hx hb dNames_close_27 rfl hl (by decide) rfl (fun ls hl => ?_)
    refine lv_aload_n hx hb dNames_close_28 rfl (lv_at hl 1 rfl) ?_
    refine va_get (D := γ.1) (ci := 2) (v := .int (nI N)) (C := R_Names) (T := T_Names) (N := 9) (Ts := bs_W0) hx hb hW in_Names hown hC.1 hP 0 rfl rfl 7 (by decide) (hW _ qw_171adcdf9f) (fun _ h9 => h9) rfl dNames_close_29 ?_
    refine lv_topi (fun v27 ev27 => ?_)
    refine lv_iconst (v := 1) hx hb dNames_close_32 (by decide) ?_
    refine lv_isub hx hb dNames_close_33 ?_
    refine lv_topi (fun v28 ev28 => ?_)
    refine lv_istore_n (lv' := [(2, .int v28), (1, .int v26), (0, .ref a)]) hx hb dNames_close_34 rfl hl (by decide) rfl (fun ls hl => ?_)
    have hI : cmp γ (fNamesX γ a N s1 L v26) Z _ := ⟨_, ⟨b0_6, b1_6, b2_6, b3_6, b4_6, b5_6, b6_6, f0_6, f1_6, f2_6, f3_6, f4_6, f5_6, f6_6, rfl, (by omega), (by omega), (by omega), (by omega), (by omega), (by obtain ⟨g, q1, q2, q3⟩ := h6_6; exact ⟨g, g s1, (by rw [ev26, ev25, nI_clamp (by omega)]; exact q1 s1 (by omega)), q3 s1 (by omega), fun k hk => q1 k (by omega), fun i j h h2 => q2 i j h (by omega), fun k hk => q2 k s1 (by omega) (by omega)⟩)⟩, hP, hD⟩
    exact J35 _ ls _ _ v26 v28 hI hS (by obtain ⟨g, q1, q2, q3⟩ := h6_6; exact ⟨g s1, (by rw [ev26, ev25, nI_clamp (by omega)]; exact q1 s1 (by omega)), q3 s1 (by omega)⟩) (by rw [ev28, ev27]; exact pr_lt (by omega)) rfl (lv_sub hl [2, 1, 0] rfl)
theorem qw_d78519f1e2 : (Cond.methodLink R_Rows 9 Lib.Math.max.name) ∈ bs_W0 := bs_in (in_tables_1_1 (List.mem_of_getElem? (i := 170) rfl)) rfl
theorem qw_04147e0ed0 : (Cond.methodLink R_Rows 21 yjArrays_copyOfL) ∈ bs_W0 := bs_in (in_tables_1_2 (List.mem_of_getElem? (i := 208) rfl)) rfl
set_option maxHeartbeats 4000000 in
set_option maxRecDepth 100000 in
theorem c_Rows_makeRoom (l : Launch) (γ : gE) (Z : Nat → Prop) (a M N : Nat) (hN : N ≤ 4096) : MU l yRows_makeRoom bRows_makeRoom 2 none 2 82 (wc M N) (4 * wm M N) [.ref a, .int (nI N)] γ Z (cmp γ (fRows γ a M) Z) (mQv (fun H => cmp γ (fRows γ a (wl M N)) Z H) Z) := by
  refine mu_openV (by decide) (Nat.le_of_ble_eq_true rfl) ?_
  intro p e s m args below meth c ls Q S hnm hC hA hI hE hl
  obtain ⟨hx, hb, hml, hown, hW⟩ := id S
  have hS : va_S Z s.heap s.heap [] := va_S.rf
  have hl : lv_has ls 2 [(0, .ref a), (1, .int (nI N))] := hl
  obtain ⟨ws, ⟨b0, g0, rfl, h1, h2⟩, hP, hD⟩ := id hI
  have hP : va_P γ.1 vwCl [(a, .inr (5, [.ref b0])), (b0, .inl (γ.2.2.1, 4 * M, .inr (.inl g0)))] s.heap := hP
  have hD : va_D Z [(a, .inr (5, [.ref b0])), (b0, .inl (γ.2.2.1, 4 * M, .inr (.inl g0)))] := hD
  have e0 : nI N * 4 = nI (4 * N) := by rw [Nat.mul_comm 4 N]; exact pk_mul N 4
  have em : (2 : Int32) * nI (4 * M) = nI (2 * (4 * M)) := pk_mul 2 (4 * M)
  refine lv_iload_n hx hb dRows_makeRoom_0 rfl (lv_at hl 1 rfl) ?_
  refine lv_iconst (v := 4) hx hb dRows_makeRoom_1 (by decide) ?_
  refine lv_imul hx hb dRows_makeRoom_2 ?_
  rw [e0]
  refine lv_aload_n hx hb dRows_makeRoom_3 rfl (lv_at hl 0 rfl) ?_
  refine va_get (D := γ.1) (ci := 5) (v := .ref b0) (C := R_Rows) (T := T_Rows) (N := 1) (Ts := bs_W0) hx hb hW in_Rows hown hC.1 hP 0 rfl rfl 0 (by decide) (hW _ qw_05e9c8a29d) (fun _ h9 => h9) rfl dRows_makeRoom_4 ?_
  refine va_alen hx hb hC.1 hP 1 1 rfl rfl (v := nI (4 * M)) rfl dRows_makeRoom_7 ?_
  refine lv_icmp_le (tgt := 35) hx hb dRows_makeRoom_8 (by decide) (fun c1 => ?_) (fun c1 => ?_)
  · have hle : N ≤ M := by have := (nI_leI (by omega) (by omega)).mp c1; omega
    have e1 : wc M N = 0 := if_pos hle
    have e2 : wm M N = 0 := if_pos hle
    have e3 : wl M N = M := if_pos hle
    rw [e1, e2] at hE ⊢
    rw [e3] at hE
    exact hE _ _ _ _ hS hI dRows_makeRoom_35
  · have hgt : M < N := by
      rcases Nat.lt_or_ge M N with h | h
      · exact h
      · exact absurd ((nI_leI (a := 4 * N) (b := 4 * M) (by omega) (by omega)).mpr (by omega)) c1
    have e1 : wc M N = 1 := if_neg (by omega)
    have e2 : wm M N = max N (2 * M) := if_neg (by omega)
    have e3 : wl M N = max N (2 * M) := if_neg (by omega)
    rw [e1, e2] at hE ⊢
    rw [e3] at hE
    refine lv_aload_n hx hb dRows_makeRoom_11 rfl (lv_at hl 0 rfl) ?_
    refine lv_aload_n hx hb dRows_makeRoom_12 rfl (lv_at hl 0 rfl) ?_
    refine va_get (D := γ.1) (ci := 5) (v := .ref b0) (C := R_Rows) (T := T_Rows) (N := 1) (Ts := bs_W0) hx hb hW in_Rows hown hC.1 hP 0 rfl rfl 0 (by decide) (hW _ qw_05e9c8a29d) (fun _ h9 => h9) rfl dRows_makeRoom_13 ?_
    refine lv_iload_n hx hb dRows_makeRoom_16 rfl (lv_at hl 1 rfl) ?_
    refine lv_iconst (v := 4) hx hb dRows_makeRoom_17 (by decide) ?_
    refine lv_imul hx hb dRows_makeRoom_18 ?_
    rw [e0]
    refine lv_iconst (v := 2) hx hb dRows_makeRoom_19 (by decide) ?_
    refine lv_aload_n hx hb dRows_makeRoom_20 rfl (lv_at hl 0 rfl) ?_
    refine va_get (D := γ.1) (ci := 5) (v := .ref b0) (C := R_Rows) (T := T_Rows) (N := 1) (Ts := bs_W0) hx hb hW in_Rows hown hC.1 hP 0 rfl rfl 0 (by decide) (hW _ qw_05e9c8a29d) (fun _ h9 => h9) rfl dRows_makeRoom_21 ?_
    refine va_alen hx hb hC.1 hP 1 1 rfl rfl (v := nI (4 * M)) rfl dRows_makeRoom_24 ?_
    refine lv_imul hx hb dRows_makeRoom_25 ?_
    rw [em]
    refine va_mmax (rest := [.ref b0, .ref a]) hx hb (hml.trans hl.1.symm) hown (hW _ qw_d78519f1e2) (hW _ qw_7cc87a9f9b) (hW _ qw_0001fcaade) (hW _ qw_6b973c1ba4) (Nat.le_of_ble_eq_true rfl) (Nat.le_of_ble_eq_true rfl) (Nat.zero_le _) (Nat.zero_le _) dRows_makeRoom_26 ?_
    have ek : (if nI (4 * N) < nI (2 * (4 * M)) then nI (2 * (4 * M)) else nI (4 * N)) = nI (4 * max N (2 * M)) := by
      by_cases h : 4 * N < 2 * (4 * M)
      · rw [if_pos (nI_lt h (by omega))]
        congr 1
        omega
      · rw [if_neg (nI_nlt (by omega) (by omega))]
        congr 1
        omega
    rw [ek]
    refine mu_Sr (rest := [.ref a]) S hC (fun q h => hA q h) (fun q h => h) hS (c_copyOfL l γ Z b0 (4 * M) (4 * max N (2 * M)) g0 s.heap (by omega) (by omega)) mejArrays_copyOfL qw_04147e0ed0 ⟨Nat.le_of_ble_eq_true rfl, Nat.le_of_ble_eq_true rfl⟩ ⟨rfl, hD.2 1 _ rfl, hP 1 _ rfl⟩ rfl hl.1 rfl (Nat.le_of_ble_eq_true rfl) dRows_makeRoom_29 ⟨Nat.le_refl _, Nat.le_of_eq (Nat.zero_add _)⟩ (fun r H1 locs hPO hS _ _ => ?_)
    obtain ⟨q1, q2, q3, f', q4, q5⟩ := hPO
    obtain ⟨hP, hD⟩ := wr_join (i := 1) hP hD rfl q3 q4 (Or.inr (Nat.le_of_eq q1.symm)) (hA _ (Nat.le_of_eq q1.symm))
    have hP : va_P γ.1 vwCl [(a, .inr (5, [.ref b0])), (r, .inl (γ.2.2.1, 4 * max N (2 * M), .inr (.inl f')))] H1 := hP
    have hD : va_D Z [(a, .inr (5, [.ref b0])), (r, .inl (γ.2.2.1, 4 * max N (2 * M), .inr (.inl f')))] := hD
    refine va_put (D := γ.1) (ci := 5) (v := .ref r) (ty := .array .long) (C := R_Rows) (T := T_Rows) (N := 1) (Ts := bs_W0) hx hb hW in_Rows t_Rows t_Rows_ok n_Rows hown hC.1 hP hD hS 0 rfl rfl 0 (by decide) (hW _ qw_05e9c8a29d) (fun _ h9 => h9) rfl (by decide +kernel) rfl rfl (Nat.le_of_ble_eq_true rfl) dRows_makeRoom_32 (fun H locs hP hD hS => ?_)
    have hQ := hE _ _ 35 ls hS ⟨_, ⟨r, f', rfl, (by omega), (by omega)⟩, hP, hD⟩ dRows_makeRoom_35
    refine W.cs (cells' := 1) (slots' := 4 * max N (2 * M)) (by omega) (by omega) ?_
    exact hQ

theorem k5_Rows_makeRoom (l : Launch) (γ : gE) (A : Nat → Prop) (κ : Nat → Nat) (N : Nat) (hN : N ≤ 4096) : MU l yRows_makeRoom bRows_makeRoom 2 (none) 2 82 (wc (κ 8) N) (4 * wm (κ 8) N) [.ref (γ.2.2.2 5), .int (nI N)] γ A (INV γ A κ) (mQv (fun H => INV γ A (ku κ 8 (wl (κ 8) N)) H) A) :=
  mu_upv (κ := κ) (κ' := (ku κ 8 (wl (κ 8) N))) 6 (by decide) (by decide) (fun j h1 h2 h3 => by rcases (show j = 1 ∨ j = 2 ∨ j = 3 ∨ j = 4 ∨ j = 5 ∨ j = 6 ∨ j = 7 ∨ j = 8 ∨ j = 9 ∨ j = 10 by omega) with h | h | h | h | h | h | h | h | h | h <;> subst h <;> first | rfl | exact absurd rfl h1) (fun Z => c_Rows_makeRoom l γ Z (γ.2.2.2 5) (κ 8) N hN)

theorem k7_Rows_makeRoom (l : Launch) (γ : gE) (A : Nat → Prop) (κ : Nat → Nat) (N : Nat) (hN : N ≤ 4096) : MU l yRows_makeRoom bRows_makeRoom 2 (none) 2 82 (wc (κ 9) N) (4 * wm (κ 9) N) [.ref (γ.2.2.2 7), .int (nI N)] γ A (INV γ A κ) (mQv (fun H => INV γ A (ku κ 9 (wl (κ 9) N)) H) A) :=
  mu_upv (κ := κ) (κ' := (ku κ 9 (wl (κ 9) N))) 8 (by decide) (by decide) (fun j h1 h2 h3 => by rcases (show j = 1 ∨ j = 2 ∨ j = 3 ∨ j = 4 ∨ j = 5 ∨ j = 6 ∨ j = 7 ∨ j = 8 ∨ j = 9 ∨ j = 10 by omega) with h | h | h | h | h | h | h | h | h | h <;> subst h <;> first | rfl | exact absurd rfl h1) (fun Z => c_Rows_makeRoom l γ Z (γ.2.2.2 7) (κ 9) N hN)

theorem k10_Rows_makeRoom (l : Launch) (γ : gE) (A : Nat → Prop) (κ : Nat → Nat) (N : Nat) (hN : N ≤ 4096) : MU l yRows_makeRoom bRows_makeRoom 2 (none) 2 82 (wc (κ 10) N) (4 * wm (κ 10) N) [.ref (γ.2.2.2 10), .int (nI N)] γ A (INV γ A κ) (mQv (fun H => INV γ A (ku κ 10 (wl (κ 10) N)) H) A) :=
  mu_upv (κ := κ) (κ' := (ku κ 10 (wl (κ 10) N))) 10 (by decide) (by decide) (fun j h1 h2 h3 => by rcases (show j = 1 ∨ j = 2 ∨ j = 3 ∨ j = 4 ∨ j = 5 ∨ j = 6 ∨ j = 7 ∨ j = 8 ∨ j = 9 ∨ j = 10 by omega) with h | h | h | h | h | h | h | h | h | h <;> subst h <;> first | rfl | exact absurd rfl h1) (fun Z => c_Rows_makeRoom l γ Z (γ.2.2.2 10) (κ 10) N hN)
theorem qn_2c49eba5a7 : (Cond.methodLinkNest R_Looks 36 yTypeBook_withRoom "TypeBook") ∈ lw_tbl := in_tables_1_2 (List.mem_of_getElem? (i := 203) rfl)
theorem qw_7de9d707b8 : (Cond.methodLink R_Looks 40 yRows_makeRoom) ∈ bs_W0 := bs_in (in_tables_1_2 (List.mem_of_getElem? (i := 204) rfl)) rfl
set_option maxHeartbeats 4000000 in
set_option maxRecDepth 100000 in
theorem k6_Looks_makeRoom (l : Launch) (γ : gE) (A : Nat → Prop) (κ : Nat → Nat) (N : Nat) (hN : N ≤ 4096) : MU l yLooks_makeRoom bLooks_makeRoom 2 (none) 3 103 (0 + wc (κ 6) (N) + wc (κ 6) (N) + wc (κ 6) (N) + wc (κ 6) (N) + wc (κ 6) (N) + wc (κ 9) N) (0 + wm (κ 6) (N) + wm (κ 6) (N) + wm (κ 6) (N) + wm (κ 6) (N) + wm (κ 6) (N) + 4 * wm (κ 9) N) [.ref (γ.2.2.2 6), .int (nI N)] γ A (INV γ A κ) (mQv (fun H => INV γ A (ku (ku κ 6 (wl (κ 6) (N))) 9 (wl (κ 9) N)) H) A) := by
  refine mu_openV (by decide) (Nat.le_of_ble_eq_true rfl) ?_
  intro p e s m args below meth c ls Q S hnm hC hA hI hE hl
  obtain ⟨hx, hb, hml, hown, hW⟩ := id S
  have hS : va_S A s.heap s.heap [] := va_S.rf
  have hl : lv_has ls 2 [(0, .ref (γ.2.2.2 6)), (1, .int (nI N))] := hl
  have hb9 : κ 6 ≤ 8192 ∧ 64 ≤ κ 6 := (by obtain ⟨_, w9, ⟨_, _, _, _, _, _, _, _, _, _, _, h1, h2⟩, _, _⟩ := inv_c hI 7 (by decide) (by decide); exact ⟨h1, h2⟩)
  have hwl := wl_ok (n := κ 6) (N := N) (by omega) (by omega)
  refine lv_aload_n hx hb dLooks_makeRoom_0 rfl (lv_at hl 0 rfl) ?_
  refine lv_aload_n hx hb dLooks_makeRoom_1 rfl (lv_at hl 0 rfl) ?_
  obtain ⟨Z_2, ⟨ws_2, ⟨b0_2, b1_2, b2_2, b3_2, b4_2, f0_2, f1_2, f2_2, f3_2, f4_2, rfl, h1_2, h2_2⟩, hP, hD⟩, hZn, hZA, hback⟩ := inv_lift hI (fun q h => hA q (Nat.le_trans hS.1 h)) 7 (by decide) (by decide)
  have hP : va_P γ.1 vwCl [(γ.2.2.2 6, .inr (6, [.ref b0_2, .ref b1_2, .ref b2_2, .ref b3_2, .ref b4_2, .ref (γ.2.2.2 7)])), (b0_2, .inl (γ.2.1, (κ 6), .inl f0_2)), (b1_2, .inl (γ.2.1, (κ 6), .inl f1_2)), (b2_2, .inl (γ.2.1, (κ 6), .inl f2_2)), (b3_2, .inl (γ.2.1, (κ 6), .inl f3_2)), (b4_2, .inl (γ.2.1, (κ 6), .inl f4_2))] _ := hP
  have hD : va_D Z_2 [(γ.2.2.2 6, .inr (6, [.ref b0_2, .ref b1_2, .ref b2_2, .ref b3_2, .ref b4_2, .ref (γ.2.2.2 7)])), (b0_2, .inl (γ.2.1, (κ 6), .inl f0_2)), (b1_2, .inl (γ.2.1, (κ 6), .inl f1_2)), (b2_2, .inl (γ.2.1, (κ 6), .inl f2_2)), (b3_2, .inl (γ.2.1, (κ 6), .inl f3_2)), (b4_2, .inl (γ.2.1, (κ 6), .inl f4_2))] := hD
  have hfz := fz.rf Z_2 (H := _) hP
  refine va_get (D := γ.1) (ci := 6) (v := .ref b0_2) (C := R_Looks) (T := T_Looks) (N := 6) (Ts := bs_W0) hx hb hW in_Looks hown hC.1 hP 0 rfl rfl 0 (by decide) (hW _ qw_ac7df03aa7) (fun _ h9 => h9) rfl dLooks_makeRoom_2 ?_
  refine lv_iload_n hx hb dLooks_makeRoom_5 rfl (lv_at hl 1 rfl) ?_
  refine mu_Tr (rest := [.ref (γ.2.2.2 6)]) S hC (fun q h => hZn q (Nat.le_trans hfz.1 h)) hZA hS (c_withRoom l γ Z_2 b0_2 (κ 6) (N) f0_2 _ (by omega) (by omega)) meTypeBook_withRoom (hC.2 _ qn_2c49eba5a7 rfl) ⟨Nat.le_of_ble_eq_true rfl, Nat.le_of_ble_eq_true rfl⟩ ⟨rfl, hD.2 1 _ rfl, hP 1 _ rfl⟩ rfl hl.1 rfl (Nat.le_of_ble_eq_true rfl) dLooks_makeRoom_6 ⟨(by show _ ≤ 0 + wc (κ 6) (N) + wc (κ 6) (N) + wc (κ 6) (N) + wc (κ 6) (N) + wc (κ 6) (N) + wc (κ 9) N; omega), (by show _ ≤ 0 + wm (κ 6) (N) + wm (κ 6) (N) + wm (κ 6) (N) + wm (κ 6) (N) + wm (κ 6) (N) + 4 * wm (κ 9) N; omega)⟩ (fun r7 Hr7 locs hPO hS _ _ => ?_)
  obtain ⟨g1r7, g2r7, g3r7, g4r7, fr7, g5r7, g6r7⟩ := hPO
  have hfz := hfz.step g3r7 (fun q h _ => g4r7 q h)
  obtain ⟨hP, hD⟩ := wr_join (i := 1) hP hD rfl g4r7 g5r7 g1r7 g2r7
  have hP : va_P γ.1 vwCl [(γ.2.2.2 6, .inr (6, [.ref b0_2, .ref b1_2, .ref b2_2, .ref b3_2, .ref b4_2, .ref (γ.2.2.2 7)])), (r7, .inl (γ.2.1, wl (κ 6) (N), .inl fr7)), (b1_2, .inl (γ.2.1, (κ 6), .inl f1_2)), (b2_2, .inl (γ.2.1, (κ 6), .inl f2_2)), (b3_2, .inl (γ.2.1, (κ 6), .inl f3_2)), (b4_2, .inl (γ.2.1, (κ 6), .inl f4_2))] _ := hP
  have hD : va_D Z_2 [(γ.2.2.2 6, .inr (6, [.ref b0_2, .ref b1_2, .ref b2_2, .ref b3_2, .ref b4_2, .ref (γ.2.2.2 7)])), (r7, .inl (γ.2.1, wl (κ 6) (N), .inl fr7)), (b1_2, .inl (γ.2.1, (κ 6), .inl f1_2)), (b2_2, .inl (γ.2.1, (κ 6), .inl f2_2)), (b3_2, .inl (γ.2.1, (κ 6), .inl f3_2)), (b4_2, .inl (γ.2.1, (κ 6), .inl f4_2))] := hD
  refine st_put (D := γ.1) (ci := 6) (v := .ref r7) (ty := .array .int) (C := R_Looks) (T := T_Looks) (N := 6) (Ts := bs_W0) hx hb hW in_Looks t_Looks t_Looks_ok n_Looks hown hC.1 hP hD hZA hS 0 rfl rfl 0 (by decide) (hW _ qw_ac7df03aa7) (fun _ h9 => h9) rfl (by decide +kernel) rfl rfl (Nat.le_of_ble_eq_true rfl) dLooks_makeRoom_9 (fun H locs hP1 hD1 hS hz ho => ?_)
  have hfz := hfz.put hz ho (hD.2 0 _ rfl)
  have hP := hP1
  have hD := hD1
  have hP : va_P γ.1 vwCl [(γ.2.2.2 6, .inr (6, [.ref r7, .ref b1_2, .ref b2_2, .ref b3_2, .ref b4_2, .ref (γ.2.2.2 7)])), (r7, .inl (γ.2.1, wl (κ 6) (N), .inl fr7)), (b1_2, .inl (γ.2.1, (κ 6), .inl f1_2)), (b2_2, .inl (γ.2.1, (κ 6), .inl f2_2)), (b3_2, .inl (γ.2.1, (κ 6), .inl f3_2)), (b4_2, .inl (γ.2.1, (κ 6), .inl f4_2))] _ := hP
  have hD : va_D Z_2 [(γ.2.2.2 6, .inr (6, [.ref r7, .ref b1_2, .ref b2_2, .ref b3_2, .ref b4_2, .ref (γ.2.2.2 7)])), (r7, .inl (γ.2.1, wl (κ 6) (N), .inl fr7)), (b1_2, .inl (γ.2.1, (κ 6), .inl f1_2)), (b2_2, .inl (γ.2.1, (κ 6), .inl f2_2)), (b3_2, .inl (γ.2.1, (κ 6), .inl f3_2)), (b4_2, .inl (γ.2.1, (κ 6), .inl f4_2))] := hD
  refine lv_aload_n hx hb dLooks_makeRoom_12 rfl (lv_at hl 0 rfl) ?_
  refine lv_aload_n hx hb dLooks_makeRoom_13 rfl (lv_at hl 0 rfl) ?_
  refine va_get (D := γ.1) (ci := 6) (v := .ref b1_2) (C := R_Looks) (T := T_Looks) (N := 6) (Ts := bs_W0) hx hb hW in_Looks hown hC.1 hP 0 rfl rfl 1 (by decide) (hW _ qw_7dd30c70bd) (fun _ h9 => h9) rfl dLooks_makeRoom_14 ?_
  refine lv_iload_n hx hb dLooks_makeRoom_17 rfl (lv_at hl 1 rfl) ?_
  refine mu_Tr (rest := [.ref (γ.2.2.2 6)]) S hC (fun q h => hZn q (Nat.le_trans hfz.1 h)) hZA hS (c_withRoom l γ Z_2 b1_2 (κ 6) (N) f1_2 _ (by omega) (by omega)) meTypeBook_withRoom (hC.2 _ qn_2c49eba5a7 rfl) ⟨Nat.le_of_ble_eq_true rfl, Nat.le_of_ble_eq_true rfl⟩ ⟨rfl, hD.2 2 _ rfl, hP 2 _ rfl⟩ rfl hl.1 rfl (Nat.le_of_ble_eq_true rfl) dLooks_makeRoom_18 ⟨(by show _ ≤ 0 + wc (κ 6) (N) + wc (κ 6) (N) + wc (κ 6) (N) + wc (κ 6) (N) + wc (κ 6) (N) + wc (κ 9) N; omega), (by show _ ≤ 0 + wm (κ 6) (N) + wm (κ 6) (N) + wm (κ 6) (N) + wm (κ 6) (N) + wm (κ 6) (N) + 4 * wm (κ 9) N; omega)⟩ (fun r8 Hr8 locs hPO hS _ _ => ?_)
  obtain ⟨g1r8, g2r8, g3r8, g4r8, fr8, g5r8, g6r8⟩ := hPO
  have hfz := hfz.step g3r8 (fun q h _ => g4r8 q h)
  obtain ⟨hP, hD⟩ := wr_join (i := 2) hP hD rfl g4r8 g5r8 g1r8 g2r8
  have hP : va_P γ.1 vwCl [(γ.2.2.2 6, .inr (6, [.ref r7, .ref b1_2, .ref b2_2, .ref b3_2, .ref b4_2, .ref (γ.2.2.2 7)])), (r7, .inl (γ.2.1, wl (κ 6) (N), .inl fr7)), (r8, .inl (γ.2.1, wl (κ 6) (N), .inl fr8)), (b2_2, .inl (γ.2.1, (κ 6), .inl f2_2)), (b3_2, .inl (γ.2.1, (κ 6), .inl f3_2)), (b4_2, .inl (γ.2.1, (κ 6), .inl f4_2))] _ := hP
  have hD : va_D Z_2 [(γ.2.2.2 6, .inr (6, [.ref r7, .ref b1_2, .ref b2_2, .ref b3_2, .ref b4_2, .ref (γ.2.2.2 7)])), (r7, .inl (γ.2.1, wl (κ 6) (N), .inl fr7)), (r8, .inl (γ.2.1, wl (κ 6) (N), .inl fr8)), (b2_2, .inl (γ.2.1, (κ 6), .inl f2_2)), (b3_2, .inl (γ.2.1, (κ 6), .inl f3_2)), (b4_2, .inl (γ.2.1, (κ 6), .inl f4_2))] := hD
  refine st_put (D := γ.1) (ci := 6) (v := .ref r8) (ty := .array .int) (C := R_Looks) (T := T_Looks) (N := 6) (Ts := bs_W0) hx hb hW in_Looks t_Looks t_Looks_ok n_Looks hown hC.1 hP hD hZA hS 0 rfl rfl 1 (by decide) (hW _ qw_7dd30c70bd) (fun _ h9 => h9) rfl (by decide +kernel) rfl rfl (Nat.le_of_ble_eq_true rfl) dLooks_makeRoom_21 (fun H locs hP1 hD1 hS hz ho => ?_)
  have hfz := hfz.put hz ho (hD.2 0 _ rfl)
  have hP := hP1
  have hD := hD1
  have hP : va_P γ.1 vwCl [(γ.2.2.2 6, .inr (6, [.ref r7, .ref r8, .ref b2_2, .ref b3_2, .ref b4_2, .ref (γ.2.2.2 7)])), (r7, .inl (γ.2.1, wl (κ 6) (N), .inl fr7)), (r8, .inl (γ.2.1, wl (κ 6) (N), .inl fr8)), (b2_2, .inl (γ.2.1, (κ 6), .inl f2_2)), (b3_2, .inl (γ.2.1, (κ 6), .inl f3_2)), (b4_2, .inl (γ.2.1, (κ 6), .inl f4_2))] _ := hP
  have hD : va_D Z_2 [(γ.2.2.2 6, .inr (6, [.ref r7, .ref r8, .ref b2_2, .ref b3_2, .ref b4_2, .ref (γ.2.2.2 7)])), (r7, .inl (γ.2.1, wl (κ 6) (N), .inl fr7)), (r8, .inl (γ.2.1, wl (κ 6) (N), .inl fr8)), (b2_2, .inl (γ.2.1, (κ 6), .inl f2_2)), (b3_2, .inl (γ.2.1, (κ 6), .inl f3_2)), (b4_2, .inl (γ.2.1, (κ 6), .inl f4_2))] := hD
  refine lv_aload_n hx hb dLooks_makeRoom_24 rfl (lv_at hl 0 rfl) ?_
  refine lv_aload_n hx hb dLooks_makeRoom_25 rfl (lv_at hl 0 rfl) ?_
  refine va_get (D := γ.1) (ci := 6) (v := .ref b2_2) (C := R_Looks) (T := T_Looks) (N := 6) (Ts := bs_W0) hx hb hW in_Looks hown hC.1 hP 0 rfl rfl 2 (by decide) (hW _ qw_427e012605) (fun _ h9 => h9) rfl dLooks_makeRoom_26 ?_
  refine lv_iload_n hx hb dLooks_makeRoom_29 rfl (lv_at hl 1 rfl) ?_
  refine mu_Tr (rest := [.ref (γ.2.2.2 6)]) S hC (fun q h => hZn q (Nat.le_trans hfz.1 h)) hZA hS (c_withRoom l γ Z_2 b2_2 (κ 6) (N) f2_2 _ (by omega) (by omega)) meTypeBook_withRoom (hC.2 _ qn_2c49eba5a7 rfl) ⟨Nat.le_of_ble_eq_true rfl, Nat.le_of_ble_eq_true rfl⟩ ⟨rfl, hD.2 3 _ rfl, hP 3 _ rfl⟩ rfl hl.1 rfl (Nat.le_of_ble_eq_true rfl) dLooks_makeRoom_30 ⟨(by show _ ≤ 0 + wc (κ 6) (N) + wc (κ 6) (N) + wc (κ 6) (N) + wc (κ 6) (N) + wc (κ 6) (N) + wc (κ 9) N; omega), (by show _ ≤ 0 + wm (κ 6) (N) + wm (κ 6) (N) + wm (κ 6) (N) + wm (κ 6) (N) + wm (κ 6) (N) + 4 * wm (κ 9) N; omega)⟩ (fun r9 Hr9 locs hPO hS _ _ => ?_)
  obtain ⟨g1r9, g2r9, g3r9, g4r9, fr9, g5r9, g6r9⟩ := hPO
  have hfz := hfz.step g3r9 (fun q h _ => g4r9 q h)
  obtain ⟨hP, hD⟩ := wr_join (i := 3) hP hD rfl g4r9 g5r9 g1r9 g2r9
  have hP : va_P γ.1 vwCl [(γ.2.2.2 6, .inr (6, [.ref r7, .ref r8, .ref b2_2, .ref b3_2, .ref b4_2, .ref (γ.2.2.2 7)])), (r7, .inl (γ.2.1, wl (κ 6) (N), .inl fr7)), (r8, .inl (γ.2.1, wl (κ 6) (N), .inl fr8)), (r9, .inl (γ.2.1, wl (κ 6) (N), .inl fr9)), (b3_2, .inl (γ.2.1, (κ 6), .inl f3_2)), (b4_2, .inl (γ.2.1, (κ 6), .inl f4_2))] _ := hP
  have hD : va_D Z_2 [(γ.2.2.2 6, .inr (6, [.ref r7, .ref r8, .ref b2_2, .ref b3_2, .ref b4_2, .ref (γ.2.2.2 7)])), (r7, .inl (γ.2.1, wl (κ 6) (N), .inl fr7)), (r8, .inl (γ.2.1, wl (κ 6) (N), .inl fr8)), (r9, .inl (γ.2.1, wl (κ 6) (N), .inl fr9)), (b3_2, .inl (γ.2.1, (κ 6), .inl f3_2)), (b4_2, .inl (γ.2.1, (κ 6), .inl f4_2))] := hD
  refine st_put (D := γ.1) (ci := 6) (v := .ref r9) (ty := .array .int) (C := R_Looks) (T := T_Looks) (N := 6) (Ts := bs_W0) hx hb hW in_Looks t_Looks t_Looks_ok n_Looks hown hC.1 hP hD hZA hS 0 rfl rfl 2 (by decide) (hW _ qw_427e012605) (fun _ h9 => h9) rfl (by decide +kernel) rfl rfl (Nat.le_of_ble_eq_true rfl) dLooks_makeRoom_33 (fun H locs hP1 hD1 hS hz ho => ?_)
  have hfz := hfz.put hz ho (hD.2 0 _ rfl)
  have hP := hP1
  have hD := hD1
  have hP : va_P γ.1 vwCl [(γ.2.2.2 6, .inr (6, [.ref r7, .ref r8, .ref r9, .ref b3_2, .ref b4_2, .ref (γ.2.2.2 7)])), (r7, .inl (γ.2.1, wl (κ 6) (N), .inl fr7)), (r8, .inl (γ.2.1, wl (κ 6) (N), .inl fr8)), (r9, .inl (γ.2.1, wl (κ 6) (N), .inl fr9)), (b3_2, .inl (γ.2.1, (κ 6), .inl f3_2)), (b4_2, .inl (γ.2.1, (κ 6), .inl f4_2))] _ := hP
  have hD : va_D Z_2 [(γ.2.2.2 6, .inr (6, [.ref r7, .ref r8, .ref r9, .ref b3_2, .ref b4_2, .ref (γ.2.2.2 7)])), (r7, .inl (γ.2.1, wl (κ 6) (N), .inl fr7)), (r8, .inl (γ.2.1, wl (κ 6) (N), .inl fr8)), (r9, .inl (γ.2.1, wl (κ 6) (N), .inl fr9)), (b3_2, .inl (γ.2.1, (κ 6), .inl f3_2)), (b4_2, .inl (γ.2.1, (κ 6), .inl f4_2))] := hD
  refine lv_aload_n hx hb dLooks_makeRoom_36 rfl (lv_at hl 0 rfl) ?_
  refine lv_aload_n hx hb dLooks_makeRoom_37 rfl (lv_at hl 0 rfl) ?_
  refine va_get (D := γ.1) (ci := 6) (v := .ref b3_2) (C := R_Looks) (T := T_Looks) (N := 6) (Ts := bs_W0) hx hb hW in_Looks hown hC.1 hP 0 rfl rfl 3 (by decide) (hW _ qw_5344cf30a3) (fun _ h9 => h9) rfl dLooks_makeRoom_38 ?_
  refine lv_iload_n hx hb dLooks_makeRoom_41 rfl (lv_at hl 1 rfl) ?_
  refine mu_Tr (rest := [.ref (γ.2.2.2 6)]) S hC (fun q h => hZn q (Nat.le_trans hfz.1 h)) hZA hS (c_withRoom l γ Z_2 b3_2 (κ 6) (N) f3_2 _ (by omega) (by omega)) meTypeBook_withRoom (hC.2 _ qn_2c49eba5a7 rfl) ⟨Nat.le_of_ble_eq_true rfl, Nat.le_of_ble_eq_true rfl⟩ ⟨rfl, hD.2 4 _ rfl, hP 4 _ rfl⟩ rfl hl.1 rfl (Nat.le_of_ble_eq_true rfl) dLooks_makeRoom_42 ⟨(by show _ ≤ 0 + wc (κ 6) (N) + wc (κ 6) (N) + wc (κ 6) (N) + wc (κ 6) (N) + wc (κ 6) (N) + wc (κ 9) N; omega), (by show _ ≤ 0 + wm (κ 6) (N) + wm (κ 6) (N) + wm (κ 6) (N) + wm (κ 6) (N) + wm (κ 6) (N) + 4 * wm (κ 9) N; omega)⟩ (fun r10 Hr10 locs hPO hS _ _ => ?_)
  obtain ⟨g1r10, g2r10, g3r10, g4r10, fr10, g5r10, g6r10⟩ := hPO
  have hfz := hfz.step g3r10 (fun q h _ => g4r10 q h)
  obtain ⟨hP, hD⟩ := wr_join (i := 4) hP hD rfl g4r10 g5r10 g1r10 g2r10
  have hP : va_P γ.1 vwCl [(γ.2.2.2 6, .inr (6, [.ref r7, .ref r8, .ref r9, .ref b3_2, .ref b4_2, .ref (γ.2.2.2 7)])), (r7, .inl (γ.2.1, wl (κ 6) (N), .inl fr7)), (r8, .inl (γ.2.1, wl (κ 6) (N), .inl fr8)), (r9, .inl (γ.2.1, wl (κ 6) (N), .inl fr9)), (r10, .inl (γ.2.1, wl (κ 6) (N), .inl fr10)), (b4_2, .inl (γ.2.1, (κ 6), .inl f4_2))] _ := hP
  have hD : va_D Z_2 [(γ.2.2.2 6, .inr (6, [.ref r7, .ref r8, .ref r9, .ref b3_2, .ref b4_2, .ref (γ.2.2.2 7)])), (r7, .inl (γ.2.1, wl (κ 6) (N), .inl fr7)), (r8, .inl (γ.2.1, wl (κ 6) (N), .inl fr8)), (r9, .inl (γ.2.1, wl (κ 6) (N), .inl fr9)), (r10, .inl (γ.2.1, wl (κ 6) (N), .inl fr10)), (b4_2, .inl (γ.2.1, (κ 6), .inl f4_2))] := hD
  refine st_put (D := γ.1) (ci := 6) (v := .ref r10) (ty := .array .int) (C := R_Looks) (T := T_Looks) (N := 6) (Ts := bs_W0) hx hb hW in_Looks t_Looks t_Looks_ok n_Looks hown hC.1 hP hD hZA hS 0 rfl rfl 3 (by decide) (hW _ qw_5344cf30a3) (fun _ h9 => h9) rfl (by decide +kernel) rfl rfl (Nat.le_of_ble_eq_true rfl) dLooks_makeRoom_45 (fun H locs hP1 hD1 hS hz ho => ?_)
  have hfz := hfz.put hz ho (hD.2 0 _ rfl)
  have hP := hP1
  have hD := hD1
  have hP : va_P γ.1 vwCl [(γ.2.2.2 6, .inr (6, [.ref r7, .ref r8, .ref r9, .ref r10, .ref b4_2, .ref (γ.2.2.2 7)])), (r7, .inl (γ.2.1, wl (κ 6) (N), .inl fr7)), (r8, .inl (γ.2.1, wl (κ 6) (N), .inl fr8)), (r9, .inl (γ.2.1, wl (κ 6) (N), .inl fr9)), (r10, .inl (γ.2.1, wl (κ 6) (N), .inl fr10)), (b4_2, .inl (γ.2.1, (κ 6), .inl f4_2))] _ := hP
  have hD : va_D Z_2 [(γ.2.2.2 6, .inr (6, [.ref r7, .ref r8, .ref r9, .ref r10, .ref b4_2, .ref (γ.2.2.2 7)])), (r7, .inl (γ.2.1, wl (κ 6) (N), .inl fr7)), (r8, .inl (γ.2.1, wl (κ 6) (N), .inl fr8)), (r9, .inl (γ.2.1, wl (κ 6) (N), .inl fr9)), (r10, .inl (γ.2.1, wl (κ 6) (N), .inl fr10)), (b4_2, .inl (γ.2.1, (κ 6), .inl f4_2))] := hD
  refine lv_aload_n hx hb dLooks_makeRoom_48 rfl (lv_at hl 0 rfl) ?_
  refine lv_aload_n hx hb dLooks_makeRoom_49 rfl (lv_at hl 0 rfl) ?_
  refine va_get (D := γ.1) (ci := 6) (v := .ref b4_2) (C := R_Looks) (T := T_Looks) (N := 6) (Ts := bs_W0) hx hb hW in_Looks hown hC.1 hP 0 rfl rfl 4 (by decide) (hW _ qw_d08a1abfac) (fun _ h9 => h9) rfl dLooks_makeRoom_50 ?_
  refine lv_iload_n hx hb dLooks_makeRoom_53 rfl (lv_at hl 1 rfl) ?_
  refine mu_Tr (rest := [.ref (γ.2.2.2 6)]) S hC (fun q h => hZn q (Nat.le_trans hfz.1 h)) hZA hS (c_withRoom l γ Z_2 b4_2 (κ 6) (N) f4_2 _ (by omega) (by omega)) meTypeBook_withRoom (hC.2 _ qn_2c49eba5a7 rfl) ⟨Nat.le_of_ble_eq_true rfl, Nat.le_of_ble_eq_true rfl⟩ ⟨rfl, hD.2 5 _ rfl, hP 5 _ rfl⟩ rfl hl.1 rfl (Nat.le_of_ble_eq_true rfl) dLooks_makeRoom_54 ⟨(by show _ ≤ 0 + wc (κ 6) (N) + wc (κ 6) (N) + wc (κ 6) (N) + wc (κ 6) (N) + wc (κ 6) (N) + wc (κ 9) N; omega), (by show _ ≤ 0 + wm (κ 6) (N) + wm (κ 6) (N) + wm (κ 6) (N) + wm (κ 6) (N) + wm (κ 6) (N) + 4 * wm (κ 9) N; omega)⟩ (fun r11 Hr11 locs hPO hS _ _ => ?_)
  obtain ⟨g1r11, g2r11, g3r11, g4r11, fr11, g5r11, g6r11⟩ := hPO
  have hfz := hfz.step g3r11 (fun q h _ => g4r11 q h)
  obtain ⟨hP, hD⟩ := wr_join (i := 5) hP hD rfl g4r11 g5r11 g1r11 g2r11
  have hP : va_P γ.1 vwCl [(γ.2.2.2 6, .inr (6, [.ref r7, .ref r8, .ref r9, .ref r10, .ref b4_2, .ref (γ.2.2.2 7)])), (r7, .inl (γ.2.1, wl (κ 6) (N), .inl fr7)), (r8, .inl (γ.2.1, wl (κ 6) (N), .inl fr8)), (r9, .inl (γ.2.1, wl (κ 6) (N), .inl fr9)), (r10, .inl (γ.2.1, wl (κ 6) (N), .inl fr10)), (r11, .inl (γ.2.1, wl (κ 6) (N), .inl fr11))] _ := hP
  have hD : va_D Z_2 [(γ.2.2.2 6, .inr (6, [.ref r7, .ref r8, .ref r9, .ref r10, .ref b4_2, .ref (γ.2.2.2 7)])), (r7, .inl (γ.2.1, wl (κ 6) (N), .inl fr7)), (r8, .inl (γ.2.1, wl (κ 6) (N), .inl fr8)), (r9, .inl (γ.2.1, wl (κ 6) (N), .inl fr9)), (r10, .inl (γ.2.1, wl (κ 6) (N), .inl fr10)), (r11, .inl (γ.2.1, wl (κ 6) (N), .inl fr11))] := hD
  refine st_put (D := γ.1) (ci := 6) (v := .ref r11) (ty := .array .int) (C := R_Looks) (T := T_Looks) (N := 6) (Ts := bs_W0) hx hb hW in_Looks t_Looks t_Looks_ok n_Looks hown hC.1 hP hD hZA hS 0 rfl rfl 4 (by decide) (hW _ qw_d08a1abfac) (fun _ h9 => h9) rfl (by decide +kernel) rfl rfl (Nat.le_of_ble_eq_true rfl) dLooks_makeRoom_57 (fun H locs hP1 hD1 hS hz ho => ?_)
  have hfz := hfz.put hz ho (hD.2 0 _ rfl)
  have hP := hP1
  have hD := hD1
  have hP : va_P γ.1 vwCl [(γ.2.2.2 6, .inr (6, [.ref r7, .ref r8, .ref r9, .ref r10, .ref r11, .ref (γ.2.2.2 7)])), (r7, .inl (γ.2.1, wl (κ 6) (N), .inl fr7)), (r8, .inl (γ.2.1, wl (κ 6) (N), .inl fr8)), (r9, .inl (γ.2.1, wl (κ 6) (N), .inl fr9)), (r10, .inl (γ.2.1, wl (κ 6) (N), .inl fr10)), (r11, .inl (γ.2.1, wl (κ 6) (N), .inl fr11))] _ := hP
  have hD : va_D Z_2 [(γ.2.2.2 6, .inr (6, [.ref r7, .ref r8, .ref r9, .ref r10, .ref r11, .ref (γ.2.2.2 7)])), (r7, .inl (γ.2.1, wl (κ 6) (N), .inl fr7)), (r8, .inl (γ.2.1, wl (κ 6) (N), .inl fr8)), (r9, .inl (γ.2.1, wl (κ 6) (N), .inl fr9)), (r10, .inl (γ.2.1, wl (κ 6) (N), .inl fr10)), (r11, .inl (γ.2.1, wl (κ 6) (N), .inl fr11))] := hD
  refine lv_aload_n hx hb dLooks_makeRoom_60 rfl (lv_at hl 0 rfl) ?_
  refine va_get (D := γ.1) (ci := 6) (v := .ref (γ.2.2.2 7)) (C := R_Looks) (T := T_Looks) (N := 6) (Ts := bs_W0) hx hb hW in_Looks hown hC.1 hP 0 rfl rfl 5 (by decide) (hW _ qw_50f3c1330a) (fun _ h9 => h9) rfl dLooks_makeRoom_61 ?_
  refine lv_iload_n hx hb dLooks_makeRoom_64 rfl (lv_at hl 1 rfl) ?_
  have hI : INV γ A (ku κ 6 (wl (κ 6) (N))) _ := hback (ku κ 6 (wl (κ 6) (N))) _ (fun j h1 h2 h3 => by rcases (show j = 1 ∨ j = 2 ∨ j = 3 ∨ j = 4 ∨ j = 5 ∨ j = 6 ∨ j = 7 ∨ j = 8 ∨ j = 9 ∨ j = 10 by omega) with h | h | h | h | h | h | h | h | h | h <;> subst h <;> first | rfl | exact absurd rfl h1) ⟨_, ⟨r7, r8, r9, r10, r11, fr7, fr8, fr9, fr10, fr11, rfl, (show (wl (κ 6) (N)) ≤ 8192 by omega), (show 64 ≤ (wl (κ 6) (N)) by omega)⟩, hP, hD⟩ hfz.1 hfz.2
  refine mu_Vv (rest := []) S hC (fun q h => hA q (Nat.le_trans hS.1 h)) (fun q h => h) hS (k7_Rows_makeRoom l γ A (ku κ 6 (wl (κ 6) (N))) N (by omega)) meRows_makeRoom qw_7de9d707b8 ⟨Nat.le_of_ble_eq_true rfl, Nat.le_of_ble_eq_true rfl⟩ (rv_7 hC hI) hI rfl hl.1 rfl (Nat.le_of_ble_eq_true rfl) dLooks_makeRoom_65 ⟨(by show 0 + wc (κ 6) (N) + wc (κ 6) (N) + wc (κ 6) (N) + wc (κ 6) (N) + wc (κ 6) (N) + (wc (κ 9) N) ≤ 0 + wc (κ 6) (N) + wc (κ 6) (N) + wc (κ 6) (N) + wc (κ 6) (N) + wc (κ 6) (N) + wc (κ 9) N; omega), (by show 0 + wm (κ 6) (N) + wm (κ 6) (N) + wm (κ 6) (N) + wm (κ 6) (N) + wm (κ 6) (N) + (4 * wm (κ 9) N) ≤ 0 + wm (κ 6) (N) + wm (κ 6) (N) + wm (κ 6) (N) + wm (κ 6) (N) + wm (κ 6) (N) + 4 * wm (κ 9) N; omega)⟩ (fun H locs hI hS _ _ => ?_)
  refine W.cs (cells' := 0 + wc (κ 6) (N) + wc (κ 6) (N) + wc (κ 6) (N) + wc (κ 6) (N) + wc (κ 6) (N) + (wc (κ 9) N)) (slots' := 0 + wm (κ 6) (N) + wm (κ 6) (N) + wm (κ 6) (N) + wm (κ 6) (N) + wm (κ 6) (N) + (4 * wm (κ 9) N)) rfl rfl ?_
  have hI : INV γ A (ku (ku κ 6 (wl (κ 6) (N))) 9 (wl (κ 9) N)) _ := hI
  have hQ := hE _ _ 68 ls hS hI dLooks_makeRoom_68
  refine W.cs (cells' := 0 + wc (κ 6) (N) + wc (κ 6) (N) + wc (κ 6) (N) + wc (κ 6) (N) + wc (κ 6) (N) + wc (κ 9) N) (slots' := 0 + wm (κ 6) (N) + wm (κ 6) (N) + wm (κ 6) (N) + wm (κ 6) (N) + wm (κ 6) (N) + 4 * wm (κ 9) N) (by omega) (by omega) ?_
  exact hQ

set_option maxHeartbeats 4000000 in
set_option maxRecDepth 100000 in
theorem k9_Looks_makeRoom (l : Launch) (γ : gE) (A : Nat → Prop) (κ : Nat → Nat) (N : Nat) (hN : N ≤ 4096) : MU l yLooks_makeRoom bLooks_makeRoom 2 (none) 3 103 (0 + wc (κ 7) (N) + wc (κ 7) (N) + wc (κ 7) (N) + wc (κ 7) (N) + wc (κ 7) (N) + wc (κ 10) N) (0 + wm (κ 7) (N) + wm (κ 7) (N) + wm (κ 7) (N) + wm (κ 7) (N) + wm (κ 7) (N) + 4 * wm (κ 10) N) [.ref (γ.2.2.2 9), .int (nI N)] γ A (INV γ A κ) (mQv (fun H => INV γ A (ku (ku κ 7 (wl (κ 7) (N))) 10 (wl (κ 10) N)) H) A) := by
  refine mu_openV (by decide) (Nat.le_of_ble_eq_true rfl) ?_
  intro p e s m args below meth c ls Q S hnm hC hA hI hE hl
  obtain ⟨hx, hb, hml, hown, hW⟩ := id S
  have hS : va_S A s.heap s.heap [] := va_S.rf
  have hl : lv_has ls 2 [(0, .ref (γ.2.2.2 9)), (1, .int (nI N))] := hl
  have hb9 : κ 7 ≤ 8192 ∧ 64 ≤ κ 7 := (by obtain ⟨_, w9, ⟨_, _, _, _, _, _, _, _, _, _, _, h1, h2⟩, _, _⟩ := inv_c hI 9 (by decide) (by decide); exact ⟨h1, h2⟩)
  have hwl := wl_ok (n := κ 7) (N := N) (by omega) (by omega)
  refine lv_aload_n hx hb dLooks_makeRoom_0 rfl (lv_at hl 0 rfl) ?_
  refine lv_aload_n hx hb dLooks_makeRoom_1 rfl (lv_at hl 0 rfl) ?_
  obtain ⟨Z_2, ⟨ws_2, ⟨b0_2, b1_2, b2_2, b3_2, b4_2, f0_2, f1_2, f2_2, f3_2, f4_2, rfl, h1_2, h2_2⟩, hP, hD⟩, hZn, hZA, hback⟩ := inv_lift hI (fun q h => hA q (Nat.le_trans hS.1 h)) 9 (by decide) (by decide)
  have hP : va_P γ.1 vwCl [(γ.2.2.2 9, .inr (6, [.ref b0_2, .ref b1_2, .ref b2_2, .ref b3_2, .ref b4_2, .ref (γ.2.2.2 10)])), (b0_2, .inl (γ.2.1, (κ 7), .inl f0_2)), (b1_2, .inl (γ.2.1, (κ 7), .inl f1_2)), (b2_2, .inl (γ.2.1, (κ 7), .inl f2_2)), (b3_2, .inl (γ.2.1, (κ 7), .inl f3_2)), (b4_2, .inl (γ.2.1, (κ 7), .inl f4_2))] _ := hP
  have hD : va_D Z_2 [(γ.2.2.2 9, .inr (6, [.ref b0_2, .ref b1_2, .ref b2_2, .ref b3_2, .ref b4_2, .ref (γ.2.2.2 10)])), (b0_2, .inl (γ.2.1, (κ 7), .inl f0_2)), (b1_2, .inl (γ.2.1, (κ 7), .inl f1_2)), (b2_2, .inl (γ.2.1, (κ 7), .inl f2_2)), (b3_2, .inl (γ.2.1, (κ 7), .inl f3_2)), (b4_2, .inl (γ.2.1, (κ 7), .inl f4_2))] := hD
  have hfz := fz.rf Z_2 (H := _) hP
  refine va_get (D := γ.1) (ci := 6) (v := .ref b0_2) (C := R_Looks) (T := T_Looks) (N := 6) (Ts := bs_W0) hx hb hW in_Looks hown hC.1 hP 0 rfl rfl 0 (by decide) (hW _ qw_ac7df03aa7) (fun _ h9 => h9) rfl dLooks_makeRoom_2 ?_
  refine lv_iload_n hx hb dLooks_makeRoom_5 rfl (lv_at hl 1 rfl) ?_
  refine mu_Tr (rest := [.ref (γ.2.2.2 9)]) S hC (fun q h => hZn q (Nat.le_trans hfz.1 h)) hZA hS (c_withRoom l γ Z_2 b0_2 (κ 7) (N) f0_2 _ (by omega) (by omega)) meTypeBook_withRoom (hC.2 _ qn_2c49eba5a7 rfl) ⟨Nat.le_of_ble_eq_true rfl, Nat.le_of_ble_eq_true rfl⟩ ⟨rfl, hD.2 1 _ rfl, hP 1 _ rfl⟩ rfl hl.1 rfl (Nat.le_of_ble_eq_true rfl) dLooks_makeRoom_6 ⟨(by show _ ≤ 0 + wc (κ 7) (N) + wc (κ 7) (N) + wc (κ 7) (N) + wc (κ 7) (N) + wc (κ 7) (N) + wc (κ 10) N; omega), (by show _ ≤ 0 + wm (κ 7) (N) + wm (κ 7) (N) + wm (κ 7) (N) + wm (κ 7) (N) + wm (κ 7) (N) + 4 * wm (κ 10) N; omega)⟩ (fun r7 Hr7 locs hPO hS _ _ => ?_)
  obtain ⟨g1r7, g2r7, g3r7, g4r7, fr7, g5r7, g6r7⟩ := hPO
  have hfz := hfz.step g3r7 (fun q h _ => g4r7 q h)
  obtain ⟨hP, hD⟩ := wr_join (i := 1) hP hD rfl g4r7 g5r7 g1r7 g2r7
  have hP : va_P γ.1 vwCl [(γ.2.2.2 9, .inr (6, [.ref b0_2, .ref b1_2, .ref b2_2, .ref b3_2, .ref b4_2, .ref (γ.2.2.2 10)])), (r7, .inl (γ.2.1, wl (κ 7) (N), .inl fr7)), (b1_2, .inl (γ.2.1, (κ 7), .inl f1_2)), (b2_2, .inl (γ.2.1, (κ 7), .inl f2_2)), (b3_2, .inl (γ.2.1, (κ 7), .inl f3_2)), (b4_2, .inl (γ.2.1, (κ 7), .inl f4_2))] _ := hP
  have hD : va_D Z_2 [(γ.2.2.2 9, .inr (6, [.ref b0_2, .ref b1_2, .ref b2_2, .ref b3_2, .ref b4_2, .ref (γ.2.2.2 10)])), (r7, .inl (γ.2.1, wl (κ 7) (N), .inl fr7)), (b1_2, .inl (γ.2.1, (κ 7), .inl f1_2)), (b2_2, .inl (γ.2.1, (κ 7), .inl f2_2)), (b3_2, .inl (γ.2.1, (κ 7), .inl f3_2)), (b4_2, .inl (γ.2.1, (κ 7), .inl f4_2))] := hD
  refine st_put (D := γ.1) (ci := 6) (v := .ref r7) (ty := .array .int) (C := R_Looks) (T := T_Looks) (N := 6) (Ts := bs_W0) hx hb hW in_Looks t_Looks t_Looks_ok n_Looks hown hC.1 hP hD hZA hS 0 rfl rfl 0 (by decide) (hW _ qw_ac7df03aa7) (fun _ h9 => h9) rfl (by decide +kernel) rfl rfl (Nat.le_of_ble_eq_true rfl) dLooks_makeRoom_9 (fun H locs hP1 hD1 hS hz ho => ?_)
  have hfz := hfz.put hz ho (hD.2 0 _ rfl)
  have hP := hP1
  have hD := hD1
  have hP : va_P γ.1 vwCl [(γ.2.2.2 9, .inr (6, [.ref r7, .ref b1_2, .ref b2_2, .ref b3_2, .ref b4_2, .ref (γ.2.2.2 10)])), (r7, .inl (γ.2.1, wl (κ 7) (N), .inl fr7)), (b1_2, .inl (γ.2.1, (κ 7), .inl f1_2)), (b2_2, .inl (γ.2.1, (κ 7), .inl f2_2)), (b3_2, .inl (γ.2.1, (κ 7), .inl f3_2)), (b4_2, .inl (γ.2.1, (κ 7), .inl f4_2))] _ := hP
  have hD : va_D Z_2 [(γ.2.2.2 9, .inr (6, [.ref r7, .ref b1_2, .ref b2_2, .ref b3_2, .ref b4_2, .ref (γ.2.2.2 10)])), (r7, .inl (γ.2.1, wl (κ 7) (N), .inl fr7)), (b1_2, .inl (γ.2.1, (κ 7), .inl f1_2)), (b2_2, .inl (γ.2.1, (κ 7), .inl f2_2)), (b3_2, .inl (γ.2.1, (κ 7), .inl f3_2)), (b4_2, .inl (γ.2.1, (κ 7), .inl f4_2))] := hD
  refine lv_aload_n hx hb dLooks_makeRoom_12 rfl (lv_at hl 0 rfl) ?_
  refine lv_aload_n hx hb dLooks_makeRoom_13 rfl (lv_at hl 0 rfl) ?_
  refine va_get (D := γ.1) (ci := 6) (v := .ref b1_2) (C := R_Looks) (T := T_Looks) (N := 6) (Ts := bs_W0) hx hb hW in_Looks hown hC.1 hP 0 rfl rfl 1 (by decide) (hW _ qw_7dd30c70bd) (fun _ h9 => h9) rfl dLooks_makeRoom_14 ?_
  refine lv_iload_n hx hb dLooks_makeRoom_17 rfl (lv_at hl 1 rfl) ?_
  refine mu_Tr (rest := [.ref (γ.2.2.2 9)]) S hC (fun q h => hZn q (Nat.le_trans hfz.1 h)) hZA hS (c_withRoom l γ Z_2 b1_2 (κ 7) (N) f1_2 _ (by omega) (by omega)) meTypeBook_withRoom (hC.2 _ qn_2c49eba5a7 rfl) ⟨Nat.le_of_ble_eq_true rfl, Nat.le_of_ble_eq_true rfl⟩ ⟨rfl, hD.2 2 _ rfl, hP 2 _ rfl⟩ rfl hl.1 rfl (Nat.le_of_ble_eq_true rfl) dLooks_makeRoom_18 ⟨(by show _ ≤ 0 + wc (κ 7) (N) + wc (κ 7) (N) + wc (κ 7) (N) + wc (κ 7) (N) + wc (κ 7) (N) + wc (κ 10) N; omega), (by show _ ≤ 0 + wm (κ 7) (N) + wm (κ 7) (N) + wm (κ 7) (N) + wm (κ 7) (N) + wm (κ 7) (N) + 4 * wm (κ 10) N; omega)⟩ (fun r8 Hr8 locs hPO hS _ _ => ?_)
  obtain ⟨g1r8, g2r8, g3r8, g4r8, fr8, g5r8, g6r8⟩ := hPO
  have hfz := hfz.step g3r8 (fun q h _ => g4r8 q h)
  obtain ⟨hP, hD⟩ := wr_join (i := 2) hP hD rfl g4r8 g5r8 g1r8 g2r8
  have hP : va_P γ.1 vwCl [(γ.2.2.2 9, .inr (6, [.ref r7, .ref b1_2, .ref b2_2, .ref b3_2, .ref b4_2, .ref (γ.2.2.2 10)])), (r7, .inl (γ.2.1, wl (κ 7) (N), .inl fr7)), (r8, .inl (γ.2.1, wl (κ 7) (N), .inl fr8)), (b2_2, .inl (γ.2.1, (κ 7), .inl f2_2)), (b3_2, .inl (γ.2.1, (κ 7), .inl f3_2)), (b4_2, .inl (γ.2.1, (κ 7), .inl f4_2))] _ := hP
  have hD : va_D Z_2 [(γ.2.2.2 9, .inr (6, [.ref r7, .ref b1_2, .ref b2_2, .ref b3_2, .ref b4_2, .ref (γ.2.2.2 10)])), (r7, .inl (γ.2.1, wl (κ 7) (N), .inl fr7)), (r8, .inl (γ.2.1, wl (κ 7) (N), .inl fr8)), (b2_2, .inl (γ.2.1, (κ 7), .inl f2_2)), (b3_2, .inl (γ.2.1, (κ 7), .inl f3_2)), (b4_2, .inl (γ.2.1, (κ 7), .inl f4_2))] := hD
  refine st_put (D := γ.1) (ci := 6) (v := .ref r8) (ty := .array .int) (C := R_Looks) (T := T_Looks) (N := 6) (Ts := bs_W0) hx hb hW in_Looks t_Looks t_Looks_ok n_Looks hown hC.1 hP hD hZA hS 0 rfl rfl 1 (by decide) (hW _ qw_7dd30c70bd) (fun _ h9 => h9) rfl (by decide +kernel) rfl rfl (Nat.le_of_ble_eq_true rfl) dLooks_makeRoom_21 (fun H locs hP1 hD1 hS hz ho => ?_)
  have hfz := hfz.put hz ho (hD.2 0 _ rfl)
  have hP := hP1
  have hD := hD1
  have hP : va_P γ.1 vwCl [(γ.2.2.2 9, .inr (6, [.ref r7, .ref r8, .ref b2_2, .ref b3_2, .ref b4_2, .ref (γ.2.2.2 10)])), (r7, .inl (γ.2.1, wl (κ 7) (N), .inl fr7)), (r8, .inl (γ.2.1, wl (κ 7) (N), .inl fr8)), (b2_2, .inl (γ.2.1, (κ 7), .inl f2_2)), (b3_2, .inl (γ.2.1, (κ 7), .inl f3_2)), (b4_2, .inl (γ.2.1, (κ 7), .inl f4_2))] _ := hP
  have hD : va_D Z_2 [(γ.2.2.2 9, .inr (6, [.ref r7, .ref r8, .ref b2_2, .ref b3_2, .ref b4_2, .ref (γ.2.2.2 10)])), (r7, .inl (γ.2.1, wl (κ 7) (N), .inl fr7)), (r8, .inl (γ.2.1, wl (κ 7) (N), .inl fr8)), (b2_2, .inl (γ.2.1, (κ 7), .inl f2_2)), (b3_2, .inl (γ.2.1, (κ 7), .inl f3_2)), (b4_2, .inl (γ.2.1, (κ 7), .inl f4_2))] := hD
  refine lv_aload_n hx hb dLooks_makeRoom_24 rfl (lv_at hl 0 rfl) ?_
  refine lv_aload_n hx hb dLooks_makeRoom_25 rfl (lv_at hl 0 rfl) ?_
  refine va_get (D := γ.1) (ci := 6) (v := .ref b2_2) (C := R_Looks) (T := T_Looks) (N := 6) (Ts := bs_W0) hx hb hW in_Looks hown hC.1 hP 0 rfl rfl 2 (by decide) (hW _ qw_427e012605) (fun _ h9 => h9) rfl dLooks_makeRoom_26 ?_
  refine lv_iload_n hx hb dLooks_makeRoom_29 rfl (lv_at hl 1 rfl) ?_
  refine mu_Tr (rest := [.ref (γ.2.2.2 9)]) S hC (fun q h => hZn q (Nat.le_trans hfz.1 h)) hZA hS (c_withRoom l γ Z_2 b2_2 (κ 7) (N) f2_2 _ (by omega) (by omega)) meTypeBook_withRoom (hC.2 _ qn_2c49eba5a7 rfl) ⟨Nat.le_of_ble_eq_true rfl, Nat.le_of_ble_eq_true rfl⟩ ⟨rfl, hD.2 3 _ rfl, hP 3 _ rfl⟩ rfl hl.1 rfl (Nat.le_of_ble_eq_true rfl) dLooks_makeRoom_30 ⟨(by show _ ≤ 0 + wc (κ 7) (N) + wc (κ 7) (N) + wc (κ 7) (N) + wc (κ 7) (N) + wc (κ 7) (N) + wc (κ 10) N; omega), (by show _ ≤ 0 + wm (κ 7) (N) + wm (κ 7) (N) + wm (κ 7) (N) + wm (κ 7) (N) + wm (κ 7) (N) + 4 * wm (κ 10) N; omega)⟩ (fun r9 Hr9 locs hPO hS _ _ => ?_)
  obtain ⟨g1r9, g2r9, g3r9, g4r9, fr9, g5r9, g6r9⟩ := hPO
  have hfz := hfz.step g3r9 (fun q h _ => g4r9 q h)
  obtain ⟨hP, hD⟩ := wr_join (i := 3) hP hD rfl g4r9 g5r9 g1r9 g2r9
  have hP : va_P γ.1 vwCl [(γ.2.2.2 9, .inr (6, [.ref r7, .ref r8, .ref b2_2, .ref b3_2, .ref b4_2, .ref (γ.2.2.2 10)])), (r7, .inl (γ.2.1, wl (κ 7) (N), .inl fr7)), (r8, .inl (γ.2.1, wl (κ 7) (N), .inl fr8)), (r9, .inl (γ.2.1, wl (κ 7) (N), .inl fr9)), (b3_2, .inl (γ.2.1, (κ 7), .inl f3_2)), (b4_2, .inl (γ.2.1, (κ 7), .inl f4_2))] _ := hP
  have hD : va_D Z_2 [(γ.2.2.2 9, .inr (6, [.ref r7, .ref r8, .ref b2_2, .ref b3_2, .ref b4_2, .ref (γ.2.2.2 10)])), (r7, .inl (γ.2.1, wl (κ 7) (N), .inl fr7)), (r8, .inl (γ.2.1, wl (κ 7) (N), .inl fr8)), (r9, .inl (γ.2.1, wl (κ 7) (N), .inl fr9)), (b3_2, .inl (γ.2.1, (κ 7), .inl f3_2)), (b4_2, .inl (γ.2.1, (κ 7), .inl f4_2))] := hD
  refine st_put (D := γ.1) (ci := 6) (v := .ref r9) (ty := .array .int) (C := R_Looks) (T := T_Looks) (N := 6) (Ts := bs_W0) hx hb hW in_Looks t_Looks t_Looks_ok n_Looks hown hC.1 hP hD hZA hS 0 rfl rfl 2 (by decide) (hW _ qw_427e012605) (fun _ h9 => h9) rfl (by decide +kernel) rfl rfl (Nat.le_of_ble_eq_true rfl) dLooks_makeRoom_33 (fun H locs hP1 hD1 hS hz ho => ?_)
  have hfz := hfz.put hz ho (hD.2 0 _ rfl)
  have hP := hP1
  have hD := hD1
  have hP : va_P γ.1 vwCl [(γ.2.2.2 9, .inr (6, [.ref r7, .ref r8, .ref r9, .ref b3_2, .ref b4_2, .ref (γ.2.2.2 10)])), (r7, .inl (γ.2.1, wl (κ 7) (N), .inl fr7)), (r8, .inl (γ.2.1, wl (κ 7) (N), .inl fr8)), (r9, .inl (γ.2.1, wl (κ 7) (N), .inl fr9)), (b3_2, .inl (γ.2.1, (κ 7), .inl f3_2)), (b4_2, .inl (γ.2.1, (κ 7), .inl f4_2))] _ := hP
  have hD : va_D Z_2 [(γ.2.2.2 9, .inr (6, [.ref r7, .ref r8, .ref r9, .ref b3_2, .ref b4_2, .ref (γ.2.2.2 10)])), (r7, .inl (γ.2.1, wl (κ 7) (N), .inl fr7)), (r8, .inl (γ.2.1, wl (κ 7) (N), .inl fr8)), (r9, .inl (γ.2.1, wl (κ 7) (N), .inl fr9)), (b3_2, .inl (γ.2.1, (κ 7), .inl f3_2)), (b4_2, .inl (γ.2.1, (κ 7), .inl f4_2))] := hD
  refine lv_aload_n hx hb dLooks_makeRoom_36 rfl (lv_at hl 0 rfl) ?_
  refine lv_aload_n hx hb dLooks_makeRoom_37 rfl (lv_at hl 0 rfl) ?_
  refine va_get (D := γ.1) (ci := 6) (v := .ref b3_2) (C := R_Looks) (T := T_Looks) (N := 6) (Ts := bs_W0) hx hb hW in_Looks hown hC.1 hP 0 rfl rfl 3 (by decide) (hW _ qw_5344cf30a3) (fun _ h9 => h9) rfl dLooks_makeRoom_38 ?_
  refine lv_iload_n hx hb dLooks_makeRoom_41 rfl (lv_at hl 1 rfl) ?_
  refine mu_Tr (rest := [.ref (γ.2.2.2 9)]) S hC (fun q h => hZn q (Nat.le_trans hfz.1 h)) hZA hS (c_withRoom l γ Z_2 b3_2 (κ 7) (N) f3_2 _ (by omega) (by omega)) meTypeBook_withRoom (hC.2 _ qn_2c49eba5a7 rfl) ⟨Nat.le_of_ble_eq_true rfl, Nat.le_of_ble_eq_true rfl⟩ ⟨rfl, hD.2 4 _ rfl, hP 4 _ rfl⟩ rfl hl.1 rfl (Nat.le_of_ble_eq_true rfl) dLooks_makeRoom_42 ⟨(by show _ ≤ 0 + wc (κ 7) (N) + wc (κ 7) (N) + wc (κ 7) (N) + wc (κ 7) (N) + wc (κ 7) (N) + wc (κ 10) N; omega), (by show _ ≤ 0 + wm (κ 7) (N) + wm (κ 7) (N) + wm (κ 7) (N) + wm (κ 7) (N) + wm (κ 7) (N) + 4 * wm (κ 10) N; omega)⟩ (fun r10 Hr10 locs hPO hS _ _ => ?_)
  obtain ⟨g1r10, g2r10, g3r10, g4r10, fr10, g5r10, g6r10⟩ := hPO
  have hfz := hfz.step g3r10 (fun q h _ => g4r10 q h)
  obtain ⟨hP, hD⟩ := wr_join (i := 4) hP hD rfl g4r10 g5r10 g1r10 g2r10
  have hP : va_P γ.1 vwCl [(γ.2.2.2 9, .inr (6, [.ref r7, .ref r8, .ref r9, .ref b3_2, .ref b4_2, .ref (γ.2.2.2 10)])), (r7, .inl (γ.2.1, wl (κ 7) (N), .inl fr7)), (r8, .inl (γ.2.1, wl (κ 7) (N), .inl fr8)), (r9, .inl (γ.2.1, wl (κ 7) (N), .inl fr9)), (r10, .inl (γ.2.1, wl (κ 7) (N), .inl fr10)), (b4_2, .inl (γ.2.1, (κ 7), .inl f4_2))] _ := hP
  have hD : va_D Z_2 [(γ.2.2.2 9, .inr (6, [.ref r7, .ref r8, .ref r9, .ref b3_2, .ref b4_2, .ref (γ.2.2.2 10)])), (r7, .inl (γ.2.1, wl (κ 7) (N), .inl fr7)), (r8, .inl (γ.2.1, wl (κ 7) (N), .inl fr8)), (r9, .inl (γ.2.1, wl (κ 7) (N), .inl fr9)), (r10, .inl (γ.2.1, wl (κ 7) (N), .inl fr10)), (b4_2, .inl (γ.2.1, (κ 7), .inl f4_2))] := hD
  refine st_put (D := γ.1) (ci := 6) (v := .ref r10) (ty := .array .int) (C := R_Looks) (T := T_Looks) (N := 6) (Ts := bs_W0) hx hb hW in_Looks t_Looks t_Looks_ok n_Looks hown hC.1 hP hD hZA hS 0 rfl rfl 3 (by decide) (hW _ qw_5344cf30a3) (fun _ h9 => h9) rfl (by decide +kernel) rfl rfl (Nat.le_of_ble_eq_true rfl) dLooks_makeRoom_45 (fun H locs hP1 hD1 hS hz ho => ?_)
  have hfz := hfz.put hz ho (hD.2 0 _ rfl)
  have hP := hP1
  have hD := hD1
  have hP : va_P γ.1 vwCl [(γ.2.2.2 9, .inr (6, [.ref r7, .ref r8, .ref r9, .ref r10, .ref b4_2, .ref (γ.2.2.2 10)])), (r7, .inl (γ.2.1, wl (κ 7) (N), .inl fr7)), (r8, .inl (γ.2.1, wl (κ 7) (N), .inl fr8)), (r9, .inl (γ.2.1, wl (κ 7) (N), .inl fr9)), (r10, .inl (γ.2.1, wl (κ 7) (N), .inl fr10)), (b4_2, .inl (γ.2.1, (κ 7), .inl f4_2))] _ := hP
  have hD : va_D Z_2 [(γ.2.2.2 9, .inr (6, [.ref r7, .ref r8, .ref r9, .ref r10, .ref b4_2, .ref (γ.2.2.2 10)])), (r7, .inl (γ.2.1, wl (κ 7) (N), .inl fr7)), (r8, .inl (γ.2.1, wl (κ 7) (N), .inl fr8)), (r9, .inl (γ.2.1, wl (κ 7) (N), .inl fr9)), (r10, .inl (γ.2.1, wl (κ 7) (N), .inl fr10)), (b4_2, .inl (γ.2.1, (κ 7), .inl f4_2))] := hD
  refine lv_aload_n hx hb dLooks_makeRoom_48 rfl (lv_at hl 0 rfl) ?_
  refine lv_aload_n hx hb dLooks_makeRoom_49 rfl (lv_at hl 0 rfl) ?_
  refine va_get (D := γ.1) (ci := 6) (v := .ref b4_2) (C := R_Looks) (T := T_Looks) (N := 6) (Ts := bs_W0) hx hb hW in_Looks hown hC.1 hP 0 rfl rfl 4 (by decide) (hW _ qw_d08a1abfac) (fun _ h9 => h9) rfl dLooks_makeRoom_50 ?_
  refine lv_iload_n hx hb dLooks_makeRoom_53 rfl (lv_at hl 1 rfl) ?_
  refine mu_Tr (rest := [.ref (γ.2.2.2 9)]) S hC (fun q h => hZn q (Nat.le_trans hfz.1 h)) hZA hS (c_withRoom l γ Z_2 b4_2 (κ 7) (N) f4_2 _ (by omega) (by omega)) meTypeBook_withRoom (hC.2 _ qn_2c49eba5a7 rfl) ⟨Nat.le_of_ble_eq_true rfl, Nat.le_of_ble_eq_true rfl⟩ ⟨rfl, hD.2 5 _ rfl, hP 5 _ rfl⟩ rfl hl.1 rfl (Nat.le_of_ble_eq_true rfl) dLooks_makeRoom_54 ⟨(by show _ ≤ 0 + wc (κ 7) (N) + wc (κ 7) (N) + wc (κ 7) (N) + wc (κ 7) (N) + wc (κ 7) (N) + wc (κ 10) N; omega), (by show _ ≤ 0 + wm (κ 7) (N) + wm (κ 7) (N) + wm (κ 7) (N) + wm (κ 7) (N) + wm (κ 7) (N) + 4 * wm (κ 10) N; omega)⟩ (fun r11 Hr11 locs hPO hS _ _ => ?_)
  obtain ⟨g1r11, g2r11, g3r11, g4r11, fr11, g5r11, g6r11⟩ := hPO
  have hfz := hfz.step g3r11 (fun q h _ => g4r11 q h)
  obtain ⟨hP, hD⟩ := wr_join (i := 5) hP hD rfl g4r11 g5r11 g1r11 g2r11
  have hP : va_P γ.1 vwCl [(γ.2.2.2 9, .inr (6, [.ref r7, .ref r8, .ref r9, .ref r10, .ref b4_2, .ref (γ.2.2.2 10)])), (r7, .inl (γ.2.1, wl (κ 7) (N), .inl fr7)), (r8, .inl (γ.2.1, wl (κ 7) (N), .inl fr8)), (r9, .inl (γ.2.1, wl (κ 7) (N), .inl fr9)), (r10, .inl (γ.2.1, wl (κ 7) (N), .inl fr10)), (r11, .inl (γ.2.1, wl (κ 7) (N), .inl fr11))] _ := hP
  have hD : va_D Z_2 [(γ.2.2.2 9, .inr (6, [.ref r7, .ref r8, .ref r9, .ref r10, .ref b4_2, .ref (γ.2.2.2 10)])), (r7, .inl (γ.2.1, wl (κ 7) (N), .inl fr7)), (r8, .inl (γ.2.1, wl (κ 7) (N), .inl fr8)), (r9, .inl (γ.2.1, wl (κ 7) (N), .inl fr9)), (r10, .inl (γ.2.1, wl (κ 7) (N), .inl fr10)), (r11, .inl (γ.2.1, wl (κ 7) (N), .inl fr11))] := hD
  refine st_put (D := γ.1) (ci := 6) (v := .ref r11) (ty := .array .int) (C := R_Looks) (T := T_Looks) (N := 6) (Ts := bs_W0) hx hb hW in_Looks t_Looks t_Looks_ok n_Looks hown hC.1 hP hD hZA hS 0 rfl rfl 4 (by decide) (hW _ qw_d08a1abfac) (fun _ h9 => h9) rfl (by decide +kernel) rfl rfl (Nat.le_of_ble_eq_true rfl) dLooks_makeRoom_57 (fun H locs hP1 hD1 hS hz ho => ?_)
  have hfz := hfz.put hz ho (hD.2 0 _ rfl)
  have hP := hP1
  have hD := hD1
  have hP : va_P γ.1 vwCl [(γ.2.2.2 9, .inr (6, [.ref r7, .ref r8, .ref r9, .ref r10, .ref r11, .ref (γ.2.2.2 10)])), (r7, .inl (γ.2.1, wl (κ 7) (N), .inl fr7)), (r8, .inl (γ.2.1, wl (κ 7) (N), .inl fr8)), (r9, .inl (γ.2.1, wl (κ 7) (N), .inl fr9)), (r10, .inl (γ.2.1, wl (κ 7) (N), .inl fr10)), (r11, .inl (γ.2.1, wl (κ 7) (N), .inl fr11))] _ := hP
  have hD : va_D Z_2 [(γ.2.2.2 9, .inr (6, [.ref r7, .ref r8, .ref r9, .ref r10, .ref r11, .ref (γ.2.2.2 10)])), (r7, .inl (γ.2.1, wl (κ 7) (N), .inl fr7)), (r8, .inl (γ.2.1, wl (κ 7) (N), .inl fr8)), (r9, .inl (γ.2.1, wl (κ 7) (N), .inl fr9)), (r10, .inl (γ.2.1, wl (κ 7) (N), .inl fr10)), (r11, .inl (γ.2.1, wl (κ 7) (N), .inl fr11))] := hD
  refine lv_aload_n hx hb dLooks_makeRoom_60 rfl (lv_at hl 0 rfl) ?_
  refine va_get (D := γ.1) (ci := 6) (v := .ref (γ.2.2.2 10)) (C := R_Looks) (T := T_Looks) (N := 6) (Ts := bs_W0) hx hb hW in_Looks hown hC.1 hP 0 rfl rfl 5 (by decide) (hW _ qw_50f3c1330a) (fun _ h9 => h9) rfl dLooks_makeRoom_61 ?_
  refine lv_iload_n hx hb dLooks_makeRoom_64 rfl (lv_at hl 1 rfl) ?_
  have hI : INV γ A (ku κ 7 (wl (κ 7) (N))) _ := hback (ku κ 7 (wl (κ 7) (N))) _ (fun j h1 h2 h3 => by rcases (show j = 1 ∨ j = 2 ∨ j = 3 ∨ j = 4 ∨ j = 5 ∨ j = 6 ∨ j = 7 ∨ j = 8 ∨ j = 9 ∨ j = 10 by omega) with h | h | h | h | h | h | h | h | h | h <;> subst h <;> first | rfl | exact absurd rfl h1) ⟨_, ⟨r7, r8, r9, r10, r11, fr7, fr8, fr9, fr10, fr11, rfl, (show (wl (κ 7) (N)) ≤ 8192 by omega), (show 64 ≤ (wl (κ 7) (N)) by omega)⟩, hP, hD⟩ hfz.1 hfz.2
  refine mu_Vv (rest := []) S hC (fun q h => hA q (Nat.le_trans hS.1 h)) (fun q h => h) hS (k10_Rows_makeRoom l γ A (ku κ 7 (wl (κ 7) (N))) N (by omega)) meRows_makeRoom qw_7de9d707b8 ⟨Nat.le_of_ble_eq_true rfl, Nat.le_of_ble_eq_true rfl⟩ (rv_10 hC hI) hI rfl hl.1 rfl (Nat.le_of_ble_eq_true rfl) dLooks_makeRoom_65 ⟨(by show 0 + wc (κ 7) (N) + wc (κ 7) (N) + wc (κ 7) (N) + wc (κ 7) (N) + wc (κ 7) (N) + (wc (κ 10) N) ≤ 0 + wc (κ 7) (N) + wc (κ 7) (N) + wc (κ 7) (N) + wc (κ 7) (N) + wc (κ 7) (N) + wc (κ 10) N; omega), (by show 0 + wm (κ 7) (N) + wm (κ 7) (N) + wm (κ 7) (N) + wm (κ 7) (N) + wm (κ 7) (N) + (4 * wm (κ 10) N) ≤ 0 + wm (κ 7) (N) + wm (κ 7) (N) + wm (κ 7) (N) + wm (κ 7) (N) + wm (κ 7) (N) + 4 * wm (κ 10) N; omega)⟩ (fun H locs hI hS _ _ => ?_)
  refine W.cs (cells' := 0 + wc (κ 7) (N) + wc (κ 7) (N) + wc (κ 7) (N) + wc (κ 7) (N) + wc (κ 7) (N) + (wc (κ 10) N)) (slots' := 0 + wm (κ 7) (N) + wm (κ 7) (N) + wm (κ 7) (N) + wm (κ 7) (N) + wm (κ 7) (N) + (4 * wm (κ 10) N)) rfl rfl ?_
  have hI : INV γ A (ku (ku κ 7 (wl (κ 7) (N))) 10 (wl (κ 10) N)) _ := hI
  have hQ := hE _ _ 68 ls hS hI dLooks_makeRoom_68
  refine W.cs (cells' := 0 + wc (κ 7) (N) + wc (κ 7) (N) + wc (κ 7) (N) + wc (κ 7) (N) + wc (κ 7) (N) + wc (κ 10) N) (slots' := 0 + wm (κ 7) (N) + wm (κ 7) (N) + wm (κ 7) (N) + wm (κ 7) (N) + wm (κ 7) (N) + 4 * wm (κ 10) N) (by omega) (by omega) ?_
  exact hQ

theorem k1_Trees_grow (l : Launch) (γ : gE) (A : Nat → Prop) (κ : Nat → Nat) (x1 : Int32) (x2 : Int32) (k3 : Nat) (hN : κ 0 ≤ 4000) (hk3 : k3 ≤ κ 1) : MU l yTrees_grow bTrees_grow 7 (some .int) 3 103 (0 + wc (κ 11) (κ 0 + 1) + wc (κ 11) (κ 0 + 1) + wc (κ 11) (κ 0 + 1) + wc (κ 11) (κ 0 + 1)) (0 + wm (κ 11) (κ 0 + 1) + wm (κ 11) (κ 0 + 1) + wm (κ 11) (κ 0 + 1) + wm (κ 11) (κ 0 + 1)) [.ref (γ.2.2.2 1), .int x1, .int x2, .int (nI k3)] γ A (INV γ A κ) (mQi (fun r H => r = nI (κ 0) ∧ INV γ A (ku (ku (ku κ 0 (κ 0 + 1)) 1 (κ 1 + 1 - k3)) 11 (wl (κ 11) (κ 0 + 1))) H) A) :=
  mu_upi (κ := κ) (κ' := (ku (ku (ku κ 0 (κ 0 + 1)) 1 (κ 1 + 1 - k3)) 11 (wl (κ 11) (κ 0 + 1)))) (T := fun r => r = nI (κ 0)) 2 (by decide) (by decide) (fun j h1 h2 h3 => by rcases (show j = 1 ∨ j = 2 ∨ j = 3 ∨ j = 4 ∨ j = 5 ∨ j = 6 ∨ j = 7 ∨ j = 8 ∨ j = 9 ∨ j = 10 by omega) with h | h | h | h | h | h | h | h | h | h <;> subst h <;> first | rfl | exact absurd rfl h1) (fun Z => c_Trees_grow l γ Z (γ.2.2.2 1) (κ 0) (κ 1) (κ 11) x1 x2 k3 hN hk3)

theorem k1_Trees_fell (l : Launch) (γ : gE) (A : Nat → Prop) (κ : Nat → Nat)   : MU l yTrees_fell bTrees_fell 1 (none) 0 0 0 0 [.ref (γ.2.2.2 1)] γ A (INV γ A κ) (mQv (fun H => INV γ A (ku (ku κ 0 (0)) 1 (0)) H) A) :=
  mu_upv (κ := κ) (κ' := (ku (ku κ 0 (0)) 1 (0))) 2 (by decide) (by decide) (fun j h1 h2 h3 => by rcases (show j = 1 ∨ j = 2 ∨ j = 3 ∨ j = 4 ∨ j = 5 ∨ j = 6 ∨ j = 7 ∨ j = 8 ∨ j = 9 ∨ j = 10 by omega) with h | h | h | h | h | h | h | h | h | h <;> subst h <;> first | rfl | exact absurd rfl h1) (fun Z => c_Trees_fell l γ Z (γ.2.2.2 1) (κ 0) (κ 1) (κ 11) )

theorem k2_Names_put (l : Launch) (γ : gE) (A : Nat → Prop) (κ : Nat → Nat) (x1 : Int32) (x2 : Int32) (x3 : Int32) (x4 : Int32) (hN : κ 2 ≤ 4000) : MU l yNames_put bNames_put 6 (none) 3 103 (0 + wc (κ 12) (κ 2 + 1) + wc (κ 12) (κ 2 + 1) + wc (κ 12) (κ 2 + 1) + wc (κ 12) (κ 2 + 1) + wc (κ 12) (κ 2 + 1)) (0 + wm (κ 12) (κ 2 + 1) + wm (κ 12) (κ 2 + 1) + wm (κ 12) (κ 2 + 1) + wm (κ 12) (κ 2 + 1) + wm (κ 12) (κ 2 + 1)) [.ref (γ.2.2.2 2), .int x1, .int x2, .int x3, .int x4] γ A (INV γ A κ) (mQv (fun H => INV γ A (ku (ku κ 2 (κ 2 + 1)) 12 (wl (κ 12) (κ 2 + 1))) H) A) :=
  mu_upv (κ := κ) (κ' := (ku (ku κ 2 (κ 2 + 1)) 12 (wl (κ 12) (κ 2 + 1)))) 3 (by decide) (by decide) (fun j h1 h2 h3 => by rcases (show j = 1 ∨ j = 2 ∨ j = 3 ∨ j = 4 ∨ j = 5 ∨ j = 6 ∨ j = 7 ∨ j = 8 ∨ j = 9 ∨ j = 10 by omega) with h | h | h | h | h | h | h | h | h | h <;> subst h <;> first | rfl | exact absurd rfl h1) (fun Z => c_Names_put l γ Z (γ.2.2.2 2) (κ 2) (κ 3) (κ 12) x1 x2 x3 x4 hN)

theorem k2_Names_open (l : Launch) (γ : gE) (A : Nat → Prop) (κ : Nat → Nat)  (hsc : κ 3 < 32) : MU l yNames_open bNames_open 1 (none) 0 0 0 0 [.ref (γ.2.2.2 2)] γ A (INV γ A κ) (mQv (fun H => INV γ A (ku κ 3 (κ 3 + 1)) H) A) :=
  mu_upv (κ := κ) (κ' := (ku κ 3 (κ 3 + 1))) 3 (by decide) (by decide) (fun j h1 h2 h3 => by rcases (show j = 1 ∨ j = 2 ∨ j = 3 ∨ j = 4 ∨ j = 5 ∨ j = 6 ∨ j = 7 ∨ j = 8 ∨ j = 9 ∨ j = 10 by omega) with h | h | h | h | h | h | h | h | h | h <;> subst h <;> first | rfl | exact absurd rfl h1) (fun Z => c_Names_open l γ Z (γ.2.2.2 2) (κ 2) (κ 3) (κ 12) hsc)

theorem k3_Types_put (l : Launch) (γ : gE) (A : Nat → Prop) (κ : Nat → Nat) (x1 : Int32) (x2 : Int32) (x3 : Int32) (x4 : Int32) (hN : κ 4 ≤ 4000) : MU l yTypes_put bTypes_put 5 (some .int) 3 103 (0 + wc (κ 13) (κ 4 + 1) + wc (κ 13) (κ 4 + 1) + wc (κ 13) (κ 4 + 1) + wc (κ 13) (κ 4 + 1)) (0 + wm (κ 13) (κ 4 + 1) + wm (κ 13) (κ 4 + 1) + wm (κ 13) (κ 4 + 1) + wm (κ 13) (κ 4 + 1)) [.ref (γ.2.2.2 3), .int x1, .int x2, .int x3, .int x4] γ A (INV γ A κ) (mQi (fun r H => r = nI (κ 4) ∧ INV γ A (ku (ku κ 4 (κ 4 + 1)) 13 (wl (κ 13) (κ 4 + 1))) H) A) :=
  mu_upi (κ := κ) (κ' := (ku (ku κ 4 (κ 4 + 1)) 13 (wl (κ 13) (κ 4 + 1)))) (T := fun r => r = nI (κ 4)) 4 (by decide) (by decide) (fun j h1 h2 h3 => by rcases (show j = 1 ∨ j = 2 ∨ j = 3 ∨ j = 4 ∨ j = 5 ∨ j = 6 ∨ j = 7 ∨ j = 8 ∨ j = 9 ∨ j = 10 by omega) with h | h | h | h | h | h | h | h | h | h <;> subst h <;> first | rfl | exact absurd rfl h1) (fun Z => c_Types_put l γ Z (γ.2.2.2 3) (κ 4) (κ 13) x1 x2 x3 x4 hN)
theorem qn_f0b29a9b3b : (Cond.methodLinkNest R_Objects 38 yTypeBook_withRoom "TypeBook") ∈ lw_tbl := in_tables_1_5 (List.mem_of_getElem? (i := 88) rfl)
theorem qw_c89579b831 : (Cond.methodLink R_Objects 42 yRows_makeRoom) ∈ bs_W0 := bs_in (in_tables_1_5 (List.mem_of_getElem? (i := 89) rfl)) rfl
set_option maxHeartbeats 4000000 in
set_option maxRecDepth 100000 in
theorem k_Objects_put (l : Launch) (γ : gE) (A : Nat → Prop) (κ : Nat → Nat) (x1 : Int32) (x2 : Int32) (hN : κ 5 ≤ 4000) : MU l yObjects_put bObjects_put 3 (some .int) 3 103 (0 + wc (κ 14) (κ 5 + 1) + wc (κ 14) (κ 5 + 1) + wc (κ 14) (κ 5 + 1) + wc (κ 8) (κ 5 + 1)) (0 + wm (κ 14) (κ 5 + 1) + wm (κ 14) (κ 5 + 1) + wm (κ 14) (κ 5 + 1) + 4 * wm (κ 8) (κ 5 + 1)) [.ref (γ.2.2.2 4), .int x1, .int x2] γ A (INV γ A κ) (mQi (fun r H => r = nI (κ 5) ∧ INV γ A (ku (ku (ku κ 14 (wl (κ 14) (κ 5 + 1))) 8 (wl (κ 8) (κ 5 + 1))) 5 (κ 5 + 1)) H) A) := by
  refine mu_openI (by decide) (Nat.le_of_ble_eq_true rfl) ?_
  intro p e s m args below meth c ls Q S hnm hC hA hI hE hl
  obtain ⟨hx, hb, hml, hown, hW⟩ := id S
  have hS : va_S A s.heap s.heap [] := va_S.rf
  have hl : lv_has ls 3 [(0, .ref (γ.2.2.2 4)), (1, .int x1), (2, .int x2)] := hl
  have hb9 : κ 14 ≤ 8192 ∧ κ 5 ≤ κ 14 ∧ 16 ≤ κ 14 := (by obtain ⟨_, w9, ⟨_, _, _, _, _, _, _, h1, h2, h3⟩, _, _⟩ := inv_c hI 5 (by decide) (by decide); exact ⟨h2, h1, h3⟩)
  have hwl := wl_ok (n := κ 14) (N := κ 5 + 1) (by omega) (by omega)
  refine lv_aload_n hx hb dObjects_put_0 rfl (lv_at hl 0 rfl) ?_
  refine lv_aload_n hx hb dObjects_put_1 rfl (lv_at hl 0 rfl) ?_
  obtain ⟨Z_3, ⟨ws_3, ⟨b0_3, b1_3, b2_3, f0_3, f1_3, f2_3, rfl, h1_3, h2_3, h3_3⟩, hP, hD⟩, hZn, hZA, hback⟩ := inv_lift hI (fun q h => hA q (Nat.le_trans hS.1 h)) 5 (by decide) (by decide)
  have hP : va_P γ.1 vwCl [(γ.2.2.2 4, .inr (4, [.ref b0_3, .ref b1_3, .ref b2_3, .ref (γ.2.2.2 5), .int (nI (κ 5))])), (b0_3, .inl (γ.2.1, (κ 14), .inl f0_3)), (b1_3, .inl (γ.2.1, (κ 14), .inl f1_3)), (b2_3, .inl (γ.2.1, (κ 14), .inl f2_3))] _ := hP
  have hD : va_D Z_3 [(γ.2.2.2 4, .inr (4, [.ref b0_3, .ref b1_3, .ref b2_3, .ref (γ.2.2.2 5), .int (nI (κ 5))])), (b0_3, .inl (γ.2.1, (κ 14), .inl f0_3)), (b1_3, .inl (γ.2.1, (κ 14), .inl f1_3)), (b2_3, .inl (γ.2.1, (κ 14), .inl f2_3))] := hD
  have hfz := fz.rf Z_3 (H := _) hP
  refine va_get (D := γ.1) (ci := 4) (v := .ref b0_3) (C := R_Objects) (T := T_Objects) (N := 5) (Ts := bs_W0) hx hb hW in_Objects hown hC.1 hP 0 rfl rfl 0 (by decide) (hW _ qw_bb1fa418e1) (fun _ h9 => h9) rfl dObjects_put_2 ?_
  refine lv_aload_n hx hb dObjects_put_5 rfl (lv_at hl 0 rfl) ?_
  refine va_get (D := γ.1) (ci := 4) (v := .int (nI (κ 5))) (C := R_Objects) (T := T_Objects) (N := 5) (Ts := bs_W0) hx hb hW in_Objects hown hC.1 hP 0 rfl rfl 4 (by decide) (hW _ qw_1a9a6fdaf2) (fun _ h9 => h9) rfl dObjects_put_6 ?_
  refine lv_topi (fun v23 ev23 => ?_)
  refine lv_iconst (v := 1) hx hb dObjects_put_9 (by decide) ?_
  refine lv_iadd hx hb dObjects_put_10 ?_
  refine lv_topi (fun v24 ev24 => ?_)
  have ev24 : v24 = nI (κ 5 + 1) := by rw [ev24, ev23]; exact nI_add (κ 5) (1)
  obtain rfl : v24 = nI (κ 5 + 1) := ev24
  refine mu_Tr (rest := [.ref (γ.2.2.2 4)]) S hC (fun q h => hZn q (Nat.le_trans hfz.1 h)) hZA hS (c_withRoom l γ Z_3 b0_3 (κ 14) (κ 5 + 1) f0_3 _ (by omega) (by omega)) meTypeBook_withRoom (hC.2 _ qn_f0b29a9b3b rfl) ⟨Nat.le_of_ble_eq_true rfl, Nat.le_of_ble_eq_true rfl⟩ ⟨rfl, hD.2 1 _ rfl, hP 1 _ rfl⟩ rfl hl.1 rfl (Nat.le_of_ble_eq_true rfl) dObjects_put_11 ⟨(by show _ ≤ 0 + wc (κ 14) (κ 5 + 1) + wc (κ 14) (κ 5 + 1) + wc (κ 14) (κ 5 + 1) + wc (κ 8) (κ 5 + 1); omega), (by show _ ≤ 0 + wm (κ 14) (κ 5 + 1) + wm (κ 14) (κ 5 + 1) + wm (κ 14) (κ 5 + 1) + 4 * wm (κ 8) (κ 5 + 1); omega)⟩ (fun r25 Hr25 locs hPO hS _ _ => ?_)
  obtain ⟨g1r25, g2r25, g3r25, g4r25, fr25, g5r25, g6r25⟩ := hPO
  have hfz := hfz.step g3r25 (fun q h _ => g4r25 q h)
  obtain ⟨hP, hD⟩ := wr_join (i := 1) hP hD rfl g4r25 g5r25 g1r25 g2r25
  have hP : va_P γ.1 vwCl [(γ.2.2.2 4, .inr (4, [.ref b0_3, .ref b1_3, .ref b2_3, .ref (γ.2.2.2 5), .int (nI (κ 5))])), (r25, .inl (γ.2.1, wl (κ 14) (κ 5 + 1), .inl fr25)), (b1_3, .inl (γ.2.1, (κ 14), .inl f1_3)), (b2_3, .inl (γ.2.1, (κ 14), .inl f2_3))] _ := hP
  have hD : va_D Z_3 [(γ.2.2.2 4, .inr (4, [.ref b0_3, .ref b1_3, .ref b2_3, .ref (γ.2.2.2 5), .int (nI (κ 5))])), (r25, .inl (γ.2.1, wl (κ 14) (κ 5 + 1), .inl fr25)), (b1_3, .inl (γ.2.1, (κ 14), .inl f1_3)), (b2_3, .inl (γ.2.1, (κ 14), .inl f2_3))] := hD
  refine st_put (D := γ.1) (ci := 4) (v := .ref r25) (ty := .array .int) (C := R_Objects) (T := T_Objects) (N := 5) (Ts := bs_W0) hx hb hW in_Objects t_Objects t_Objects_ok n_Objects hown hC.1 hP hD hZA hS 0 rfl rfl 0 (by decide) (hW _ qw_bb1fa418e1) (fun _ h9 => h9) rfl (by decide +kernel) rfl rfl (Nat.le_of_ble_eq_true rfl) dObjects_put_14 (fun H locs hP1 hD1 hS hz ho => ?_)
  have hfz := hfz.put hz ho (hD.2 0 _ rfl)
  have hP := hP1
  have hD := hD1
  have hP : va_P γ.1 vwCl [(γ.2.2.2 4, .inr (4, [.ref r25, .ref b1_3, .ref b2_3, .ref (γ.2.2.2 5), .int (nI (κ 5))])), (r25, .inl (γ.2.1, wl (κ 14) (κ 5 + 1), .inl fr25)), (b1_3, .inl (γ.2.1, (κ 14), .inl f1_3)), (b2_3, .inl (γ.2.1, (κ 14), .inl f2_3))] _ := hP
  have hD : va_D Z_3 [(γ.2.2.2 4, .inr (4, [.ref r25, .ref b1_3, .ref b2_3, .ref (γ.2.2.2 5), .int (nI (κ 5))])), (r25, .inl (γ.2.1, wl (κ 14) (κ 5 + 1), .inl fr25)), (b1_3, .inl (γ.2.1, (κ 14), .inl f1_3)), (b2_3, .inl (γ.2.1, (κ 14), .inl f2_3))] := hD
  refine lv_aload_n hx hb dObjects_put_17 rfl (lv_at hl 0 rfl) ?_
  refine lv_aload_n hx hb dObjects_put_18 rfl (lv_at hl 0 rfl) ?_
  refine va_get (D := γ.1) (ci := 4) (v := .ref b1_3) (C := R_Objects) (T := T_Objects) (N := 5) (Ts := bs_W0) hx hb hW in_Objects hown hC.1 hP 0 rfl rfl 1 (by decide) (hW _ qw_541217fbcc) (fun _ h9 => h9) rfl dObjects_put_19 ?_
  refine lv_aload_n hx hb dObjects_put_22 rfl (lv_at hl 0 rfl) ?_
  refine va_get (D := γ.1) (ci := 4) (v := .int (nI (κ 5))) (C := R_Objects) (T := T_Objects) (N := 5) (Ts := bs_W0) hx hb hW in_Objects hown hC.1 hP 0 rfl rfl 4 (by decide) (hW _ qw_1a9a6fdaf2) (fun _ h9 => h9) rfl dObjects_put_23 ?_
  refine lv_topi (fun v26 ev26 => ?_)
  refine lv_iconst (v := 1) hx hb dObjects_put_26 (by decide) ?_
  refine lv_iadd hx hb dObjects_put_27 ?_
  refine lv_topi (fun v27 ev27 => ?_)
  have ev27 : v27 = nI (κ 5 + 1) := by rw [ev27, ev26]; exact nI_add (κ 5) (1)
  obtain rfl : v27 = nI (κ 5 + 1) := ev27
  refine mu_Tr (rest := [.ref (γ.2.2.2 4)]) S hC (fun q h => hZn q (Nat.le_trans hfz.1 h)) hZA hS (c_withRoom l γ Z_3 b1_3 (κ 14) (κ 5 + 1) f1_3 _ (by omega) (by omega)) meTypeBook_withRoom (hC.2 _ qn_f0b29a9b3b rfl) ⟨Nat.le_of_ble_eq_true rfl, Nat.le_of_ble_eq_true rfl⟩ ⟨rfl, hD.2 2 _ rfl, hP 2 _ rfl⟩ rfl hl.1 rfl (Nat.le_of_ble_eq_true rfl) dObjects_put_28 ⟨(by show _ ≤ 0 + wc (κ 14) (κ 5 + 1) + wc (κ 14) (κ 5 + 1) + wc (κ 14) (κ 5 + 1) + wc (κ 8) (κ 5 + 1); omega), (by show _ ≤ 0 + wm (κ 14) (κ 5 + 1) + wm (κ 14) (κ 5 + 1) + wm (κ 14) (κ 5 + 1) + 4 * wm (κ 8) (κ 5 + 1); omega)⟩ (fun r28 Hr28 locs hPO hS _ _ => ?_)
  obtain ⟨g1r28, g2r28, g3r28, g4r28, fr28, g5r28, g6r28⟩ := hPO
  have hfz := hfz.step g3r28 (fun q h _ => g4r28 q h)
  obtain ⟨hP, hD⟩ := wr_join (i := 2) hP hD rfl g4r28 g5r28 g1r28 g2r28
  have hP : va_P γ.1 vwCl [(γ.2.2.2 4, .inr (4, [.ref r25, .ref b1_3, .ref b2_3, .ref (γ.2.2.2 5), .int (nI (κ 5))])), (r25, .inl (γ.2.1, wl (κ 14) (κ 5 + 1), .inl fr25)), (r28, .inl (γ.2.1, wl (κ 14) (κ 5 + 1), .inl fr28)), (b2_3, .inl (γ.2.1, (κ 14), .inl f2_3))] _ := hP
  have hD : va_D Z_3 [(γ.2.2.2 4, .inr (4, [.ref r25, .ref b1_3, .ref b2_3, .ref (γ.2.2.2 5), .int (nI (κ 5))])), (r25, .inl (γ.2.1, wl (κ 14) (κ 5 + 1), .inl fr25)), (r28, .inl (γ.2.1, wl (κ 14) (κ 5 + 1), .inl fr28)), (b2_3, .inl (γ.2.1, (κ 14), .inl f2_3))] := hD
  refine st_put (D := γ.1) (ci := 4) (v := .ref r28) (ty := .array .int) (C := R_Objects) (T := T_Objects) (N := 5) (Ts := bs_W0) hx hb hW in_Objects t_Objects t_Objects_ok n_Objects hown hC.1 hP hD hZA hS 0 rfl rfl 1 (by decide) (hW _ qw_541217fbcc) (fun _ h9 => h9) rfl (by decide +kernel) rfl rfl (Nat.le_of_ble_eq_true rfl) dObjects_put_31 (fun H locs hP1 hD1 hS hz ho => ?_)
  have hfz := hfz.put hz ho (hD.2 0 _ rfl)
  have hP := hP1
  have hD := hD1
  have hP : va_P γ.1 vwCl [(γ.2.2.2 4, .inr (4, [.ref r25, .ref r28, .ref b2_3, .ref (γ.2.2.2 5), .int (nI (κ 5))])), (r25, .inl (γ.2.1, wl (κ 14) (κ 5 + 1), .inl fr25)), (r28, .inl (γ.2.1, wl (κ 14) (κ 5 + 1), .inl fr28)), (b2_3, .inl (γ.2.1, (κ 14), .inl f2_3))] _ := hP
  have hD : va_D Z_3 [(γ.2.2.2 4, .inr (4, [.ref r25, .ref r28, .ref b2_3, .ref (γ.2.2.2 5), .int (nI (κ 5))])), (r25, .inl (γ.2.1, wl (κ 14) (κ 5 + 1), .inl fr25)), (r28, .inl (γ.2.1, wl (κ 14) (κ 5 + 1), .inl fr28)), (b2_3, .inl (γ.2.1, (κ 14), .inl f2_3))] := hD
  refine lv_aload_n hx hb dObjects_put_34 rfl (lv_at hl 0 rfl) ?_
  refine lv_aload_n hx hb dObjects_put_35 rfl (lv_at hl 0 rfl) ?_
  refine va_get (D := γ.1) (ci := 4) (v := .ref b2_3) (C := R_Objects) (T := T_Objects) (N := 5) (Ts := bs_W0) hx hb hW in_Objects hown hC.1 hP 0 rfl rfl 2 (by decide) (hW _ qw_0ed5786ef0) (fun _ h9 => h9) rfl dObjects_put_36 ?_
  refine lv_aload_n hx hb dObjects_put_39 rfl (lv_at hl 0 rfl) ?_
  refine va_get (D := γ.1) (ci := 4) (v := .int (nI (κ 5))) (C := R_Objects) (T := T_Objects) (N := 5) (Ts := bs_W0) hx hb hW in_Objects hown hC.1 hP 0 rfl rfl 4 (by decide) (hW _ qw_1a9a6fdaf2) (fun _ h9 => h9) rfl dObjects_put_40 ?_
  refine lv_topi (fun v29 ev29 => ?_)
  refine lv_iconst (v := 1) hx hb dObjects_put_43 (by decide) ?_
  refine lv_iadd hx hb dObjects_put_44 ?_
  refine lv_topi (fun v30 ev30 => ?_)
  have ev30 : v30 = nI (κ 5 + 1) := by rw [ev30, ev29]; exact nI_add (κ 5) (1)
  obtain rfl : v30 = nI (κ 5 + 1) := ev30
  refine mu_Tr (rest := [.ref (γ.2.2.2 4)]) S hC (fun q h => hZn q (Nat.le_trans hfz.1 h)) hZA hS (c_withRoom l γ Z_3 b2_3 (κ 14) (κ 5 + 1) f2_3 _ (by omega) (by omega)) meTypeBook_withRoom (hC.2 _ qn_f0b29a9b3b rfl) ⟨Nat.le_of_ble_eq_true rfl, Nat.le_of_ble_eq_true rfl⟩ ⟨rfl, hD.2 3 _ rfl, hP 3 _ rfl⟩ rfl hl.1 rfl (Nat.le_of_ble_eq_true rfl) dObjects_put_45 ⟨(by show _ ≤ 0 + wc (κ 14) (κ 5 + 1) + wc (κ 14) (κ 5 + 1) + wc (κ 14) (κ 5 + 1) + wc (κ 8) (κ 5 + 1); omega), (by show _ ≤ 0 + wm (κ 14) (κ 5 + 1) + wm (κ 14) (κ 5 + 1) + wm (κ 14) (κ 5 + 1) + 4 * wm (κ 8) (κ 5 + 1); omega)⟩ (fun r31 Hr31 locs hPO hS _ _ => ?_)
  obtain ⟨g1r31, g2r31, g3r31, g4r31, fr31, g5r31, g6r31⟩ := hPO
  have hfz := hfz.step g3r31 (fun q h _ => g4r31 q h)
  obtain ⟨hP, hD⟩ := wr_join (i := 3) hP hD rfl g4r31 g5r31 g1r31 g2r31
  have hP : va_P γ.1 vwCl [(γ.2.2.2 4, .inr (4, [.ref r25, .ref r28, .ref b2_3, .ref (γ.2.2.2 5), .int (nI (κ 5))])), (r25, .inl (γ.2.1, wl (κ 14) (κ 5 + 1), .inl fr25)), (r28, .inl (γ.2.1, wl (κ 14) (κ 5 + 1), .inl fr28)), (r31, .inl (γ.2.1, wl (κ 14) (κ 5 + 1), .inl fr31))] _ := hP
  have hD : va_D Z_3 [(γ.2.2.2 4, .inr (4, [.ref r25, .ref r28, .ref b2_3, .ref (γ.2.2.2 5), .int (nI (κ 5))])), (r25, .inl (γ.2.1, wl (κ 14) (κ 5 + 1), .inl fr25)), (r28, .inl (γ.2.1, wl (κ 14) (κ 5 + 1), .inl fr28)), (r31, .inl (γ.2.1, wl (κ 14) (κ 5 + 1), .inl fr31))] := hD
  refine st_put (D := γ.1) (ci := 4) (v := .ref r31) (ty := .array .int) (C := R_Objects) (T := T_Objects) (N := 5) (Ts := bs_W0) hx hb hW in_Objects t_Objects t_Objects_ok n_Objects hown hC.1 hP hD hZA hS 0 rfl rfl 2 (by decide) (hW _ qw_0ed5786ef0) (fun _ h9 => h9) rfl (by decide +kernel) rfl rfl (Nat.le_of_ble_eq_true rfl) dObjects_put_48 (fun H locs hP1 hD1 hS hz ho => ?_)
  have hfz := hfz.put hz ho (hD.2 0 _ rfl)
  have hP := hP1
  have hD := hD1
  have hP : va_P γ.1 vwCl [(γ.2.2.2 4, .inr (4, [.ref r25, .ref r28, .ref r31, .ref (γ.2.2.2 5), .int (nI (κ 5))])), (r25, .inl (γ.2.1, wl (κ 14) (κ 5 + 1), .inl fr25)), (r28, .inl (γ.2.1, wl (κ 14) (κ 5 + 1), .inl fr28)), (r31, .inl (γ.2.1, wl (κ 14) (κ 5 + 1), .inl fr31))] _ := hP
  have hD : va_D Z_3 [(γ.2.2.2 4, .inr (4, [.ref r25, .ref r28, .ref r31, .ref (γ.2.2.2 5), .int (nI (κ 5))])), (r25, .inl (γ.2.1, wl (κ 14) (κ 5 + 1), .inl fr25)), (r28, .inl (γ.2.1, wl (κ 14) (κ 5 + 1), .inl fr28)), (r31, .inl (γ.2.1, wl (κ 14) (κ 5 + 1), .inl fr31))] := hD
  refine lv_aload_n hx hb dObjects_put_51 rfl (lv_at hl 0 rfl) ?_
  refine va_get (D := γ.1) (ci := 4) (v := .ref (γ.2.2.2 5)) (C := R_Objects) (T := T_Objects) (N := 5) (Ts := bs_W0) hx hb hW in_Objects hown hC.1 hP 0 rfl rfl 3 (by decide) (hW _ qw_f4aeeaf054) (fun _ h9 => h9) rfl dObjects_put_52 ?_
  refine lv_aload_n hx hb dObjects_put_55 rfl (lv_at hl 0 rfl) ?_
  refine va_get (D := γ.1) (ci := 4) (v := .int (nI (κ 5))) (C := R_Objects) (T := T_Objects) (N := 5) (Ts := bs_W0) hx hb hW in_Objects hown hC.1 hP 0 rfl rfl 4 (by decide) (hW _ qw_1a9a6fdaf2) (fun _ h9 => h9) rfl dObjects_put_56 ?_
  refine lv_topi (fun v32 ev32 => ?_)
  refine lv_iconst (v := 1) hx hb dObjects_put_59 (by decide) ?_
  refine lv_iadd hx hb dObjects_put_60 ?_
  refine lv_topi (fun v33 ev33 => ?_)
  have ev33 : v33 = nI (κ 5 + 1) := by rw [ev33, ev32]; exact nI_add (κ 5) (1)
  have hI : INV γ A (ku κ 14 (wl (κ 14) (κ 5 + 1))) _ := hback (ku κ 14 (wl (κ 14) (κ 5 + 1))) _ (fun j h1 h2 h3 => by rcases (show j = 1 ∨ j = 2 ∨ j = 3 ∨ j = 4 ∨ j = 5 ∨ j = 6 ∨ j = 7 ∨ j = 8 ∨ j = 9 ∨ j = 10 by omega) with h | h | h | h | h | h | h | h | h | h <;> subst h <;> first | rfl | exact absurd rfl h1) ⟨_, ⟨r25, r28, r31, fr25, fr28, fr31, rfl, (show (κ 5) ≤ (wl (κ 14) (κ 5 + 1)) by omega), (show (wl (κ 14) (κ 5 + 1)) ≤ 8192 by omega), (show 16 ≤ (wl (κ 14) (κ 5 + 1)) by omega)⟩, hP, hD⟩ hfz.1 hfz.2
  obtain rfl : v33 = nI (κ 5 + 1) := ev33
  refine mu_Vv (rest := []) S hC (fun q h => hA q (Nat.le_trans hS.1 h)) (fun q h => h) hS (k5_Rows_makeRoom l γ A (ku κ 14 (wl (κ 14) (κ 5 + 1))) (κ 5 + 1) (by omega)) meRows_makeRoom qw_c89579b831 ⟨Nat.le_of_ble_eq_true rfl, Nat.le_of_ble_eq_true rfl⟩ (rv_5 hC hI) hI rfl hl.1 rfl (Nat.le_of_ble_eq_true rfl) dObjects_put_61 ⟨(by show 0 + wc (κ 14) (κ 5 + 1) + wc (κ 14) (κ 5 + 1) + wc (κ 14) (κ 5 + 1) + (wc (κ 8) (κ 5 + 1)) ≤ 0 + wc (κ 14) (κ 5 + 1) + wc (κ 14) (κ 5 + 1) + wc (κ 14) (κ 5 + 1) + wc (κ 8) (κ 5 + 1); omega), (by show 0 + wm (κ 14) (κ 5 + 1) + wm (κ 14) (κ 5 + 1) + wm (κ 14) (κ 5 + 1) + (4 * wm (κ 8) (κ 5 + 1)) ≤ 0 + wm (κ 14) (κ 5 + 1) + wm (κ 14) (κ 5 + 1) + wm (κ 14) (κ 5 + 1) + 4 * wm (κ 8) (κ 5 + 1); omega)⟩ (fun H locs hI hS _ _ => ?_)
  refine W.cs (cells' := 0 + wc (κ 14) (κ 5 + 1) + wc (κ 14) (κ 5 + 1) + wc (κ 14) (κ 5 + 1) + (wc (κ 8) (κ 5 + 1))) (slots' := 0 + wm (κ 14) (κ 5 + 1) + wm (κ 14) (κ 5 + 1) + wm (κ 14) (κ 5 + 1) + (4 * wm (κ 8) (κ 5 + 1))) rfl rfl ?_
  have hI : INV γ A (ku (ku κ 14 (wl (κ 14) (κ 5 + 1))) 8 (wl (κ 8) (κ 5 + 1))) _ := hI
  refine lv_aload_n hx hb dObjects_put_64 rfl (lv_at hl 0 rfl) ?_
  obtain ⟨Z_4, ⟨ws_4, ⟨b0_4, b1_4, b2_4, f0_4, f1_4, f2_4, rfl, h1_4, h2_4, h3_4⟩, hP, hD⟩, hZn, hZA, hback⟩ := inv_lift hI (fun q h => hA q (Nat.le_trans hS.1 h)) 5 (by decide) (by decide)
  have hP : va_P γ.1 vwCl [(γ.2.2.2 4, .inr (4, [.ref b0_4, .ref b1_4, .ref b2_4, .ref (γ.2.2.2 5), .int (nI (κ 5))])), (b0_4, .inl (γ.2.1, (wl (κ 14) (κ 5 + 1)), .inl f0_4)), (b1_4, .inl (γ.2.1, (wl (κ 14) (κ 5 + 1)), .inl f1_4)), (b2_4, .inl (γ.2.1, (wl (κ 14) (κ 5 + 1)), .inl f2_4))] _ := hP
  have hD : va_D Z_4 [(γ.2.2.2 4, .inr (4, [.ref b0_4, .ref b1_4, .ref b2_4, .ref (γ.2.2.2 5), .int (nI (κ 5))])), (b0_4, .inl (γ.2.1, (wl (κ 14) (κ 5 + 1)), .inl f0_4)), (b1_4, .inl (γ.2.1, (wl (κ 14) (κ 5 + 1)), .inl f1_4)), (b2_4, .inl (γ.2.1, (wl (κ 14) (κ 5 + 1)), .inl f2_4))] := hD
  have hfz := fz.rf Z_4 (H := _) hP
  refine va_get (D := γ.1) (ci := 4) (v := .ref b0_4) (C := R_Objects) (T := T_Objects) (N := 5) (Ts := bs_W0) hx hb hW in_Objects hown hC.1 hP 0 rfl rfl 0 (by decide) (hW _ qw_bb1fa418e1) (fun _ h9 => h9) rfl dObjects_put_65 ?_
  refine lv_aload_n hx hb dObjects_put_68 rfl (lv_at hl 0 rfl) ?_
  refine va_get (D := γ.1) (ci := 4) (v := .int (nI (κ 5))) (C := R_Objects) (T := T_Objects) (N := 5) (Ts := bs_W0) hx hb hW in_Objects hown hC.1 hP 0 rfl rfl 4 (by decide) (hW _ qw_1a9a6fdaf2) (fun _ h9 => h9) rfl dObjects_put_69 ?_
  refine lv_topi (fun v35 ev35 => ?_)
  refine lv_iload_n hx hb dObjects_put_72 rfl (lv_at hl 1 rfl) ?_
  refine st_iast hx hb hC.1 hP hD hZA hS 1 0 rfl rfl (by rw [ev35]; exact in_sz (by omega) (by omega)) dObjects_put_73 (fun H locs hP1 hD1 hS hz ho => ?_)
  have hfz := hfz.put hz ho (hD.2 1 _ rfl)
  have hP := hP1
  have hD := hD1
  obtain ⟨u36, eu36⟩ : ∃ z : Nat → Int32, z = upd f0_4 (v35).toNatClampNeg x1 := ⟨_, rfl⟩
  rw [← eu36] at hP hD
  have hP : va_P γ.1 vwCl [(γ.2.2.2 4, .inr (4, [.ref b0_4, .ref b1_4, .ref b2_4, .ref (γ.2.2.2 5), .int (nI (κ 5))])), (b0_4, .inl (γ.2.1, (wl (κ 14) (κ 5 + 1)), .inl u36)), (b1_4, .inl (γ.2.1, (wl (κ 14) (κ 5 + 1)), .inl f1_4)), (b2_4, .inl (γ.2.1, (wl (κ 14) (κ 5 + 1)), .inl f2_4))] _ := hP
  have hD : va_D Z_4 [(γ.2.2.2 4, .inr (4, [.ref b0_4, .ref b1_4, .ref b2_4, .ref (γ.2.2.2 5), .int (nI (κ 5))])), (b0_4, .inl (γ.2.1, (wl (κ 14) (κ 5 + 1)), .inl u36)), (b1_4, .inl (γ.2.1, (wl (κ 14) (κ 5 + 1)), .inl f1_4)), (b2_4, .inl (γ.2.1, (wl (κ 14) (κ 5 + 1)), .inl f2_4))] := hD
  refine lv_aload_n hx hb dObjects_put_74 rfl (lv_at hl 0 rfl) ?_
  refine va_get (D := γ.1) (ci := 4) (v := .ref b1_4) (C := R_Objects) (T := T_Objects) (N := 5) (Ts := bs_W0) hx hb hW in_Objects hown hC.1 hP 0 rfl rfl 1 (by decide) (hW _ qw_541217fbcc) (fun _ h9 => h9) rfl dObjects_put_75 ?_
  refine lv_aload_n hx hb dObjects_put_78 rfl (lv_at hl 0 rfl) ?_
  refine va_get (D := γ.1) (ci := 4) (v := .int (nI (κ 5))) (C := R_Objects) (T := T_Objects) (N := 5) (Ts := bs_W0) hx hb hW in_Objects hown hC.1 hP 0 rfl rfl 4 (by decide) (hW _ qw_1a9a6fdaf2) (fun _ h9 => h9) rfl dObjects_put_79 ?_
  refine lv_topi (fun v37 ev37 => ?_)
  refine lv_iload_n hx hb dObjects_put_82 rfl (lv_at hl 2 rfl) ?_
  refine st_iast hx hb hC.1 hP hD hZA hS 2 0 rfl rfl (by rw [ev37]; exact in_sz (by omega) (by omega)) dObjects_put_83 (fun H locs hP1 hD1 hS hz ho => ?_)
  have hfz := hfz.put hz ho (hD.2 2 _ rfl)
  have hP := hP1
  have hD := hD1
  obtain ⟨u38, eu38⟩ : ∃ z : Nat → Int32, z = upd f1_4 (v37).toNatClampNeg x2 := ⟨_, rfl⟩
  rw [← eu38] at hP hD
  have hP : va_P γ.1 vwCl [(γ.2.2.2 4, .inr (4, [.ref b0_4, .ref b1_4, .ref b2_4, .ref (γ.2.2.2 5), .int (nI (κ 5))])), (b0_4, .inl (γ.2.1, (wl (κ 14) (κ 5 + 1)), .inl u36)), (b1_4, .inl (γ.2.1, (wl (κ 14) (κ 5 + 1)), .inl u38)), (b2_4, .inl (γ.2.1, (wl (κ 14) (κ 5 + 1)), .inl f2_4))] _ := hP
  have hD : va_D Z_4 [(γ.2.2.2 4, .inr (4, [.ref b0_4, .ref b1_4, .ref b2_4, .ref (γ.2.2.2 5), .int (nI (κ 5))])), (b0_4, .inl (γ.2.1, (wl (κ 14) (κ 5 + 1)), .inl u36)), (b1_4, .inl (γ.2.1, (wl (κ 14) (κ 5 + 1)), .inl u38)), (b2_4, .inl (γ.2.1, (wl (κ 14) (κ 5 + 1)), .inl f2_4))] := hD
  refine lv_aload_n hx hb dObjects_put_84 rfl (lv_at hl 0 rfl) ?_
  refine va_get (D := γ.1) (ci := 4) (v := .ref b2_4) (C := R_Objects) (T := T_Objects) (N := 5) (Ts := bs_W0) hx hb hW in_Objects hown hC.1 hP 0 rfl rfl 2 (by decide) (hW _ qw_0ed5786ef0) (fun _ h9 => h9) rfl dObjects_put_85 ?_
  refine lv_aload_n hx hb dObjects_put_88 rfl (lv_at hl 0 rfl) ?_
  refine va_get (D := γ.1) (ci := 4) (v := .int (nI (κ 5))) (C := R_Objects) (T := T_Objects) (N := 5) (Ts := bs_W0) hx hb hW in_Objects hown hC.1 hP 0 rfl rfl 4 (by decide) (hW _ qw_1a9a6fdaf2) (fun _ h9 => h9) rfl dObjects_put_89 ?_
  refine lv_topi (fun v39 ev39 => ?_)
  refine lv_iconst (v := 0) hx hb dObjects_put_92 (by decide) ?_
  refine st_iast hx hb hC.1 hP hD hZA hS 3 0 rfl rfl (by rw [ev39]; exact in_sz (by omega) (by omega)) dObjects_put_93 (fun H locs hP1 hD1 hS hz ho => ?_)
  have hfz := hfz.put hz ho (hD.2 3 _ rfl)
  have hP := hP1
  have hD := hD1
  obtain ⟨u40, eu40⟩ : ∃ z : Nat → Int32, z = upd f2_4 (v39).toNatClampNeg 0 := ⟨_, rfl⟩
  rw [← eu40] at hP hD
  have hP : va_P γ.1 vwCl [(γ.2.2.2 4, .inr (4, [.ref b0_4, .ref b1_4, .ref b2_4, .ref (γ.2.2.2 5), .int (nI (κ 5))])), (b0_4, .inl (γ.2.1, (wl (κ 14) (κ 5 + 1)), .inl u36)), (b1_4, .inl (γ.2.1, (wl (κ 14) (κ 5 + 1)), .inl u38)), (b2_4, .inl (γ.2.1, (wl (κ 14) (κ 5 + 1)), .inl u40))] _ := hP
  have hD : va_D Z_4 [(γ.2.2.2 4, .inr (4, [.ref b0_4, .ref b1_4, .ref b2_4, .ref (γ.2.2.2 5), .int (nI (κ 5))])), (b0_4, .inl (γ.2.1, (wl (κ 14) (κ 5 + 1)), .inl u36)), (b1_4, .inl (γ.2.1, (wl (κ 14) (κ 5 + 1)), .inl u38)), (b2_4, .inl (γ.2.1, (wl (κ 14) (κ 5 + 1)), .inl u40))] := hD
  refine lv_aload_n hx hb dObjects_put_94 rfl (lv_at hl 0 rfl) ?_
  refine lv_dup hx hb dObjects_put_95 rfl ?_
  refine va_get (D := γ.1) (ci := 4) (v := .int (nI (κ 5))) (C := R_Objects) (T := T_Objects) (N := 5) (Ts := bs_W0) hx hb hW in_Objects hown hC.1 hP 0 rfl rfl 4 (by decide) (hW _ qw_1a9a6fdaf2) (fun _ h9 => h9) rfl dObjects_put_96 ?_
  refine lv_topi (fun v41 ev41 => ?_)
  refine lv_iconst (v := 1) hx hb dObjects_put_99 (by decide) ?_
  refine lv_iadd hx hb dObjects_put_100 ?_
  refine lv_topi (fun v42 ev42 => ?_)
  have ev42 : v42 = nI (κ 5 + 1) := by rw [ev42, ev41]; exact nI_add (κ 5) (1)
  obtain rfl : v42 = nI (κ 5 + 1) := ev42
  refine st_put (D := γ.1) (ci := 4) (v := .int (nI (κ 5 + 1))) (ty := .int) (C := R_Objects) (T := T_Objects) (N := 5) (Ts := bs_W0) hx hb hW in_Objects t_Objects t_Objects_ok n_Objects hown hC.1 hP hD hZA hS 0 rfl rfl 4 (by decide) (hW _ qw_1a9a6fdaf2) (fun _ h9 => h9) rfl (by decide +kernel) rfl rfl (Nat.le_of_ble_eq_true rfl) dObjects_put_101 (fun H locs hP1 hD1 hS hz ho => ?_)
  have hfz := hfz.put hz ho (hD.2 0 _ rfl)
  have hP := hP1
  have hD := hD1
  have hP : va_P γ.1 vwCl [(γ.2.2.2 4, .inr (4, [.ref b0_4, .ref b1_4, .ref b2_4, .ref (γ.2.2.2 5), .int (nI (κ 5 + 1))])), (b0_4, .inl (γ.2.1, (wl (κ 14) (κ 5 + 1)), .inl u36)), (b1_4, .inl (γ.2.1, (wl (κ 14) (κ 5 + 1)), .inl u38)), (b2_4, .inl (γ.2.1, (wl (κ 14) (κ 5 + 1)), .inl u40))] _ := hP
  have hD : va_D Z_4 [(γ.2.2.2 4, .inr (4, [.ref b0_4, .ref b1_4, .ref b2_4, .ref (γ.2.2.2 5), .int (nI (κ 5 + 1))])), (b0_4, .inl (γ.2.1, (wl (κ 14) (κ 5 + 1)), .inl u36)), (b1_4, .inl (γ.2.1, (wl (κ 14) (κ 5 + 1)), .inl u38)), (b2_4, .inl (γ.2.1, (wl (κ 14) (κ 5 + 1)), .inl u40))] := hD
  refine lv_aload_n hx hb dObjects_put_104 rfl (lv_at hl 0 rfl) ?_
  refine va_get (D := γ.1) (ci := 4) (v := .int (nI (κ 5 + 1))) (C := R_Objects) (T := T_Objects) (N := 5) (Ts := bs_W0) hx hb hW in_Objects hown hC.1 hP 0 rfl rfl 4 (by decide) (hW _ qw_1a9a6fdaf2) (fun _ h9 => h9) rfl dObjects_put_105 ?_
  refine lv_topi (fun v43 ev43 => ?_)
  refine lv_iconst (v := 1) hx hb dObjects_put_108 (by decide) ?_
  refine lv_isub hx hb dObjects_put_109 ?_
  refine lv_topi (fun v44 ev44 => ?_)
  have ev44 : v44 = nI (κ 5) := by rw [ev44, ev43]; exact nI_pred (κ 5)
  have hI : INV γ A (ku (ku (ku (ku κ 14 (wl (κ 14) (κ 5 + 1))) 8 (wl (κ 8) (κ 5 + 1))) 5 (κ 5 + 1)) 14 ((wl (κ 14) (κ 5 + 1)))) _ := hback (ku (ku (ku (ku κ 14 (wl (κ 14) (κ 5 + 1))) 8 (wl (κ 8) (κ 5 + 1))) 5 (κ 5 + 1)) 14 ((wl (κ 14) (κ 5 + 1)))) _ (fun j h1 h2 h3 => by rcases (show j = 1 ∨ j = 2 ∨ j = 3 ∨ j = 4 ∨ j = 5 ∨ j = 6 ∨ j = 7 ∨ j = 8 ∨ j = 9 ∨ j = 10 by omega) with h | h | h | h | h | h | h | h | h | h <;> subst h <;> first | rfl | exact absurd rfl h1) ⟨_, ⟨b0_4, b1_4, b2_4, u36, u38, u40, rfl, (show (κ 5 + 1) ≤ (wl (κ 14) (κ 5 + 1)) by omega), (show (wl (κ 14) (κ 5 + 1)) ≤ 8192 by omega), (show 16 ≤ (wl (κ 14) (κ 5 + 1)) by omega)⟩, hP, hD⟩ hfz.1 hfz.2
  have hQ := hE _ _ v44 110 ls hS ⟨ev44, hI⟩ dObjects_put_110
  refine W.cs (cells' := 0 + wc (κ 14) (κ 5 + 1) + wc (κ 14) (κ 5 + 1) + wc (κ 14) (κ 5 + 1) + wc (κ 8) (κ 5 + 1)) (slots' := 0 + wm (κ 14) (κ 5 + 1) + wm (κ 14) (κ 5 + 1) + wm (κ 14) (κ 5 + 1) + 4 * wm (κ 8) (κ 5 + 1)) (by omega) (by omega) ?_
  exact hQ
theorem qw_7bace46e86 : (Cond.methodLink R_Looker 56 yLooks_makeRoom) ∈ bs_W0 := bs_in (in_tables_1_2 (List.mem_of_getElem? (i := 228) rfl)) rfl
theorem qn_96bc77af43 : (Cond.methodLinkNest R_Looker 60 yTypeBook_withRoom "TypeBook") ∈ lw_tbl := in_tables_1_2 (List.mem_of_getElem? (i := 229) rfl)
set_option maxHeartbeats 4000000 in
set_option maxRecDepth 100000 in
theorem k_Looker_makeRoom (l : Launch) (γ : gE) (A : Nat → Prop) (κ : Nat → Nat) (N : Nat) (hN : N ≤ 4096) : MU l yLooker_makeRoom bLooker_makeRoom 2 (none) 4 124 (0 + (0 + wc (κ 7) (N) + wc (κ 7) (N) + wc (κ 7) (N) + wc (κ 7) (N) + wc (κ 7) (N) + wc (κ 10) N) + wc (κ 15) (N)) (0 + (0 + wm (κ 7) (N) + wm (κ 7) (N) + wm (κ 7) (N) + wm (κ 7) (N) + wm (κ 7) (N) + 4 * wm (κ 10) N) + wm (κ 15) (N)) [.ref (γ.2.2.2 8), .int (nI N)] γ A (INV γ A κ) (mQv (fun H => INV γ A (ku (ku (ku κ 7 (wl (κ 7) (N))) 10 (wl (κ 10) N)) 15 (wl (κ 15) (N))) H) A) := by
  refine mu_openV (by decide) (Nat.le_of_ble_eq_true rfl) ?_
  intro p e s m args below meth c ls Q S hnm hC hA hI hE hl
  obtain ⟨hx, hb, hml, hown, hW⟩ := id S
  have hS : va_S A s.heap s.heap [] := va_S.rf
  have hl : lv_has ls 2 [(0, .ref (γ.2.2.2 8)), (1, .int (nI N))] := hl
  have hb9 : κ 15 ≤ 8192 ∧ 64 ≤ κ 15 := (by obtain ⟨_, w9, ⟨_, _, _, _, _, h1, h2⟩, _, _⟩ := inv_c hI 1 (by decide) (by decide); exact ⟨h1, h2⟩)
  have hwl := wl_ok (n := κ 15) (N := N) (by omega) (by omega)
  refine lv_aload_n hx hb dLooker_makeRoom_0 rfl (lv_at hl 0 rfl) ?_
  refine of_get S hC (of_8_3 hI) in_Looker rfl (by decide) qw_77aeadf252 dLooker_makeRoom_1 ?_
  refine lv_iload_n hx hb dLooker_makeRoom_4 rfl (lv_at hl 1 rfl) ?_
  refine mu_Vv (rest := []) S hC (fun q h => hA q (Nat.le_trans hS.1 h)) (fun q h => h) hS (k9_Looks_makeRoom l γ A κ N (by omega)) meLooks_makeRoom qw_7bace46e86 ⟨Nat.le_of_ble_eq_true rfl, Nat.le_of_ble_eq_true rfl⟩ (rv_9 hC hI) hI rfl hl.1 rfl (Nat.le_of_ble_eq_true rfl) dLooker_makeRoom_5 ⟨(by show 0 + (0 + wc (κ 7) (N) + wc (κ 7) (N) + wc (κ 7) (N) + wc (κ 7) (N) + wc (κ 7) (N) + wc (κ 10) N) ≤ 0 + (0 + wc (κ 7) (N) + wc (κ 7) (N) + wc (κ 7) (N) + wc (κ 7) (N) + wc (κ 7) (N) + wc (κ 10) N) + wc (κ 15) (N); omega), (by show 0 + (0 + wm (κ 7) (N) + wm (κ 7) (N) + wm (κ 7) (N) + wm (κ 7) (N) + wm (κ 7) (N) + 4 * wm (κ 10) N) ≤ 0 + (0 + wm (κ 7) (N) + wm (κ 7) (N) + wm (κ 7) (N) + wm (κ 7) (N) + wm (κ 7) (N) + 4 * wm (κ 10) N) + wm (κ 15) (N); omega)⟩ (fun H locs hI hS _ _ => ?_)
  refine W.cs (cells' := 0 + (0 + wc (κ 7) (N) + wc (κ 7) (N) + wc (κ 7) (N) + wc (κ 7) (N) + wc (κ 7) (N) + wc (κ 10) N)) (slots' := 0 + (0 + wm (κ 7) (N) + wm (κ 7) (N) + wm (κ 7) (N) + wm (κ 7) (N) + wm (κ 7) (N) + 4 * wm (κ 10) N)) rfl rfl ?_
  have hI : INV γ A (ku (ku κ 7 (wl (κ 7) (N))) 10 (wl (κ 10) N)) _ := hI
  refine lv_aload_n hx hb dLooker_makeRoom_8 rfl (lv_at hl 0 rfl) ?_
  refine lv_aload_n hx hb dLooker_makeRoom_9 rfl (lv_at hl 0 rfl) ?_
  obtain ⟨Z_2, ⟨ws_2, ⟨b0_2, f0_2, vf_2, va_2, rfl, h1_2, h2_2⟩, hP, hD⟩, hZn, hZA, hback⟩ := inv_lift hI (fun q h => hA q (Nat.le_trans hS.1 h)) 1 (by decide) (by decide)
  have hP : va_P γ.1 vwCl [(γ.2.2.2 0, .inr (0, [.ref (γ.2.2.2 1), .ref (γ.2.2.2 2), .ref (γ.2.2.2 3), .ref (γ.2.2.2 4), .ref (γ.2.2.2 6), .ref (γ.2.2.2 8), .int vf_2])), (γ.2.2.2 8, .inr (7, [.ref (γ.2.2.2 1), .ref (γ.2.2.2 2), .ref (γ.2.2.2 3), .ref (γ.2.2.2 9), .ref (γ.2.2.2 11), .ref (γ.2.2.2 12), .ref b0_2, .int va_2])), (γ.2.2.2 11, .inr (8, [.ref (γ.2.2.2 9)])), (γ.2.2.2 12, .inr (9, [.ref (γ.2.2.2 1), .ref (γ.2.2.2 2), .ref (γ.2.2.2 3), .ref (γ.2.2.2 4), .ref (γ.2.2.2 9)])), (b0_2, .inl (γ.2.1, κ 15, .inl f0_2))] _ := hP
  have hD : va_D Z_2 [(γ.2.2.2 0, .inr (0, [.ref (γ.2.2.2 1), .ref (γ.2.2.2 2), .ref (γ.2.2.2 3), .ref (γ.2.2.2 4), .ref (γ.2.2.2 6), .ref (γ.2.2.2 8), .int vf_2])), (γ.2.2.2 8, .inr (7, [.ref (γ.2.2.2 1), .ref (γ.2.2.2 2), .ref (γ.2.2.2 3), .ref (γ.2.2.2 9), .ref (γ.2.2.2 11), .ref (γ.2.2.2 12), .ref b0_2, .int va_2])), (γ.2.2.2 11, .inr (8, [.ref (γ.2.2.2 9)])), (γ.2.2.2 12, .inr (9, [.ref (γ.2.2.2 1), .ref (γ.2.2.2 2), .ref (γ.2.2.2 3), .ref (γ.2.2.2 4), .ref (γ.2.2.2 9)])), (b0_2, .inl (γ.2.1, κ 15, .inl f0_2))] := hD
  have hfz := fz.rf Z_2 (H := _) hP
  refine va_get (D := γ.1) (ci := 7) (v := .ref b0_2) (C := R_Looker) (T := T_Looker) (N := 8) (Ts := bs_W0) hx hb hW in_Looker hown hC.1 hP 1 rfl rfl 6 (by decide) (hW _ qw_899a0812ea) (fun _ h9 => h9) rfl dLooker_makeRoom_10 ?_
  refine lv_iload_n hx hb dLooker_makeRoom_13 rfl (lv_at hl 1 rfl) ?_
  refine mu_Tr (rest := [.ref (γ.2.2.2 8)]) S hC (fun q h => hZn q (Nat.le_trans hfz.1 h)) hZA hS (c_withRoom l γ Z_2 b0_2 (κ 15) (N) f0_2 _ (by omega) (by omega)) meTypeBook_withRoom (hC.2 _ qn_96bc77af43 rfl) ⟨Nat.le_of_ble_eq_true rfl, Nat.le_of_ble_eq_true rfl⟩ ⟨rfl, hD.2 4 _ rfl, hP 4 _ rfl⟩ rfl hl.1 rfl (Nat.le_of_ble_eq_true rfl) dLooker_makeRoom_14 ⟨(by show _ ≤ 0 + (0 + wc (κ 7) (N) + wc (κ 7) (N) + wc (κ 7) (N) + wc (κ 7) (N) + wc (κ 7) (N) + wc (κ 10) N) + wc (κ 15) (N); omega), (by show _ ≤ 0 + (0 + wm (κ 7) (N) + wm (κ 7) (N) + wm (κ 7) (N) + wm (κ 7) (N) + wm (κ 7) (N) + 4 * wm (κ 10) N) + wm (κ 15) (N); omega)⟩ (fun r4 Hr4 locs hPO hS _ _ => ?_)
  obtain ⟨g1r4, g2r4, g3r4, g4r4, fr4, g5r4, g6r4⟩ := hPO
  have hfz := hfz.step g3r4 (fun q h _ => g4r4 q h)
  obtain ⟨hP, hD⟩ := wr_join (i := 4) hP hD rfl g4r4 g5r4 g1r4 g2r4
  have hP : va_P γ.1 vwCl [(γ.2.2.2 0, .inr (0, [.ref (γ.2.2.2 1), .ref (γ.2.2.2 2), .ref (γ.2.2.2 3), .ref (γ.2.2.2 4), .ref (γ.2.2.2 6), .ref (γ.2.2.2 8), .int vf_2])), (γ.2.2.2 8, .inr (7, [.ref (γ.2.2.2 1), .ref (γ.2.2.2 2), .ref (γ.2.2.2 3), .ref (γ.2.2.2 9), .ref (γ.2.2.2 11), .ref (γ.2.2.2 12), .ref b0_2, .int va_2])), (γ.2.2.2 11, .inr (8, [.ref (γ.2.2.2 9)])), (γ.2.2.2 12, .inr (9, [.ref (γ.2.2.2 1), .ref (γ.2.2.2 2), .ref (γ.2.2.2 3), .ref (γ.2.2.2 4), .ref (γ.2.2.2 9)])), (r4, .inl (γ.2.1, wl (κ 15) (N), .inl fr4))] _ := hP
  have hD : va_D Z_2 [(γ.2.2.2 0, .inr (0, [.ref (γ.2.2.2 1), .ref (γ.2.2.2 2), .ref (γ.2.2.2 3), .ref (γ.2.2.2 4), .ref (γ.2.2.2 6), .ref (γ.2.2.2 8), .int vf_2])), (γ.2.2.2 8, .inr (7, [.ref (γ.2.2.2 1), .ref (γ.2.2.2 2), .ref (γ.2.2.2 3), .ref (γ.2.2.2 9), .ref (γ.2.2.2 11), .ref (γ.2.2.2 12), .ref b0_2, .int va_2])), (γ.2.2.2 11, .inr (8, [.ref (γ.2.2.2 9)])), (γ.2.2.2 12, .inr (9, [.ref (γ.2.2.2 1), .ref (γ.2.2.2 2), .ref (γ.2.2.2 3), .ref (γ.2.2.2 4), .ref (γ.2.2.2 9)])), (r4, .inl (γ.2.1, wl (κ 15) (N), .inl fr4))] := hD
  refine st_put (D := γ.1) (ci := 7) (v := .ref r4) (ty := .array .int) (C := R_Looker) (T := T_Looker) (N := 8) (Ts := bs_W0) hx hb hW in_Looker t_Looker t_Looker_ok n_Looker hown hC.1 hP hD hZA hS 1 rfl rfl 6 (by decide) (hW _ qw_899a0812ea) (fun _ h9 => h9) rfl (by decide +kernel) rfl rfl (Nat.le_of_ble_eq_true rfl) dLooker_makeRoom_17 (fun H locs hP1 hD1 hS hz ho => ?_)
  have hfz := hfz.put hz ho (hD.2 1 _ rfl)
  have hP := hP1
  have hD := hD1
  have hP : va_P γ.1 vwCl [(γ.2.2.2 0, .inr (0, [.ref (γ.2.2.2 1), .ref (γ.2.2.2 2), .ref (γ.2.2.2 3), .ref (γ.2.2.2 4), .ref (γ.2.2.2 6), .ref (γ.2.2.2 8), .int vf_2])), (γ.2.2.2 8, .inr (7, [.ref (γ.2.2.2 1), .ref (γ.2.2.2 2), .ref (γ.2.2.2 3), .ref (γ.2.2.2 9), .ref (γ.2.2.2 11), .ref (γ.2.2.2 12), .ref r4, .int va_2])), (γ.2.2.2 11, .inr (8, [.ref (γ.2.2.2 9)])), (γ.2.2.2 12, .inr (9, [.ref (γ.2.2.2 1), .ref (γ.2.2.2 2), .ref (γ.2.2.2 3), .ref (γ.2.2.2 4), .ref (γ.2.2.2 9)])), (r4, .inl (γ.2.1, wl (κ 15) (N), .inl fr4))] _ := hP
  have hD : va_D Z_2 [(γ.2.2.2 0, .inr (0, [.ref (γ.2.2.2 1), .ref (γ.2.2.2 2), .ref (γ.2.2.2 3), .ref (γ.2.2.2 4), .ref (γ.2.2.2 6), .ref (γ.2.2.2 8), .int vf_2])), (γ.2.2.2 8, .inr (7, [.ref (γ.2.2.2 1), .ref (γ.2.2.2 2), .ref (γ.2.2.2 3), .ref (γ.2.2.2 9), .ref (γ.2.2.2 11), .ref (γ.2.2.2 12), .ref r4, .int va_2])), (γ.2.2.2 11, .inr (8, [.ref (γ.2.2.2 9)])), (γ.2.2.2 12, .inr (9, [.ref (γ.2.2.2 1), .ref (γ.2.2.2 2), .ref (γ.2.2.2 3), .ref (γ.2.2.2 4), .ref (γ.2.2.2 9)])), (r4, .inl (γ.2.1, wl (κ 15) (N), .inl fr4))] := hD
  have hI : INV γ A (ku (ku (ku κ 7 (wl (κ 7) (N))) 10 (wl (κ 10) N)) 15 (wl (κ 15) (N))) _ := hback (ku (ku (ku κ 7 (wl (κ 7) (N))) 10 (wl (κ 10) N)) 15 (wl (κ 15) (N))) _ (fun j h1 h2 h3 => by rcases (show j = 1 ∨ j = 2 ∨ j = 3 ∨ j = 4 ∨ j = 5 ∨ j = 6 ∨ j = 7 ∨ j = 8 ∨ j = 9 ∨ j = 10 by omega) with h | h | h | h | h | h | h | h | h | h <;> subst h <;> first | rfl | exact absurd rfl h1) ⟨_, ⟨r4, fr4, vf_2, va_2, rfl, (show (wl (κ 15) (N)) ≤ 8192 by omega), (show 64 ≤ (wl (κ 15) (N)) by omega)⟩, hP, hD⟩ hfz.1 hfz.2
  have hQ := hE _ _ 20 ls hS hI dLooker_makeRoom_20
  refine W.cs (cells' := 0 + (0 + wc (κ 7) (N) + wc (κ 7) (N) + wc (κ 7) (N) + wc (κ 7) (N) + wc (κ 7) (N) + wc (κ 10) N) + wc (κ 15) (N)) (slots' := 0 + (0 + wm (κ 7) (N) + wm (κ 7) (N) + wm (κ 7) (N) + wm (κ 7) (N) + wm (κ 7) (N) + 4 * wm (κ 10) N) + wm (κ 15) (N)) (by omega) (by omega) ?_
  exact hQ
theorem qw_14b8232d09 : (Cond.methodLink R_Looker 202 yTypes_put) ∈ bs_W0 := bs_in (in_tables_1_5 (List.mem_of_getElem? (i := 4) rfl)) rfl
set_option maxHeartbeats 4000000 in
set_option maxRecDepth 100000 in
theorem k_Looker_newType (l : Launch) (γ : gE) (A : Nat → Prop) (κ : Nat → Nat) (x1 : Int32) (hN : κ 4 ≤ 4000) : MU l yLooker_newType bLooker_newType 6 (some .int) 4 127 (0 + (0 + wc (κ 13) (κ 4 + 1) + wc (κ 13) (κ 4 + 1) + wc (κ 13) (κ 4 + 1) + wc (κ 13) (κ 4 + 1))) (0 + (0 + wm (κ 13) (κ 4 + 1) + wm (κ 13) (κ 4 + 1) + wm (κ 13) (κ 4 + 1) + wm (κ 13) (κ 4 + 1))) [.ref (γ.2.2.2 8), .int x1] γ A (INV γ A κ) (mQi (fun r H => r = nI (κ 4) ∧ INV γ A (ku (ku κ 4 (κ 4 + 1)) 13 (wl (κ 13) (κ 4 + 1))) H) A) := by
  refine mu_openI (by decide) (Nat.le_of_ble_eq_true rfl) ?_
  intro p e s m args below meth c ls Q S hnm hC hA hI hE hl
  obtain ⟨hx, hb, hml, hown, hW⟩ := id S
  have hS : va_S A s.heap s.heap [] := va_S.rf
  have hl : lv_has ls 6 [(0, .ref (γ.2.2.2 8)), (1, .int x1)] := hl
  have J90 : ∀ (ls : Array Slot) (H : Heap) (locs : List Loc) (i1 : Int32) (i2 : Int32) (i3 : Int32) (i4 : Int32) (i5 : Int32) (t0 : Int32) (t1 : Int32) (t2 : Int32) (t3 : Int32), INV γ A κ H → va_S A s.heap H locs → lv_has ls 6 [(0, .ref (γ.2.2.2 8)), (1, .int i1), (2, .int i2), (3, .int i3), (4, .int i4), (5, .int i5)] → W p l e (bs_rm 4 (0 + (0 + wc (κ 13) (κ 4 + 1) + wc (κ 13) (κ 4 + 1) + wc (κ 13) (κ 4 + 1) + wc (κ 13) (κ 4 + 1))) (0 + (0 + wm (κ 13) (κ 4 + 1) + wm (κ 13) (κ 4 + 1) + wm (κ 13) (κ 4 + 1) + wm (κ 13) (κ 4 + 1))) 127) s m args below meth c H locs 0 0 Q (F0 m 90 ls [.int t0, .int t1, .int t2, .int t3, .ref (γ.2.2.2 3)]) := by
    intro ls H locs i1 i2 i3 i4 i5 t0 t1 t2 t3 hI hS hl
    refine mu_Vi (rest := []) S hC (fun q h => hA q (Nat.le_trans hS.1 h)) (fun q h => h) hS (k3_Types_put l γ A κ t3 t2 t1 t0 (by show κ 4 ≤ 4000; omega)) meTypes_put qw_14b8232d09 ⟨Nat.le_of_ble_eq_true rfl, Nat.le_of_ble_eq_true rfl⟩ (rv_3 hC hI) hI rfl hl.1 rfl (Nat.le_of_ble_eq_true rfl) dLooker_newType_90 ⟨(by show 0 + (0 + wc (κ 13) (κ 4 + 1) + wc (κ 13) (κ 4 + 1) + wc (κ 13) (κ 4 + 1) + wc (κ 13) (κ 4 + 1)) ≤ 0 + (0 + wc (κ 13) (κ 4 + 1) + wc (κ 13) (κ 4 + 1) + wc (κ 13) (κ 4 + 1) + wc (κ 13) (κ 4 + 1)); omega), (by show 0 + (0 + wm (κ 13) (κ 4 + 1) + wm (κ 13) (κ 4 + 1) + wm (κ 13) (κ 4 + 1) + wm (κ 13) (κ 4 + 1)) ≤ 0 + (0 + wm (κ 13) (κ 4 + 1) + wm (κ 13) (κ 4 + 1) + wm (κ 13) (κ 4 + 1) + wm (κ 13) (κ 4 + 1)); omega)⟩ (fun r15 H locs ⟨hr15, hI⟩ hS _ _ => ?_)
    refine W.cs (cells' := 0 + (0 + wc (κ 13) (κ 4 + 1) + wc (κ 13) (κ 4 + 1) + wc (κ 13) (κ 4 + 1) + wc (κ 13) (κ 4 + 1))) (slots' := 0 + (0 + wm (κ 13) (κ 4 + 1) + wm (κ 13) (κ 4 + 1) + wm (κ 13) (κ 4 + 1) + wm (κ 13) (κ 4 + 1))) rfl rfl ?_
    have hI : INV γ A (ku (ku κ 4 (κ 4 + 1)) 13 (wl (κ 13) (κ 4 + 1))) _ := hI
    have er15 : r15 = nI (κ 4) := hr15
    have hQ := hE _ _ r15 93 ls hS ⟨er15, hI⟩ dLooker_newType_93
    refine W.cs (cells' := 0 + (0 + wc (κ 13) (κ 4 + 1) + wc (κ 13) (κ 4 + 1) + wc (κ 13) (κ 4 + 1) + wc (κ 13) (κ 4 + 1))) (slots' := 0 + (0 + wm (κ 13) (κ 4 + 1) + wm (κ 13) (κ 4 + 1) + wm (κ 13) (κ 4 + 1) + wm (κ 13) (κ 4 + 1))) (by omega) (by omega) ?_
    exact hQ
  refine lv_aload_n hx hb dLooker_newType_0 rfl (lv_at hl 0 rfl) ?_
  refine of_get S hC (of_8_0 hI) in_Looker rfl (by decide) qw_22d2793f25 dLooker_newType_1 ?_
  refine lv_iload_n hx hb dLooker_newType_4 rfl (lv_at hl 1 rfl) ?_
  refine pu_Vi (rest := []) S hC (k1_Trees_kindOf l γ A κ x1) meTrees_kindOf qw_f48a4a6aed ⟨Nat.le_of_ble_eq_true rfl, Nat.le_of_ble_eq_true rfl⟩ (rv_1 hC hI) hI rfl hl.1 rfl (Nat.le_of_ble_eq_true rfl) dLooker_newType_5 ⟨(by show _ ≤ 0 + (0 + wc (κ 13) (κ 4 + 1) + wc (κ 13) (κ 4 + 1) + wc (κ 13) (κ 4 + 1) + wc (κ 13) (κ 4 + 1)); omega), (by show _ ≤ 0 + (0 + wm (κ 13) (κ 4 + 1) + wm (κ 13) (κ 4 + 1) + wm (κ 13) (κ 4 + 1) + wm (κ 13) (κ 4 + 1)); omega)⟩ (fun r16 hr16 => ?_)
  refine lv_istore_n (lv' := [(2, .int r16), (0, .ref (γ.2.2.2 8)), (1, .int x1)]) hx hb dLooker_newType_8 rfl hl (by decide) rfl (fun ls hl => ?_)
  refine lv_aload_n hx hb dLooker_newType_9 rfl (lv_at hl 1 rfl) ?_
  refine of_get S hC (of_8_3 hI) in_Looker rfl (by decide) qw_77aeadf252 dLooker_newType_10 ?_
  refine lv_aload_n hx hb dLooker_newType_13 rfl (lv_at hl 1 rfl) ?_
  refine of_get S hC (of_8_0 hI) in_Looker rfl (by decide) qw_22d2793f25 dLooker_newType_14 ?_
  refine lv_iload_n hx hb dLooker_newType_17 rfl (lv_at hl 2 rfl) ?_
  refine pu_Vi (rest := [.ref (γ.2.2.2 9)]) S hC (k1_Trees_leftOfTwo l γ A κ x1) meTrees_leftOfTwo qw_844ff72d87 ⟨Nat.le_of_ble_eq_true rfl, Nat.le_of_ble_eq_true rfl⟩ (rv_1 hC hI) hI rfl hl.1 rfl (Nat.le_of_ble_eq_true rfl) dLooker_newType_18 ⟨(by show _ ≤ 0 + (0 + wc (κ 13) (κ 4 + 1) + wc (κ 13) (κ 4 + 1) + wc (κ 13) (κ 4 + 1) + wc (κ 13) (κ 4 + 1)); omega), (by show _ ≤ 0 + (0 + wm (κ 13) (κ 4 + 1) + wm (κ 13) (κ 4 + 1) + wm (κ 13) (κ 4 + 1) + wm (κ 13) (κ 4 + 1)); omega)⟩ (fun r17 hr17 => ?_)
  refine pu_Vi (rest := []) S hC (k9_Looks_numberOf l γ A κ r17) meLooks_numberOf qw_7e695d47da ⟨Nat.le_of_ble_eq_true rfl, Nat.le_of_ble_eq_true rfl⟩ (rv_9 hC hI) hI rfl hl.1 rfl (Nat.le_of_ble_eq_true rfl) dLooker_newType_21 ⟨(by show _ ≤ 0 + (0 + wc (κ 13) (κ 4 + 1) + wc (κ 13) (κ 4 + 1) + wc (κ 13) (κ 4 + 1) + wc (κ 13) (κ 4 + 1)); omega), (by show _ ≤ 0 + (0 + wm (κ 13) (κ 4 + 1) + wm (κ 13) (κ 4 + 1) + wm (κ 13) (κ 4 + 1) + wm (κ 13) (κ 4 + 1)); omega)⟩ (fun r18 hr18 => ?_)
  refine lv_istore_n (lv' := [(3, .int r18), (2, .int r16), (0, .ref (γ.2.2.2 8)), (1, .int x1)]) hx hb dLooker_newType_24 rfl hl (by decide) rfl (fun ls hl => ?_)
  refine lv_aload_n hx hb dLooker_newType_25 rfl (lv_at hl 2 rfl) ?_
  refine of_get S hC (of_8_3 hI) in_Looker rfl (by decide) qw_77aeadf252 dLooker_newType_26 ?_
  refine lv_iload_n hx hb dLooker_newType_29 rfl (lv_at hl 3 rfl) ?_
  refine lv_iconst (v := 1) hx hb dLooker_newType_30 (by decide) ?_
  refine lv_isub hx hb dLooker_newType_31 ?_
  refine lv_topi (fun v19 ev19 => ?_)
  refine pu_Vi (rest := []) S hC (k9_Looks_numberOf l γ A κ v19) meLooks_numberOf qw_7e695d47da ⟨Nat.le_of_ble_eq_true rfl, Nat.le_of_ble_eq_true rfl⟩ (rv_9 hC hI) hI rfl hl.1 rfl (Nat.le_of_ble_eq_true rfl) dLooker_newType_32 ⟨(by show _ ≤ 0 + (0 + wc (κ 13) (κ 4 + 1) + wc (κ 13) (κ 4 + 1) + wc (κ 13) (κ 4 + 1) + wc (κ 13) (κ 4 + 1)); omega), (by show _ ≤ 0 + (0 + wm (κ 13) (κ 4 + 1) + wm (κ 13) (κ 4 + 1) + wm (κ 13) (κ 4 + 1) + wm (κ 13) (κ 4 + 1)); omega)⟩ (fun r20 hr20 => ?_)
  refine lv_istore (lv' := [(4, .int r20), (3, .int r18), (2, .int r16), (0, .ref (γ.2.2.2 8)), (1, .int x1)]) hx hb dLooker_newType_35 hl (by decide) rfl (fun ls hl => ?_)
  refine lv_iload_n hx hb dLooker_newType_37 rfl (lv_at hl 2 rfl) ?_
  refine lv_bipush (v := 11) hx hb dLooker_newType_38 (by decide) ?_
  refine lv_icmp_ne (tgt := 56) hx hb dLooker_newType_40 (by decide) (fun c21 => ?_) (fun c21 => ?_)
  · refine lv_iload_n hx hb dLooker_newType_56 rfl (lv_at hl 2 rfl) ?_
    refine lv_iload_n hx hb dLooker_newType_57 rfl (lv_at hl 1 rfl) ?_
    refine lv_i2l hx hb dLooker_newType_58 rfl ?_
    refine lv_topl (fun v22 ev22 => ?_)
    refine lv_iload hx hb dLooker_newType_59 (lv_at hl 0 rfl) ?_
    refine lv_i2l hx hb dLooker_newType_61 rfl ?_
    refine lv_topl (fun v23 ev23 => ?_)
    refine pu_Sl (rest := []) S hC (s_Looker_elementsOf l γ (INV γ A κ) r16 v22 v23) meLooker_elementsOf qw_b544f0cdd0 ⟨Nat.le_of_ble_eq_true rfl, Nat.le_of_ble_eq_true rfl⟩ hI rfl hl.1 rfl (Nat.le_of_ble_eq_true rfl) dLooker_newType_62 ⟨(by show _ ≤ 0 + (0 + wc (κ 13) (κ 4 + 1) + wc (κ 13) (κ 4 + 1) + wc (κ 13) (κ 4 + 1) + wc (κ 13) (κ 4 + 1)); omega), (by show _ ≤ 0 + (0 + wm (κ 13) (κ 4 + 1) + wm (κ 13) (κ 4 + 1) + wm (κ 13) (κ 4 + 1) + wm (κ 13) (κ 4 + 1)); omega)⟩ (fun r24 hr24 => ?_)
    refine lv_l2i hx hb dLooker_newType_65 rfl ?_
    refine lv_topi (fun v25 ev25 => ?_)
    refine lv_istore (lv' := [(5, .int v25), (4, .int r20), (3, .int r18), (2, .int r16), (0, .ref (γ.2.2.2 8)), (1, .int x1)]) hx hb dLooker_newType_66 hl (by decide) rfl (fun ls hl => ?_)
    refine lv_aload_n hx hb dLooker_newType_68 rfl (lv_at hl 4 rfl) ?_
    refine of_get S hC (of_8_2 hI) in_Looker rfl (by decide) qw_abb87946e7 dLooker_newType_69 ?_
    refine lv_iconst (v := 3) hx hb dLooker_newType_72 (by decide) ?_
    refine lv_iload_n hx hb dLooker_newType_73 rfl (lv_at hl 2 rfl) ?_
    refine lv_iload hx hb dLooker_newType_74 (lv_at hl 1 rfl) ?_
    refine lv_iload_n hx hb dLooker_newType_76 rfl (lv_at hl 3 rfl) ?_
    refine lv_bipush (v := 13) hx hb dLooker_newType_77 (by decide) ?_
    refine lv_icmp_ne (tgt := 88) hx hb dLooker_newType_79 (by decide) (fun c26 => ?_) (fun c26 => ?_)
    · refine lv_iload hx hb dLooker_newType_88 (lv_at hl 0 rfl) ?_
      refine W.cs (cells' := 0) (slots' := 0) (by omega) (by omega) ?_
      exact J90 ls _ _ x1 r16 r18 r20 v25 v25 r20 r18 3 hI hS (lv_sub hl [4, 5, 3, 2, 1, 0] rfl)
    · refine lv_iload hx hb dLooker_newType_82 (lv_at hl 0 rfl) ?_
      refine lv_ineg hx hb dLooker_newType_84 ?_
      refine lv_topi (fun v27 ev27 => ?_)
      refine lv_goto (tgt := 90) hx hb dLooker_newType_85 (by decide) ?_
      refine W.cs (cells' := 0) (slots' := 0) (by omega) (by omega) ?_
      exact J90 ls _ _ x1 r16 r18 r20 v25 v27 r20 r18 3 hI hS (lv_sub hl [4, 5, 3, 2, 1, 0] rfl)
  · refine lv_aload_n hx hb dLooker_newType_43 rfl (lv_at hl 3 rfl) ?_
    refine of_get S hC (of_8_2 hI) in_Looker rfl (by decide) qw_abb87946e7 dLooker_newType_44 ?_
    refine lv_iconst (v := 2) hx hb dLooker_newType_47 (by decide) ?_
    refine lv_iload_n hx hb dLooker_newType_48 rfl (lv_at hl 1 rfl) ?_
    refine lv_iload hx hb dLooker_newType_49 (lv_at hl 0 rfl) ?_
    refine lv_iconst (v := 0) hx hb dLooker_newType_51 (by decide) ?_
    refine mu_Vi (rest := []) S hC (fun q h => hA q (Nat.le_trans hS.1 h)) (fun q h => h) hS (k3_Types_put l γ A κ 2 r18 r20 0 (by show κ 4 ≤ 4000; omega)) meTypes_put qw_14b8232d09 ⟨Nat.le_of_ble_eq_true rfl, Nat.le_of_ble_eq_true rfl⟩ (rv_3 hC hI) hI rfl hl.1 rfl (Nat.le_of_ble_eq_true rfl) dLooker_newType_52 ⟨(by show 0 + (0 + wc (κ 13) (κ 4 + 1) + wc (κ 13) (κ 4 + 1) + wc (κ 13) (κ 4 + 1) + wc (κ 13) (κ 4 + 1)) ≤ 0 + (0 + wc (κ 13) (κ 4 + 1) + wc (κ 13) (κ 4 + 1) + wc (κ 13) (κ 4 + 1) + wc (κ 13) (κ 4 + 1)); omega), (by show 0 + (0 + wm (κ 13) (κ 4 + 1) + wm (κ 13) (κ 4 + 1) + wm (κ 13) (κ 4 + 1) + wm (κ 13) (κ 4 + 1)) ≤ 0 + (0 + wm (κ 13) (κ 4 + 1) + wm (κ 13) (κ 4 + 1) + wm (κ 13) (κ 4 + 1) + wm (κ 13) (κ 4 + 1)); omega)⟩ (fun r28 H locs ⟨hr28, hI⟩ hS _ _ => ?_)
    refine W.cs (cells' := 0 + (0 + wc (κ 13) (κ 4 + 1) + wc (κ 13) (κ 4 + 1) + wc (κ 13) (κ 4 + 1) + wc (κ 13) (κ 4 + 1))) (slots' := 0 + (0 + wm (κ 13) (κ 4 + 1) + wm (κ 13) (κ 4 + 1) + wm (κ 13) (κ 4 + 1) + wm (κ 13) (κ 4 + 1))) rfl rfl ?_
    have hI : INV γ A (ku (ku κ 4 (κ 4 + 1)) 13 (wl (κ 13) (κ 4 + 1))) _ := hI
    have er28 : r28 = nI (κ 4) := hr28
    have hQ := hE _ _ r28 55 ls hS ⟨er28, hI⟩ dLooker_newType_55
    refine W.cs (cells' := 0 + (0 + wc (κ 13) (κ 4 + 1) + wc (κ 13) (κ 4 + 1) + wc (κ 13) (κ 4 + 1) + wc (κ 13) (κ 4 + 1))) (slots' := 0 + (0 + wm (κ 13) (κ 4 + 1) + wm (κ 13) (κ 4 + 1) + wm (κ 13) (κ 4 + 1) + wm (κ 13) (κ 4 + 1))) (by omega) (by omega) ?_
    exact hQ
-- THROWS: methods that return or throw (XM), the throw of a new exception, the caller that catches it
def tx_Q (Qc : Array Value → State → Outcome → State → Prop) (XC : String → Heap → Prop) (mc ms : Nat) (free : Addr → Prop) : Array Value → State → Outcome → State → Prop := fun a st o t =>
  (Qc a st o t ∧ ∃ L, FrameEnd st o t L mc ms ∧ ∀ q ∈ L, free q.base) ∨
  ∃ (q : Addr) (E : String) (ce : Cell) (L : List Loc), o = .threw q ∧ XC E t.heap ∧ t.heap[q]? = some ce ∧ ce.vm = .none ∧ st.vm.findClass E = some ce.cls ∧ st.WarmedH t.vm ∧ st.sameButNew ({ t with vm := st.vm } : State) L mc ms ∧ ∀ z ∈ L, free z.base
def tx_MQ (below : List Frame) (Qc : Array Value → State → Outcome → State → Prop) (XC : String → Heap → Prop) (a : Array Value) (s : State) (mc ms : Nat) (free : Addr → Prop) : State → Prop := fun t =>
  ∃ o, t.status = .running ∧ Ended t below o ∧ tx_Q Qc XC mc ms free a s o t
abbrev XM (l : Launch) (y : MethodName) (bytes : ByteArray) (maxL : Nat) (ret : Option FieldType) (fr lo mc ms : Nat) (av : List Value) (γ : gE) (A : Nat → Prop) (PS : State → Prop) (Qc : Array Value → State → Outcome → State → Prop) (XC : String → Heap → Prop) : Prop :=
  MetFree l y (headSpec (Cond.code y bytes maxL ret :: bs_W0) (bs_rm fr mc ms lo)) (va_Pc av (fun U => CX γ U ∧ (∀ q, U.heap.size ≤ q → A q) ∧ PS U)) (fun _ _ _ _ _ => True) (tx_Q Qc XC mc ms A)
/-- as seen from a start s0: warmer, and the old heap as it was -/
def FB (s0 U : State) (H : Heap) : Prop := s0.WarmedH U.vm ∧ s0.heap.size ≤ H.size ∧ ∀ a : Nat, a < s0.heap.size → H[a]? = s0.heap[a]?
theorem FB.warm {s0 s U : State} {H : Heap} (h : FB s0 s H) (hW : s.WarmedH U.vm) : FB s0 U H := ⟨State.WarmedH.trans h.1 hW, h.2⟩
theorem FB.same {s0 u U : State} {H : Heap} (h : FB s0 u H) (hv : u.vm = U.vm) : FB s0 U H := ⟨by rw [← hv]; exact h.1, h.2⟩
theorem FB.step {s0 U : State} {A : Nat → Prop} {H H1 : Heap} (h : FB s0 U H) (hA : ∀ q, A q → s0.heap.size ≤ q) (hz : H.size ≤ H1.size) (hk : ∀ q : Nat, q < H.size → ¬ A q → H1[q]? = H[q]?) : FB s0 U H1 :=
  ⟨h.1, Nat.le_trans h.2.1 hz, fun a ha => (hk a (Nat.lt_of_lt_of_le ha h.2.1) (fun h9 => absurd (hA a h9) (Nat.not_le_of_lt ha))).trans (h.2.2 a ha)⟩
theorem fb_lays {s0 U : State} {C n d : String} {args : Array Value} (hF : FB s0 U U.heap) (h : va_Nw (.laysStatic C n d) s0) : (Cond.laysStatic C n d).before args U = true := by
  obtain ⟨c, k, i, f, a, cell, h1, h2, h3, h4, h5, h6, h7, h8, h9⟩ := Cond.laysStatic_spec h
  obtain ⟨k', hi', he⟩ := State.fieldFound?_setVm hF.1.alike h2
  show (Cond.laysStatic C n d).holds args U none U [] = true
  exact Cond.laysStatic_of (by rw [hF.1.alike.findClass]; exact h1) hi' h3 (by rw [he]; exact h4) (by rw [hF.2.2 a (Array.getElem?_eq_some_iff.mp h5).1]; exact h5) h6 h7 h8 (by rw [he]; exact h9)
theorem fb_Z {s0 U : State} {C n d : String} {v : Value} {A : Nat → Prop} (hF : FB s0 U U.heap) (hA : ∀ q, A q → s0.heap.size ≤ q) (h : va_Z C n d v (fun q => s0.heap.size ≤ q) s0 s0.heap) : va_Z C n d v A U U.heap :=
  va_Z.narrow (va_Z.moved hF.1.alike (va_Z.kept h (fun a ha _ => hF.2.2 a ha))) hA
theorem fb_T {s0 U : State} {ty : FieldType} {t N : Nat} {f : Nat → Value} {A : Nat → Prop} (hF : FB s0 U U.heap) (hA : ∀ q, A q → s0.heap.size ≤ q) (h : va_T ty t N f (fun q => s0.heap.size ≤ q) s0 s0.heap) : va_T ty t N f A U U.heap :=
  va_T.narrow (va_T.moved hF.1.alike (va_T.kept h (fun a ha _ => hF.2.2 a ha))) hA
theorem fb_isRef {s0 U : State} {C n d : String} {args : Array Value} (hF : FB s0 U U.heap) (h : va_Zq C n d (fun q => s0.heap.size ≤ q) s0 s0.heap) : (Cond.isRef (.static C n d)).before args U = true := by
  have key : ∀ v : Value, v.isRef = true → va_Z C n d v (fun q => s0.heap.size ≤ q) s0 s0.heap → (Cond.isRef (.static C n d)).before args U = true := by
    intro v hv hz
    obtain ⟨cf, kf, fi, f, a, cell, h1, h2, h3, h4, h5, h6, h7, -⟩ := fb_Z hF (fun _ h => h) hz
    have he : (Term.static C n d).eval args U none [] U = some v := by
      simp [Term.eval, State.fieldNamed?, h1, h2, h4, h5, h6, h7]
    simp only [Cond.before, Cond.holds, Cond.value, he]
    cases v <;> simp_all [Value.isRef]
  rcases h with h | ⟨t, h⟩
  · exact key _ rfl h
  · exact key _ rfl h
theorem fw_c {P : Cond → Prop} {w : Cond} {L : List Cond} (h : P w) (t : ∀ w ∈ L, P w) : ∀ w' ∈ w :: L, P w' := fun w' h' => (List.mem_cons.mp h').elim (fun e => by rw [e]; exact h) (t w')
theorem fw_n {P : Cond → Prop} : ∀ w ∈ ([] : List Cond), P w := fun _ h => nomatch h
section TXA
variable {p : Program} {l : Launch} {e : Env} {R : Room} {s : State} {m : MethodId} {args : Array Value} {below : List Frame} {meth : Method} {c : Code} {H : Heap} {locs : List Loc} {cells slots : Nat} {Q : State → Prop}
variable {y : MethodName} {bytes cc : ByteArray} {maxL nL mc ms n index fr lo : Nat} {ret : Option FieldType} {own : String} {b : Addr} {As rest st0 av : List Value} {pc : Nat} {ls : Array Slot} {γ : gE} {PS : State → Prop} {A A0 : Nat → Prop} {H0 : Heap} {Qc : Array Value → State → Outcome → State → Prop} {XC : String → Heap → Prop} {T : State}
theorem tx_blind (hPS : ∀ u U : State, u.vm = U.vm → u.heap = U.heap → PS u → PS U) : FrameBlind (va_Pc av (fun U => CX γ U ∧ (∀ q, U.heap.size ≤ q → A q) ∧ PS U)) := fun _ U _ _ h => ⟨h.1, h.2.1.same rfl, h.2.2.1, hPS U _ rfl rfl h.2.2.2⟩
/-- opening -/
theorem tx_open (hy : plainName y.cls = true) (hn : (lg_sl av).length ≤ maxL)
    (body : ∀ (p : Program) (e : Env) (s : State) (m : MethodId) (below : List Frame) (meth : Method) (c : Code) (ls : Array Slot), bs_F p s m av.toArray c bytes maxL y.cls → meth.sig.returnType = ret → meth.locks = false → c.exceptionTable.toList = [] → CX γ s → (∀ q, s.heap.size ≤ q → A q) → PS s → lv_has ls maxL (lv_args 0 av) →
      W p l e (bs_rm fr mc ms lo) s m av.toArray below meth c s.heap [] 0 0 (tx_MQ below Qc XC av.toArray s mc ms A) (F0 m 0 ls [])) : XM l y bytes maxL ret fr lo mc ms av γ A PS Qc XC := by
  refine MetFree.of_bodyS (code := bytes) (maxLocals := maxL) (ret := ret) hy (fun a U k h hk => ?_) (fun p e s m a below meth c s₁ B hml hv _ => ?_)
  · obtain ⟨meth, c, h1, h2, h3, h4, h5, h6, -⟩ := Cond.code_spec hk (atoms_spec (ws := Cond.code y bytes maxL ret :: bs_W0) h _ List.mem_cons_self)
    exact ⟨meth, c, h1, h2, h3, h4, h5, h6⟩
  · obtain ⟨rfl, hC, hA, hP⟩ := hv
    have hall := atoms_spec (ws := Cond.code y bytes maxL ret :: bs_W0) B.pre
    obtain ⟨meth9, c9, h1, h2, -, -, -, -, h7, -⟩ := Cond.code_spec B.named (hall _ List.mem_cons_self)
    have X := Stand.of_body B
    have hX : c.exceptionTable.toList = [] := by
      cases Option.some.inj (B.method.symm.trans h1)
      cases Option.some.inj (X.code.symm.trans h2)
      have h0 : c.exceptionTable.size = 0 := by simpa [Array.isEmpty] using h7
      exact List.eq_nil_of_length_eq_zero (by simpa using h0)
    have hl := lv_entry av (n := maxL) hn
    have hh0 : s₁.heap = s.heap := by rw [B.state]; rfl
    have hb := body p e s m below meth c _ ⟨B.exec, B.bytes, hml, findClass_of_methodNamed B.named, bs_hts hall⟩ B.returns B.notSynchronized hX hC hA hP hl
    rw [← lg_entry_eq] at hb
    obtain ⟨t, a1, o, b1, b2, b3⟩ := hb s₁ hh0 X
    exact ⟨t, o, a1, b1, b2, b3⟩
/-- an end that returns -/
theorem tx_ret {g : JFrame} (k : W p l e R s m args below meth c H locs cells slots (MQ below Qc args s mc ms A) g) : W p l e R s m args below meth c H locs cells slots (tx_MQ below Qc XC args s mc ms A) g := by
  intro T hT X
  obtain ⟨t, h1, o, h2, h3, h4⟩ := k T hT X
  exact ⟨t, h1, o, h2, h3, Or.inl h4⟩
/-- the walk's point as a start of its own -/
theorem tx_here (X : Stand p l e R s m args below meth c T locs cells slots) {k j : Nat} (hc : cells + k ≤ R.cells) (hs : slots + j ≤ R.slots) :
    Stand p l e (bs_rm R.frames k j R.locals) ((T.setVm s.vm).setFrames (.invoking m args :: below)) m args below meth c T [] 0 0 := by
  have htop : (T.setVm s.vm).topJava?.isSome := X.here.top
  have hfr : ((T.setVm s.vm).setFrames (.invoking m args :: below)).frames = .invoking m args :: below := State.frames_setFrames _ (State.cur_lt_of_top htop)
  have hweight : ((T.setVm s.vm).setFrames (.invoking m args :: below)).localsInUse = s.localsInUse :=
    (State.localsInUse_invoking hfr X.method X.code).trans (State.localsInUse_invoking X.frames X.method X.code).symm
  have hlim : e.platform.stackLimits ((T.setVm s.vm).setFrames (.invoking m args :: below)).me = e.platform.stackLimits s.me := by
    rw [State.stackLimits_setFrames]
    exact X.limits
  have hby : ((T.setVm s.vm).setFrames (.invoking m args :: below)).me.stackBytes = s.me.stackBytes := by
    rw [State.stackBytes_setFrames]
    exact X.bytes
  have hroom : ((T.setVm s.vm).setFrames (.invoking m args :: below)).hasRoom e.platform (bs_rm R.frames k j R.locals) = true := by
    have h := X.room
    have q1 := X.heapSize
    have q2 := X.used
    simp only [State.hasRoom, Bool.and_eq_true, decide_eq_true_eq] at h ⊢
    obtain ⟨⟨⟨⟨a1, a2, a3, a4, a5, a6⟩, a7⟩, a8⟩, -⟩ := h
    rw [X.frames] at a2 a3
    rw [hweight, hlim, hby, hfr]
    have h7 : T.heap.size + k ≤ e.platform.maxCells := by omega
    have h8 : T.slotsUsed + j ≤ e.platform.maxSlots := by omega
    exact ⟨⟨⟨⟨a1, a2, a3, a4, a5, a6⟩, h7⟩, h8⟩, X.book⟩
  have hnone : ((T.heap.toList.drop T.heap.size).map (·.slots.size)).sum = 0 := by
    rw [List.drop_eq_nil_of_le (Nat.le_of_eq (by simp))]
    rfl
  obtain ⟨g₀, hg0⟩ := Option.isSome_iff_exists.mp htop
  obtain ⟨r, hr⟩ := State.topJava?_eq_some.mp hg0
  obtain ⟨t, ht, -⟩ := State.frames_cons hr
  have hself : T.setVm s.vm = { ((T.setVm s.vm).setFrames (.invoking m args :: below)).setFrames (T.setVm s.vm).frames with heap := T.heap, slotsUsed := T.slotsUsed } := by
    rw [State.setFrames_setFrames, State.setFrames_self ht]
    rfl
  exact ⟨X.admits, X.cas, X.clock, hfr, hroom, X.hears, X.method, X.code, X.here, X.tail, X.warmed, X.limits.trans hlim.symm, X.bytes.trans hby.symm,
    hself, Nat.le_refl _, Nat.le_refl _, by show T.slotsUsed = T.slotsUsed + ((T.heap.toList.drop T.heap.size).map (·.slots.size)).sum; rw [hnone]; rfl, by show ((T.heap.toList.drop T.heap.size).map (·.slots.size)).sum ≤ 0; rw [hnone]; exact Nat.le_refl _, fun a c9 h9 => ⟨c9, h9, rfl, rfl, fun _ _ => rfl⟩⟩
end TXA
section TXT
variable {p : Program} {l : Launch} {e : Env} {R : Room} {s s0 : State} {m : MethodId} {args : Array Value} {below : List Frame} {meth : Method} {c : Code} {H : Heap} {locs : List Loc} {cells slots : Nat}
variable {cc : ByteArray} {mc ms nL pc : Nat} {own : String} {rest : List Value} {ls : Array Slot} {A : Nat → Prop} {Qc : Array Value → State → Outcome → State → Prop} {XC : String → Heap → Prop}
/-- 'throw new E("..")' -/
theorem tx_throw {cls text : String} {names : List String} {ik is ic sa : Nat} (S : bs_F p s m args c cc nL own) (hl : l.stackTraces = false) (hX : c.exceptionTable.toList = []) (hlocks : meth.locks = false)
    (hcls : Bundle.fit cls = true) (hnames : ∀ n ∈ names, Bundle.fit n = true) (hk : Cond.classLink own ik cls ∈ bs_W0) (hini : Cond.initialized cls ∈ bs_W0)
    (hF : FB s0 s H) (hstr : vk_R own is text sa s0) (hat : ∀ U : State, FB s0 U U.heap → U.vm = s.vm → ∀ w ∈ Bundle.ownAtoms own ic cls names, w.before args U = true)
    (hsize : ls.size = nL) (d0 : decode cc pc = .ok (.new ik, 3)) (d3 : decode cc (pc + 3) = .ok (.dup, 1)) (d4 : decode cc (pc + 4) = .ok (.ldc is, 2)) (d6 : decode cc (pc + 6) = .ok (.invokespecial ic, 3)) (d9 : decode cc (pc + 9) = .ok (.athrow, 1))
    (hRf : names.length + 3 < R.frames) (hRl : (rest.map fun v => v.category).sum + (13 * (names.length + 1) + 43) ≤ R.locals) (hRc : cells + 1 ≤ R.cells) (hRs : slots + 6 ≤ R.slots)
    (hx : ∀ H1 : Heap, GR s.heap H1 (cells + 1) (slots + 6) → H.size ≤ H1.size → (∀ q : Nat, q < H.size → H1[q]? = H[q]?) → XC cls H1)
    (hf : ∀ z ∈ locs, A z.base) (hc : cells + 1 ≤ mc) (hs : slots + 6 ≤ ms) :
    W p l e R s m args below meth c H locs cells slots (tx_MQ below Qc XC args s mc ms A) (F0 m pc ls rest) := by
  intro T hT X
  obtain ⟨hx0, hb, hml, hown, hW⟩ := S
  subst hb
  have htr : e.platform.stackTraces = false := (show e.platform.stackTraces = l.stackTraces by rw [X.admits.platform]).trans hl
  have Y := tx_here X (k := 1) (j := 6) hRc hRs
  obtain ⟨u, hu⟩ : ∃ z, z = (T.setVm s.vm).setFrames (.invoking m args :: below) := ⟨_, rfl⟩
  rw [← hu] at Y
  have hv : u.vm = s.vm := by rw [hu]; rfl
  have hh : u.heap = H := by rw [hu]; exact hT
  have hWu : s.WarmedH u.vm := by rw [hv]; exact State.WarmedH.refl s
  have hFu : FB s0 u u.heap := by rw [hh]; exact hF.same hv.symm
  have hw : ∀ w ∈ bs_W0, w.before args u = true := fun w h => word_at hWu (good_of_word (List.mem_filter.mp h).2) (hW w h)
  have hatu := hat u hFu hv
  have hownu : u.vm.findClass own = some m.cls := by rw [hv]; exact hown
  obtain ⟨vm₁, cX, kX, hfX, hkX, -, -, X₁, st1⟩ := Y.newCold hx0 (own := own) (C := cls) (index := ik) (n := 6) hownu (hw _ hk) (hatu _ (by simp [Bundle.ownAtoms])) (hw _ hini) (g := F0 m pc ls rest) rfl d0 (Nat.le_refl _) (Nat.le_refl _)
  generalize hT1 : (T.setVm vm₁).pushCell { cls := cX, slots := kX.instanceTypes.map defaultValue, vm := .none } = T1 at X₁ st1
  have hcell : T1.heap[T.heap.size]? = some (freshCell cX kX) := by rw [← hT1]; exact State.heap_pushCell_size _ _
  have hstru : vk_R own is text sa u := vk_R.warm hFu.1 hstr
  have hcat : (Value.ref T.heap.size).category = 1 := rfl
  obtain ⟨U, hsteps, hrun, hend, hWU, hsame, ce, hce, hO⟩ := X₁.ctorThrowS hx0 htr (own := own) (cls := cls) (names := names) (ic := ic) hownu hcls hnames hatu (fun _ h => nomatch h) hfX hkX hcell (by rw [hh, hT]; exact Nat.le_refl _) (msg := .ref sa) rfl
    (g := F0 m (pc + 6) ls (.ref sa :: .ref T.heap.size :: .ref T.heap.size :: rest)) rfl (hsize.trans hml.symm) rfl rfl (rest := rest) rfl d6 d9 (by rw [hX]; exact fun _ h => nomatch h) hRf (by simp only [List.map_cons, List.sum_cons, hcat]; show 2 * 0 + _ + _ ≤ R.locals; omega) hlocks
  have hz : H.size ≤ U.heap.size := by
    have h9 := hsame.2.1
    rw [hh] at h9
    exact h9
  have ho : ∀ q : Nat, q < H.size → U.heap[q]? = H[q]? := by
    intro q hq
    obtain ⟨c9, hc9⟩ : ∃ z, u.heap[q]? = some z := ⟨_, Array.getElem?_eq_getElem (by rw [hh]; exact hq)⟩
    have h9 := State.sameButNew.old_cell hsame hc9
    rw [hh] at hc9
    exact h9.trans hc9.symm
  have hcl : s.vm.findClass cls = some ce.cls := by rw [← hv]; exact hO.cls
  have hall : s.sameButNew ({ U with vm := s.vm } : State) locs (cells + 1) (slots + 6) := by
    have h2 : (T.setVm s.vm).sameButNew ({ U with vm := s.vm } : State) [] (0 + 1) (0 + 6) := by
      rw [hu] at hsame
      obtain ⟨e1, e2⟩ := hsame
      rw [State.setFrames_setFrames] at e1
      exact ⟨e1, e2⟩
    have h3 := X.same.trans h2
    rw [List.append_nil] at h3
    exact h3
  have hG : GR s.heap U.heap (cells + 1) (slots + 6) := by
    obtain ⟨-, a2, a3, -, a5, a6⟩ := hall
    exact ⟨a2, a3, a5, fun a c h => by obtain ⟨c', b1, -, b3, -⟩ := a6 a c h; exact ⟨c', b1, b3⟩⟩
  refine ⟨U, ?_, .threw T.heap.size, hrun, hend, Or.inr ⟨T.heap.size, cls, ce, locs, rfl, hx U.heap hG hz ho, hce, hO.vm, hcl, State.WarmedH.trans hWu hWU, hall.mono hc hs, hf⟩⟩
  refine st1 _ ?_
  show Steps p.tables e below (T1.setTop (F0 m (pc + 3) ls (.ref T.heap.size :: rest))) _
  jvm_step X₁.here [X₁.here.top, hx0, d3, Value.category]
  exact X₁.ldcString hx0 (own := own) (text := text) (index := is) (a := sa) hownu hstru.1 hstru.2 (g := F0 m (pc + 4) ls (.ref T.heap.size :: .ref T.heap.size :: rest)) rfl d4 _ hsteps
theorem W.up {g : JFrame} {Q : State → Prop} {k n : Nat} (h1 : cells ≤ k) (h2 : slots ≤ n) (kk : W p l e R s m args below meth c H locs k n Q g) : W p l e R s m args below meth c H locs cells slots Q g :=
  W.know (fun a b _ => W.tight (Nat.le_trans a (Nat.add_le_add_left h1 _)) (Nat.le_trans b h2) kk)
/-- the end of a method that might have thrown -/
theorem tx_endI {PO : Int32 → Heap → Prop} {v : Int32} (S : bs_F p s m args c cc nL own) (hr : meth.sig.returnType = some .int) (hlk : meth.locks = false) (hS : va_S A s.heap H locs) (hc : cells ≤ mc) (hs : slots ≤ ms) (hp : GR s.heap H cells slots → PO v H) (hdg : decode cc pc = .ok (.ireturn, 1)) :
    W p l e R s m args below meth c H locs cells slots (tx_MQ below (mQi PO A) XC args s mc ms A) (F0 m pc ls [.int v]) := by
  refine W.know (fun a b d => ?_)
  have hpo := hp ⟨hS.1, a, b, d⟩
  refine W.up hc hs ?_
  refine tx_ret ?_
  exact W.iret S.1 S.2.1 hr (fun t ht _ => ⟨⟨v, v, rfl, rfl, by show PO v t.heap; rw [ht]; exact hpo⟩, hS.F ht⟩) hS.2.2 hdg hlk
end TXT
