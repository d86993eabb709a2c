theorem qn_1ebf0e5650 : (Cond.methodLinkNest R_Trees 39 yTypeBook_withRoom "TypeBook") ∈ lw_tbl := in_tables_1_2 (List.mem_of_getElem? (i := 190) rfl)
theorem qw_986a639143 : (Cond.fieldLink R_Trees 28 R_Trees "roots" "I") ∈ bs_W0 := bs_in (in_tables_1_1 (List.mem_of_getElem? (i := 44) rfl)) rfl
set_option maxHeartbeats 4000000 in
set_option maxRecDepth 100000 in
theorem c_Trees_grow (l : Launch) (γ : gE) (Z : Nat → Prop) (a N rt L : Nat) (x1 : Int32) (x2 : Int32) (k3 : Nat) (hN : N ≤ 4000) (hk3 : k3 ≤ rt) : MU l yTrees_grow bTrees_grow 7 (some .int) 3 103 (0 + wc L (N + 1) + wc L (N + 1) + wc L (N + 1) + wc L (N + 1)) (0 + wm L (N + 1) + wm L (N + 1) + wm L (N + 1) + wm L (N + 1)) [.ref a, .int x1, .int x2, .int (nI k3)] γ Z (cmp γ (fTrees γ a N rt L) Z) (mQi (fun r H => r = nI N ∧ cmp γ (fTrees γ a (N + 1) (rt + 1 - k3) (wl L (N + 1))) Z H) Z) := by
  refine mu_openI (by decide) (Nat.le_of_ble_eq_true rfl) ?_
  intro p e s m args below meth c ls Q S hnm hC hA hI hE hl
  obtain ⟨hx, hb, hml, hown, hW⟩ := id S
  have hS : va_S Z s.heap s.heap [] := va_S.rf
  have hl : lv_has ls 7 [(0, .ref a), (1, .int x1), (2, .int x2), (3, .int (nI k3))] := hl
  have hb9 : L ≤ 8192 ∧ N ≤ L := (by obtain ⟨w9, ⟨_, _, _, _, _, _, _, _, _, h1, h2, _⟩, _, _⟩ := id hI; exact ⟨h2, h1⟩)
  have hwl := wl_ok (n := L) (N := N + 1) (by omega) (by omega)
  have J73 : ∀ (N73 : Nat) (ls : Array Slot) (H : Heap) (locs : List Loc) (i1 : Int32) (i2 : Int32) (i3 : Int32) (i4 : Int32) (i5 : Int32) (i6 : Int32), cmp γ (fTrees γ a N rt (wl L (N + 1))) Z H → va_S Z s.heap H locs → (i3 = nI k3) → (i4 = nI N) → (¬ i5 < 0) → (2147483647 - i6.toInt).toNat = N73 → lv_has ls 7 [(0, .ref a), (1, .int i1), (2, .int i2), (3, .int i3), (4, .int i4), (5, .int i5), (6, .int i6)] → W p l e (bs_rm 3 (0 + wc L (N + 1) + wc L (N + 1) + wc L (N + 1) + wc L (N + 1)) (0 + wm L (N + 1) + wm L (N + 1) + wm L (N + 1) + wm L (N + 1)) 103) s m args below meth c H locs (0 + wc L (N + 1) + wc L (N + 1) + wc L (N + 1) + wc L (N + 1)) (0 + wm L (N + 1) + wm L (N + 1) + wm L (N + 1) + wm L (N + 1)) Q (F0 m 73 ls []) := by
    intro N73
    induction N73 using Nat.strongRecOn with
    | ind N73 ih73 =>
      intro ls H locs i1 i2 i3 i4 i5 i6 hI hS ei3 ei4 hq5 hm73 hl
      refine lv_iload hx hb dTrees_grow_73 (lv_at hl 6 rfl) ?_
      refine lv_iload_n hx hb dTrees_grow_75 rfl (lv_at hl 3 rfl) ?_
      refine lv_icmp_ge (tgt := 95) hx hb dTrees_grow_76 (by decide) (fun c23 => ?_) (fun c23 => ?_)
      · refine lv_aload_n hx hb dTrees_grow_95 rfl (lv_at hl 0 rfl) ?_
        obtain ⟨ws_4, ⟨b0_4, b1_4, b2_4, b3_4, f0_4, f1_4, f2_4, f3_4, rfl, h1_4, h2_4, h3_4, h4_4, h5_4, h6_4⟩, hP, hD⟩ := id hI
        have hP : va_P γ.1 vwCl [(a, .inr (1, [.ref b0_4, .ref b1_4, .ref b2_4, .ref b3_4, .int (nI N), .int (nI rt)])), (b0_4, .inl (γ.2.1, wl L (N + 1), .inl f0_4)), (b1_4, .inl (γ.2.1, wl L (N + 1), .inl f1_4)), (b2_4, .inl (γ.2.1, wl L (N + 1), .inl f2_4)), (b3_4, .inl (γ.2.1, wl L (N + 1), .inl f3_4))] _ := hP
        have hD : va_D Z [(a, .inr (1, [.ref b0_4, .ref b1_4, .ref b2_4, .ref b3_4, .int (nI N), .int (nI rt)])), (b0_4, .inl (γ.2.1, wl L (N + 1), .inl f0_4)), (b1_4, .inl (γ.2.1, wl L (N + 1), .inl f1_4)), (b2_4, .inl (γ.2.1, wl L (N + 1), .inl f2_4)), (b3_4, .inl (γ.2.1, wl L (N + 1), .inl f3_4))] := hD
        refine va_get (D := γ.1) (ci := 1) (v := .ref b0_4) (C := R_Trees) (T := T_Trees) (N := 6) (Ts := bs_W0) hx hb hW in_Trees hown hC.1 hP 0 rfl rfl 0 (by decide) (hW _ qw_ffd9ddfb57) (fun _ h9 => h9) rfl dTrees_grow_96 ?_
        refine lv_iload hx hb dTrees_grow_99 (lv_at hl 4 rfl) ?_
        refine lv_iload_n hx hb dTrees_grow_101 rfl (lv_at hl 1 rfl) ?_
        refine va_iast hx hb hC.1 hP hD hS 1 0 rfl rfl (by rw [ei4]; exact in_sz (by omega) (by omega)) dTrees_grow_102 (fun H locs hP hD hS => ?_)
        obtain ⟨u24, eu24⟩ : ∃ z : Nat → Int32, z = upd f0_4 (i4).toNatClampNeg i1 := ⟨_, rfl⟩
        rw [← eu24] at hP hD
        have hP : va_P γ.1 vwCl [(a, .inr (1, [.ref b0_4, .ref b1_4, .ref b2_4, .ref b3_4, .int (nI N), .int (nI rt)])), (b0_4, .inl (γ.2.1, wl L (N + 1), .inl u24)), (b1_4, .inl (γ.2.1, wl L (N + 1), .inl f1_4)), (b2_4, .inl (γ.2.1, wl L (N + 1), .inl f2_4)), (b3_4, .inl (γ.2.1, wl L (N + 1), .inl f3_4))] _ := hP
        have hD : va_D Z [(a, .inr (1, [.ref b0_4, .ref b1_4, .ref b2_4, .ref b3_4, .int (nI N), .int (nI rt)])), (b0_4, .inl (γ.2.1, wl L (N + 1), .inl u24)), (b1_4, .inl (γ.2.1, wl L (N + 1), .inl f1_4)), (b2_4, .inl (γ.2.1, wl L (N + 1), .inl f2_4)), (b3_4, .inl (γ.2.1, wl L (N + 1), .inl f3_4))] := hD
        refine lv_aload_n hx hb dTrees_grow_103 rfl (lv_at hl 0 rfl) ?_
        refine va_get (D := γ.1) (ci := 1) (v := .ref b1_4) (C := R_Trees) (T := T_Trees) (N := 6) (Ts := bs_W0) hx hb hW in_Trees hown hC.1 hP 0 rfl rfl 1 (by decide) (hW _ qw_fdd50f5077) (fun _ h9 => h9) rfl dTrees_grow_104 ?_
        refine lv_iload hx hb dTrees_grow_107 (lv_at hl 4 rfl) ?_
        refine lv_iload_n hx hb dTrees_grow_109 rfl (lv_at hl 2 rfl) ?_
        refine va_iast hx hb hC.1 hP hD hS 2 0 rfl rfl (by rw [ei4]; exact in_sz (by omega) (by omega)) dTrees_grow_110 (fun H locs hP hD hS => ?_)
        obtain ⟨u25, eu25⟩ : ∃ z : Nat → Int32, z = upd f1_4 (i4).toNatClampNeg i2 := ⟨_, rfl⟩
        rw [← eu25] at hP hD
        have hP : va_P γ.1 vwCl [(a, .inr (1, [.ref b0_4, .ref b1_4, .ref b2_4, .ref b3_4, .int (nI N), .int (nI rt)])), (b0_4, .inl (γ.2.1, wl L (N + 1), .inl u24)), (b1_4, .inl (γ.2.1, wl L (N + 1), .inl u25)), (b2_4, .inl (γ.2.1, wl L (N + 1), .inl f2_4)), (b3_4, .inl (γ.2.1, wl L (N + 1), .inl f3_4))] _ := hP
        have hD : va_D Z [(a, .inr (1, [.ref b0_4, .ref b1_4, .ref b2_4, .ref b3_4, .int (nI N), .int (nI rt)])), (b0_4, .inl (γ.2.1, wl L (N + 1), .inl u24)), (b1_4, .inl (γ.2.1, wl L (N + 1), .inl u25)), (b2_4, .inl (γ.2.1, wl L (N + 1), .inl f2_4)), (b3_4, .inl (γ.2.1, wl L (N + 1), .inl f3_4))] := hD
        refine lv_aload_n hx hb dTrees_grow_111 rfl (lv_at hl 0 rfl) ?_
        refine va_get (D := γ.1) (ci := 1) (v := .ref b2_4) (C := R_Trees) (T := T_Trees) (N := 6) (Ts := bs_W0) hx hb hW in_Trees hown hC.1 hP 0 rfl rfl 2 (by decide) (hW _ qw_887ccc8355) (fun _ h9 => h9) rfl dTrees_grow_112 ?_
        refine lv_iload hx hb dTrees_grow_115 (lv_at hl 4 rfl) ?_
        refine lv_iload_n hx hb dTrees_grow_117 rfl (lv_at hl 3 rfl) ?_
        refine va_iast hx hb hC.1 hP hD hS 3 0 rfl rfl (by rw [ei4]; exact in_sz (by omega) (by omega)) dTrees_grow_118 (fun H locs hP hD hS => ?_)
        obtain ⟨u26, eu26⟩ : ∃ z : Nat → Int32, z = upd f2_4 (i4).toNatClampNeg i3 := ⟨_, rfl⟩
        rw [← eu26] at hP hD
        have hP : va_P γ.1 vwCl [(a, .inr (1, [.ref b0_4, .ref b1_4, .ref b2_4, .ref b3_4, .int (nI N), .int (nI rt)])), (b0_4, .inl (γ.2.1, wl L (N + 1), .inl u24)), (b1_4, .inl (γ.2.1, wl L (N + 1), .inl u25)), (b2_4, .inl (γ.2.1, wl L (N + 1), .inl u26)), (b3_4, .inl (γ.2.1, wl L (N + 1), .inl f3_4))] _ := hP
        have hD : va_D Z [(a, .inr (1, [.ref b0_4, .ref b1_4, .ref b2_4, .ref b3_4, .int (nI N), .int (nI rt)])), (b0_4, .inl (γ.2.1, wl L (N + 1), .inl u24)), (b1_4, .inl (γ.2.1, wl L (N + 1), .inl u25)), (b2_4, .inl (γ.2.1, wl L (N + 1), .inl u26)), (b3_4, .inl (γ.2.1, wl L (N + 1), .inl f3_4))] := hD
        refine lv_aload_n hx hb dTrees_grow_119 rfl (lv_at hl 0 rfl) ?_
        refine va_get (D := γ.1) (ci := 1) (v := .ref b3_4) (C := R_Trees) (T := T_Trees) (N := 6) (Ts := bs_W0) hx hb hW in_Trees hown hC.1 hP 0 rfl rfl 3 (by decide) (hW _ qw_3682c3415f) (fun _ h9 => h9) rfl dTrees_grow_120 ?_
        refine lv_iload hx hb dTrees_grow_123 (lv_at hl 4 rfl) ?_
        refine lv_iload hx hb dTrees_grow_125 (lv_at hl 5 rfl) ?_
        refine va_iast hx hb hC.1 hP hD hS 4 0 rfl rfl (by rw [ei4]; exact in_sz (by omega) (by omega)) dTrees_grow_127 (fun H locs hP hD hS => ?_)
        obtain ⟨u27, eu27⟩ : ∃ z : Nat → Int32, z = upd f3_4 (i4).toNatClampNeg i5 := ⟨_, rfl⟩
        rw [← eu27] at hP hD
        have hP : va_P γ.1 vwCl [(a, .inr (1, [.ref b0_4, .ref b1_4, .ref b2_4, .ref b3_4, .int (nI N), .int (nI rt)])), (b0_4, .inl (γ.2.1, wl L (N + 1), .inl u24)), (b1_4, .inl (γ.2.1, wl L (N + 1), .inl u25)), (b2_4, .inl (γ.2.1, wl L (N + 1), .inl u26)), (b3_4, .inl (γ.2.1, wl L (N + 1), .inl u27))] _ := hP
        have hD : va_D Z [(a, .inr (1, [.ref b0_4, .ref b1_4, .ref b2_4, .ref b3_4, .int (nI N), .int (nI rt)])), (b0_4, .inl (γ.2.1, wl L (N + 1), .inl u24)), (b1_4, .inl (γ.2.1, wl L (N + 1), .inl u25)), (b2_4, .inl (γ.2.1, wl L (N + 1), .inl u26)), (b3_4, .inl (γ.2.1, wl L (N + 1), .inl u27))] := hD
        refine lv_aload_n hx hb dTrees_grow_128 rfl (lv_at hl 0 rfl) ?_
        refine lv_dup hx hb dTrees_grow_129 rfl ?_
        refine va_get (D := γ.1) (ci := 1) (v := .int (nI N)) (C := R_Trees) (T := T_Trees) (N := 6) (Ts := bs_W0) hx hb hW in_Trees hown hC.1 hP 0 rfl rfl 4 (by decide) (hW _ qw_adbe8dbe65) (fun _ h9 => h9) rfl dTrees_grow_130 ?_
        refine lv_topi (fun v28 ev28 => ?_)
        refine lv_iconst (v := 1) hx hb dTrees_grow_133 (by decide) ?_
        refine lv_iadd hx hb dTrees_grow_134 ?_
        refine lv_topi (fun v29 ev29 => ?_)
        have ev29 : v29 = nI (N + 1) := by rw [ev29, ev28]; exact nI_add (N) (1)
        obtain rfl : v29 = nI (N + 1) := ev29
        refine va_put (D := γ.1) (ci := 1) (v := .int (nI (N + 1))) (ty := .int) (C := R_Trees) (T := T_Trees) (N := 6) (Ts := bs_W0) hx hb hW in_Trees t_Trees t_Trees_ok n_Trees hown hC.1 hP hD hS 0 rfl rfl 4 (by decide) (hW _ qw_adbe8dbe65) (fun _ h9 => h9) rfl (by decide +kernel) rfl rfl (Nat.le_of_ble_eq_true rfl) dTrees_grow_135 (fun H locs hP hD hS => ?_)
        have hP : va_P γ.1 vwCl [(a, .inr (1, [.ref b0_4, .ref b1_4, .ref b2_4, .ref b3_4, .int (nI (N + 1)), .int (nI rt)])), (b0_4, .inl (γ.2.1, wl L (N + 1), .inl u24)), (b1_4, .inl (γ.2.1, wl L (N + 1), .inl u25)), (b2_4, .inl (γ.2.1, wl L (N + 1), .inl u26)), (b3_4, .inl (γ.2.1, wl L (N + 1), .inl u27))] _ := hP
        have hD : va_D Z [(a, .inr (1, [.ref b0_4, .ref b1_4, .ref b2_4, .ref b3_4, .int (nI (N + 1)), .int (nI rt)])), (b0_4, .inl (γ.2.1, wl L (N + 1), .inl u24)), (b1_4, .inl (γ.2.1, wl L (N + 1), .inl u25)), (b2_4, .inl (γ.2.1, wl L (N + 1), .inl u26)), (b3_4, .inl (γ.2.1, wl L (N + 1), .inl u27))] := hD
        refine lv_aload_n hx hb dTrees_grow_138 rfl (lv_at hl 0 rfl) ?_
        refine lv_dup hx hb dTrees_grow_139 rfl ?_
        refine va_get (D := γ.1) (ci := 1) (v := .int (nI rt)) (C := R_Trees) (T := T_Trees) (N := 6) (Ts := bs_W0) hx hb hW in_Trees hown hC.1 hP 0 rfl rfl 5 (by decide) (hW _ qw_986a639143) (fun _ h9 => h9) rfl dTrees_grow_140 ?_
        refine lv_topi (fun v30 ev30 => ?_)
        refine lv_iconst (v := 1) hx hb dTrees_grow_143 (by decide) ?_
        refine lv_iload_n hx hb dTrees_grow_144 rfl (lv_at hl 3 rfl) ?_
        refine lv_isub hx hb dTrees_grow_145 ?_
        refine lv_topi (fun v31 ev31 => ?_)
        refine lv_iadd hx hb dTrees_grow_146 ?_
        refine lv_topi (fun v32 ev32 => ?_)
        obtain rfl : v32 = nI (rt + 1 - k3) := (by rw [ev32, ev30, ev31, ei3]; exact roots_eq hk3)
        refine va_put (D := γ.1) (ci := 1) (v := .int (nI (rt + 1 - k3))) (ty := .int) (C := R_Trees) (T := T_Trees) (N := 6) (Ts := bs_W0) hx hb hW in_Trees t_Trees t_Trees_ok n_Trees hown hC.1 hP hD hS 0 rfl rfl 5 (by decide) (hW _ qw_986a639143) (fun _ h9 => h9) rfl (by decide +kernel) rfl rfl (Nat.le_of_ble_eq_true rfl) dTrees_grow_147 (fun H locs hP hD hS => ?_)
        have hP : va_P γ.1 vwCl [(a, .inr (1, [.ref b0_4, .ref b1_4, .ref b2_4, .ref b3_4, .int (nI (N + 1)), .int (nI (rt + 1 - k3))])), (b0_4, .inl (γ.2.1, wl L (N + 1), .inl u24)), (b1_4, .inl (γ.2.1, wl L (N + 1), .inl u25)), (b2_4, .inl (γ.2.1, wl L (N + 1), .inl u26)), (b3_4, .inl (γ.2.1, wl L (N + 1), .inl u27))] _ := hP
        have hD : va_D Z [(a, .inr (1, [.ref b0_4, .ref b1_4, .ref b2_4, .ref b3_4, .int (nI (N + 1)), .int (nI (rt + 1 - k3))])), (b0_4, .inl (γ.2.1, wl L (N + 1), .inl u24)), (b1_4, .inl (γ.2.1, wl L (N + 1), .inl u25)), (b2_4, .inl (γ.2.1, wl L (N + 1), .inl u26)), (b3_4, .inl (γ.2.1, wl L (N + 1), .inl u27))] := hD
        refine lv_iload hx hb dTrees_grow_150 (lv_at hl 4 rfl) ?_
        have hI : cmp γ (fTrees γ a (N + 1) (rt + 1 - k3) (wl L (N + 1))) Z _ := ⟨_, ⟨b0_4, b1_4, b2_4, b3_4, u24, u25, u26, u27, rfl, (by omega), (by omega), (by omega), (by omega), (by rw [eu27]; exact upd_ok (by rw [ei4]; exact nI_clamp (by omega)) hq5 h5_4), (by rw [eu26]; exact cn_ok (by rw [ei4]; exact nI_clamp (by omega)) ⟨k3, by omega, ei3⟩ h6_4)⟩, hP, hD⟩
        have hQ := hE _ _ i4 152 ls hS ⟨ei4, hI⟩ dTrees_grow_152
        refine W.cs (cells' := 0 + wc L (N + 1) + wc L (N + 1) + wc L (N + 1) + wc L (N + 1)) (slots' := 0 + wm L (N + 1) + wm L (N + 1) + wm L (N + 1) + wm L (N + 1)) (by omega) (by omega) ?_
        exact hQ
      · refine lv_aload_n hx hb dTrees_grow_79 rfl (lv_at hl 0 rfl) ?_
        refine lv_iload hx hb dTrees_grow_80 (lv_at hl 5 rfl) ?_
        refine lv_iconst (v := 1) hx hb dTrees_grow_82 (by decide) ?_
        refine lv_isub hx hb dTrees_grow_83 ?_
        refine lv_topi (fun v33 ev33 => ?_)
        obtain ⟨ws_5, ⟨b0_5, b1_5, b2_5, b3_5, f0_5, f1_5, f2_5, f3_5, rfl, h1_5, h2_5, h3_5, h4_5, h5_5, h6_5⟩, hP, hD⟩ := id hI
        have hP : va_P γ.1 vwCl [(a, .inr (1, [.ref b0_5, .ref b1_5, .ref b2_5, .ref b3_5, .int (nI N), .int (nI rt)])), (b0_5, .inl (γ.2.1, wl L (N + 1), .inl f0_5)), (b1_5, .inl (γ.2.1, wl L (N + 1), .inl f1_5)), (b2_5, .inl (γ.2.1, wl L (N + 1), .inl f2_5)), (b3_5, .inl (γ.2.1, wl L (N + 1), .inl f3_5))] _ := hP
        have hD : va_D Z [(a, .inr (1, [.ref b0_5, .ref b1_5, .ref b2_5, .ref b3_5, .int (nI N), .int (nI rt)])), (b0_5, .inl (γ.2.1, wl L (N + 1), .inl f0_5)), (b1_5, .inl (γ.2.1, wl L (N + 1), .inl f1_5)), (b2_5, .inl (γ.2.1, wl L (N + 1), .inl f2_5)), (b3_5, .inl (γ.2.1, wl L (N + 1), .inl f3_5))] := hD
        refine pu_Vi (rest := []) S hC (c_Trees_firstOf l γ Z a N rt (wl L (N + 1)) v33) meTrees_firstOf qw_e019bcaac8 ⟨Nat.le_of_ble_eq_true rfl, Nat.le_of_ble_eq_true rfl⟩ (va_recv hC.1 hP (ci := 1) (q0 := 0) rfl rfl) hI rfl hl.1 rfl (Nat.le_of_ble_eq_true rfl) dTrees_grow_84 ⟨(by show _ ≤ 0 + wc L (N + 1) + wc L (N + 1) + wc L (N + 1) + wc L (N + 1); omega), (by show _ ≤ 0 + wm L (N + 1) + wm L (N + 1) + wm L (N + 1) + wm L (N + 1); omega)⟩ (fun r34 hr34 => ?_)
        refine lv_istore (lv' := [(5, .int r34), (0, .ref a), (1, .int i1), (2, .int i2), (3, .int i3), (4, .int i4), (6, .int i6)]) hx hb dTrees_grow_87 hl (by decide) rfl (fun ls hl => ?_)
        obtain ⟨v35, ev35⟩ : ∃ y : Int32, y = i6 + 1 := ⟨_, rfl⟩
        refine lv_iinc (v := v35) (lv' := [(6, .int v35), (5, .int r34), (0, .ref a), (1, .int i1), (2, .int i2), (3, .int i3), (4, .int i4)]) hx hb dTrees_grow_89 hl (k := 6) rfl (by rw [ev35]; rfl) (by decide) rfl (fun ls hl => ?_)
        refine lv_goto (tgt := 73) hx hb dTrees_grow_92 (by decide) ?_
        refine W.cs (cells' := 0 + wc L (N + 1) + wc L (N + 1) + wc L (N + 1) + wc L (N + 1)) (slots' := 0 + wm L (N + 1) + wm L (N + 1) + wm L (N + 1) + wm L (N + 1)) (by omega) (by omega) ?_
        exact ih73 _ (by have q1 : i6.toInt < 2147483647 := (by first | exact (mu_up (k := i6) (by assumption)).2 | assumption); have q2 := mu_lt q1; rw [← ev35] at q2; omega) ls _ _ i1 i2 i3 i4 r34 v35 hI hS (by first | assumption | exact ei3 | rfl) (by first | assumption | exact ei4 | rfl) (by first | assumption | (rw [er34]; exact nI_pos (by omega))) rfl (lv_sub hl [2, 3, 4, 5, 6, 1, 0] rfl)
  refine lv_aload_n hx hb dTrees_grow_0 rfl (lv_at hl 0 rfl) ?_
  obtain ⟨ws_6, ⟨b0_6, b1_6, b2_6, b3_6, f0_6, f1_6, f2_6, f3_6, rfl, h1_6, h2_6, h3_6, h4_6, h5_6, h6_6⟩, hP, hD⟩ := id hI
  have hP : va_P γ.1 vwCl [(a, .inr (1, [.ref b0_6, .ref b1_6, .ref b2_6, .ref b3_6, .int (nI N), .int (nI rt)])), (b0_6, .inl (γ.2.1, L, .inl f0_6)), (b1_6, .inl (γ.2.1, L, .inl f1_6)), (b2_6, .inl (γ.2.1, L, .inl f2_6)), (b3_6, .inl (γ.2.1, L, .inl f3_6))] _ := hP
  have hD : va_D Z [(a, .inr (1, [.ref b0_6, .ref b1_6, .ref b2_6, .ref b3_6, .int (nI N), .int (nI rt)])), (b0_6, .inl (γ.2.1, L, .inl f0_6)), (b1_6, .inl (γ.2.1, L, .inl f1_6)), (b2_6, .inl (γ.2.1, L, .inl f2_6)), (b3_6, .inl (γ.2.1, L, .inl f3_6))] := hD
  refine va_get (D := γ.1) (ci := 1) (v := .int (nI N)) (C := R_Trees) (T := T_Trees) (N := 6) (Ts := bs_W0) hx hb hW in_Trees hown hC.1 hP 0 rfl rfl 4 (by decide) (hW _ qw_adbe8dbe65) (fun _ h9 => h9) rfl dTrees_grow_1 ?_
  refine lv_topi (fun v36 ev36 => ?_)
  refine lv_istore (lv' := [(4, .int v36), (0, .ref a), (1, .int x1), (2, .int x2), (3, .int (nI k3))]) hx hb dTrees_grow_4 hl (by decide) rfl (fun ls hl => ?_)
  refine lv_aload_n hx hb dTrees_grow_6 rfl (lv_at hl 1 rfl) ?_
  refine lv_aload_n hx hb dTrees_grow_7 rfl (lv_at hl 1 rfl) ?_
  refine va_get (D := γ.1) (ci := 1) (v := .ref b0_6) (C := R_Trees) (T := T_Trees) (N := 6) (Ts := bs_W0) hx hb hW in_Trees hown hC.1 hP 0 rfl rfl 0 (by decide) (hW _ qw_ffd9ddfb57) (fun _ h9 => h9) rfl dTrees_grow_8 ?_
  refine lv_iload hx hb dTrees_grow_11 (lv_at hl 0 rfl) ?_
  refine lv_iconst (v := 1) hx hb dTrees_grow_13 (by decide) ?_
  refine lv_iadd hx hb dTrees_grow_14 ?_
  refine lv_topi (fun v37 ev37 => ?_)
  have ev37 : v37 = nI (N + 1) := by rw [ev37, ev36]; exact nI_add (N) (1)
  obtain rfl : v37 = nI (N + 1) := ev37
  refine mu_Tr (rest := [.ref a]) S hC (fun q h => hA q (Nat.le_trans hS.1 h)) (fun q h => h) hS (c_withRoom l γ Z b0_6 L (N + 1) f0_6 _ (by omega) (by omega)) meTypeBook_withRoom (hC.2 _ qn_1ebf0e5650 rfl) ⟨Nat.le_of_ble_eq_true rfl, Nat.le_of_ble_eq_true rfl⟩ ⟨rfl, hD.2 1 _ rfl, hP 1 _ rfl⟩ rfl hl.1 rfl (Nat.le_of_ble_eq_true rfl) dTrees_grow_15 ⟨(by show _ ≤ 0 + wc L (N + 1) + wc L (N + 1) + wc L (N + 1) + wc L (N + 1); omega), (by show _ ≤ 0 + wm L (N + 1) + wm L (N + 1) + wm L (N + 1) + wm L (N + 1); omega)⟩ (fun r38 Hr38 locs hPO hS _ _ => ?_)
  obtain ⟨g1r38, g2r38, g3r38, g4r38, fr38, g5r38, g6r38⟩ := hPO
  obtain ⟨hP, hD⟩ := wr_join (i := 1) hP hD rfl g4r38 g5r38 g1r38 g2r38
  have hP : va_P γ.1 vwCl [(a, .inr (1, [.ref b0_6, .ref b1_6, .ref b2_6, .ref b3_6, .int (nI N), .int (nI rt)])), (r38, .inl (γ.2.1, wl L (N + 1), .inl fr38)), (b1_6, .inl (γ.2.1, L, .inl f1_6)), (b2_6, .inl (γ.2.1, L, .inl f2_6)), (b3_6, .inl (γ.2.1, L, .inl f3_6))] _ := hP
  have hD : va_D Z [(a, .inr (1, [.ref b0_6, .ref b1_6, .ref b2_6, .ref b3_6, .int (nI N), .int (nI rt)])), (r38, .inl (γ.2.1, wl L (N + 1), .inl fr38)), (b1_6, .inl (γ.2.1, L, .inl f1_6)), (b2_6, .inl (γ.2.1, L, .inl f2_6)), (b3_6, .inl (γ.2.1, L, .inl f3_6))] := hD
  refine va_put (D := γ.1) (ci := 1) (v := .ref r38) (ty := .array .int) (C := R_Trees) (T := T_Trees) (N := 6) (Ts := bs_W0) hx hb hW in_Trees t_Trees t_Trees_ok n_Trees hown hC.1 hP hD hS 0 rfl rfl 0 (by decide) (hW _ qw_ffd9ddfb57) (fun _ h9 => h9) rfl (by decide +kernel) rfl rfl (Nat.le_of_ble_eq_true rfl) dTrees_grow_18 (fun H locs hP hD hS => ?_)
  have hP : va_P γ.1 vwCl [(a, .inr (1, [.ref r38, .ref b1_6, .ref b2_6, .ref b3_6, .int (nI N), .int (nI rt)])), (r38, .inl (γ.2.1, wl L (N + 1), .inl fr38)), (b1_6, .inl (γ.2.1, L, .inl f1_6)), (b2_6, .inl (γ.2.1, L, .inl f2_6)), (b3_6, .inl (γ.2.1, L, .inl f3_6))] _ := hP
  have hD : va_D Z [(a, .inr (1, [.ref r38, .ref b1_6, .ref b2_6, .ref b3_6, .int (nI N), .int (nI rt)])), (r38, .inl (γ.2.1, wl L (N + 1), .inl fr38)), (b1_6, .inl (γ.2.1, L, .inl f1_6)), (b2_6, .inl (γ.2.1, L, .inl f2_6)), (b3_6, .inl (γ.2.1, L, .inl f3_6))] := hD
  refine lv_aload_n hx hb dTrees_grow_21 rfl (lv_at hl 1 rfl) ?_
  refine lv_aload_n hx hb dTrees_grow_22 rfl (lv_at hl 1 rfl) ?_
  refine va_get (D := γ.1) (ci := 1) (v := .ref b1_6) (C := R_Trees) (T := T_Trees) (N := 6) (Ts := bs_W0) hx hb hW in_Trees hown hC.1 hP 0 rfl rfl 1 (by decide) (hW _ qw_fdd50f5077) (fun _ h9 => h9) rfl dTrees_grow_23 ?_
  refine lv_iload hx hb dTrees_grow_26 (lv_at hl 0 rfl) ?_
  refine lv_iconst (v := 1) hx hb dTrees_grow_28 (by decide) ?_
  refine lv_iadd hx hb dTrees_grow_29 ?_
  refine lv_topi (fun v39 ev39 => ?_)
  have ev39 : v39 = nI (N + 1) := by rw [ev39, ev36]; exact nI_add (N) (1)
  obtain rfl : v39 = nI (N + 1) := ev39
  refine mu_Tr (rest := [.ref a]) S hC (fun q h => hA q (Nat.le_trans hS.1 h)) (fun q h => h) hS (c_withRoom l γ Z b1_6 L (N + 1) f1_6 _ (by omega) (by omega)) meTypeBook_withRoom (hC.2 _ qn_1ebf0e5650 rfl) ⟨Nat.le_of_ble_eq_true rfl, Nat.le_of_ble_eq_true rfl⟩ ⟨rfl, hD.2 2 _ rfl, hP 2 _ rfl⟩ rfl hl.1 rfl (Nat.le_of_ble_eq_true rfl) dTrees_grow_30 ⟨(by show _ ≤ 0 + wc L (N + 1) + wc L (N + 1) + wc L (N + 1) + wc L (N + 1); omega), (by show _ ≤ 0 + wm L (N + 1) + wm L (N + 1) + wm L (N + 1) + wm L (N + 1); omega)⟩ (fun r40 Hr40 locs hPO hS _ _ => ?_)
  obtain ⟨g1r40, g2r40, g3r40, g4r40, fr40, g5r40, g6r40⟩ := hPO
  obtain ⟨hP, hD⟩ := wr_join (i := 2) hP hD rfl g4r40 g5r40 g1r40 g2r40
  have hP : va_P γ.1 vwCl [(a, .inr (1, [.ref r38, .ref b1_6, .ref b2_6, .ref b3_6, .int (nI N), .int (nI rt)])), (r38, .inl (γ.2.1, wl L (N + 1), .inl fr38)), (r40, .inl (γ.2.1, wl L (N + 1), .inl fr40)), (b2_6, .inl (γ.2.1, L, .inl f2_6)), (b3_6, .inl (γ.2.1, L, .inl f3_6))] _ := hP
  have hD : va_D Z [(a, .inr (1, [.ref r38, .ref b1_6, .ref b2_6, .ref b3_6, .int (nI N), .int (nI rt)])), (r38, .inl (γ.2.1, wl L (N + 1), .inl fr38)), (r40, .inl (γ.2.1, wl L (N + 1), .inl fr40)), (b2_6, .inl (γ.2.1, L, .inl f2_6)), (b3_6, .inl (γ.2.1, L, .inl f3_6))] := hD
  refine va_put (D := γ.1) (ci := 1) (v := .ref r40) (ty := .array .int) (C := R_Trees) (T := T_Trees) (N := 6) (Ts := bs_W0) hx hb hW in_Trees t_Trees t_Trees_ok n_Trees hown hC.1 hP hD hS 0 rfl rfl 1 (by decide) (hW _ qw_fdd50f5077) (fun _ h9 => h9) rfl (by decide +kernel) rfl rfl (Nat.le_of_ble_eq_true rfl) dTrees_grow_33 (fun H locs hP hD hS => ?_)
  have hP : va_P γ.1 vwCl [(a, .inr (1, [.ref r38, .ref r40, .ref b2_6, .ref b3_6, .int (nI N), .int (nI rt)])), (r38, .inl (γ.2.1, wl L (N + 1), .inl fr38)), (r40, .inl (γ.2.1, wl L (N + 1), .inl fr40)), (b2_6, .inl (γ.2.1, L, .inl f2_6)), (b3_6, .inl (γ.2.1, L, .inl f3_6))] _ := hP
  have hD : va_D Z [(a, .inr (1, [.ref r38, .ref r40, .ref b2_6, .ref b3_6, .int (nI N), .int (nI rt)])), (r38, .inl (γ.2.1, wl L (N + 1), .inl fr38)), (r40, .inl (γ.2.1, wl L (N + 1), .inl fr40)), (b2_6, .inl (γ.2.1, L, .inl f2_6)), (b3_6, .inl (γ.2.1, L, .inl f3_6))] := hD
  refine lv_aload_n hx hb dTrees_grow_36 rfl (lv_at hl 1 rfl) ?_
  refine lv_aload_n hx hb dTrees_grow_37 rfl (lv_at hl 1 rfl) ?_
  refine va_get (D := γ.1) (ci := 1) (v := .ref b2_6) (C := R_Trees) (T := T_Trees) (N := 6) (Ts := bs_W0) hx hb hW in_Trees hown hC.1 hP 0 rfl rfl 2 (by decide) (hW _ qw_887ccc8355) (fun _ h9 => h9) rfl dTrees_grow_38 ?_
  refine lv_iload hx hb dTrees_grow_41 (lv_at hl 0 rfl) ?_
  refine lv_iconst (v := 1) hx hb dTrees_grow_43 (by decide) ?_
  refine lv_iadd hx hb dTrees_grow_44 ?_
  refine lv_topi (fun v41 ev41 => ?_)
  have ev41 : v41 = nI (N + 1) := by rw [ev41, ev36]; exact nI_add (N) (1)
  obtain rfl : v41 = nI (N + 1) := ev41
  refine mu_Tr (rest := [.ref a]) S hC (fun q h => hA q (Nat.le_trans hS.1 h)) (fun q h => h) hS (c_withRoom l γ Z b2_6 L (N + 1) f2_6 _ (by omega) (by omega)) meTypeBook_withRoom (hC.2 _ qn_1ebf0e5650 rfl) ⟨Nat.le_of_ble_eq_true rfl, Nat.le_of_ble_eq_true rfl⟩ ⟨rfl, hD.2 3 _ rfl, hP 3 _ rfl⟩ rfl hl.1 rfl (Nat.le_of_ble_eq_true rfl) dTrees_grow_45 ⟨(by show _ ≤ 0 + wc L (N + 1) + wc L (N + 1) + wc L (N + 1) + wc L (N + 1); omega), (by show _ ≤ 0 + wm L (N + 1) + wm L (N + 1) + wm L (N + 1) + wm L (N + 1); omega)⟩ (fun r42 Hr42 locs hPO hS _ _ => ?_)
  obtain ⟨g1r42, g2r42, g3r42, g4r42, fr42, g5r42, g6r42⟩ := hPO
  obtain ⟨hP, hD⟩ := wr_join (i := 3) hP hD rfl g4r42 g5r42 g1r42 g2r42
  have hP : va_P γ.1 vwCl [(a, .inr (1, [.ref r38, .ref r40, .ref b2_6, .ref b3_6, .int (nI N), .int (nI rt)])), (r38, .inl (γ.2.1, wl L (N + 1), .inl fr38)), (r40, .inl (γ.2.1, wl L (N + 1), .inl fr40)), (r42, .inl (γ.2.1, wl L (N + 1), .inl fr42)), (b3_6, .inl (γ.2.1, L, .inl f3_6))] _ := hP
  have hD : va_D Z [(a, .inr (1, [.ref r38, .ref r40, .ref b2_6, .ref b3_6, .int (nI N), .int (nI rt)])), (r38, .inl (γ.2.1, wl L (N + 1), .inl fr38)), (r40, .inl (γ.2.1, wl L (N + 1), .inl fr40)), (r42, .inl (γ.2.1, wl L (N + 1), .inl fr42)), (b3_6, .inl (γ.2.1, L, .inl f3_6))] := hD
  refine va_put (D := γ.1) (ci := 1) (v := .ref r42) (ty := .array .int) (C := R_Trees) (T := T_Trees) (N := 6) (Ts := bs_W0) hx hb hW in_Trees t_Trees t_Trees_ok n_Trees hown hC.1 hP hD hS 0 rfl rfl 2 (by decide) (hW _ qw_887ccc8355) (fun _ h9 => h9) rfl (by decide +kernel) rfl rfl (Nat.le_of_ble_eq_true rfl) dTrees_grow_48 (fun H locs hP hD hS => ?_)
  have hP : va_P γ.1 vwCl [(a, .inr (1, [.ref r38, .ref r40, .ref r42, .ref b3_6, .int (nI N), .int (nI rt)])), (r38, .inl (γ.2.1, wl L (N + 1), .inl fr38)), (r40, .inl (γ.2.1, wl L (N + 1), .inl fr40)), (r42, .inl (γ.2.1, wl L (N + 1), .inl fr42)), (b3_6, .inl (γ.2.1, L, .inl f3_6))] _ := hP
  have hD : va_D Z [(a, .inr (1, [.ref r38, .ref r40, .ref r42, .ref b3_6, .int (nI N), .int (nI rt)])), (r38, .inl (γ.2.1, wl L (N + 1), .inl fr38)), (r40, .inl (γ.2.1, wl L (N + 1), .inl fr40)), (r42, .inl (γ.2.1, wl L (N + 1), .inl fr42)), (b3_6, .inl (γ.2.1, L, .inl f3_6))] := hD
  refine lv_aload_n hx hb dTrees_grow_51 rfl (lv_at hl 1 rfl) ?_
  refine lv_aload_n hx hb dTrees_grow_52 rfl (lv_at hl 1 rfl) ?_
  refine va_get (D := γ.1) (ci := 1) (v := .ref b3_6) (C := R_Trees) (T := T_Trees) (N := 6) (Ts := bs_W0) hx hb hW in_Trees hown hC.1 hP 0 rfl rfl 3 (by decide) (hW _ qw_3682c3415f) (fun _ h9 => h9) rfl dTrees_grow_53 ?_
  refine lv_iload hx hb dTrees_grow_56 (lv_at hl 0 rfl) ?_
  refine lv_iconst (v := 1) hx hb dTrees_grow_58 (by decide) ?_
  refine lv_iadd hx hb dTrees_grow_59 ?_
  refine lv_topi (fun v43 ev43 => ?_)
  have ev43 : v43 = nI (N + 1) := by rw [ev43, ev36]; exact nI_add (N) (1)
  obtain rfl : v43 = nI (N + 1) := ev43
  refine mu_Tr (rest := [.ref a]) S hC (fun q h => hA q (Nat.le_trans hS.1 h)) (fun q h => h) hS (c_withRoom l γ Z b3_6 L (N + 1) f3_6 _ (by omega) (by omega)) meTypeBook_withRoom (hC.2 _ qn_1ebf0e5650 rfl) ⟨Nat.le_of_ble_eq_true rfl, Nat.le_of_ble_eq_true rfl⟩ ⟨rfl, hD.2 4 _ rfl, hP 4 _ rfl⟩ rfl hl.1 rfl (Nat.le_of_ble_eq_true rfl) dTrees_grow_60 ⟨(by show _ ≤ 0 + wc L (N + 1) + wc L (N + 1) + wc L (N + 1) + wc L (N + 1); omega), (by show _ ≤ 0 + wm L (N + 1) + wm L (N + 1) + wm L (N + 1) + wm L (N + 1); omega)⟩ (fun r44 Hr44 locs hPO hS _ _ => ?_)
  obtain ⟨g1r44, g2r44, g3r44, g4r44, fr44, g5r44, g6r44⟩ := hPO
  obtain ⟨hP, hD⟩ := wr_join (i := 4) hP hD rfl g4r44 g5r44 g1r44 g2r44
  have hP : va_P γ.1 vwCl [(a, .inr (1, [.ref r38, .ref r40, .ref r42, .ref b3_6, .int (nI N), .int (nI rt)])), (r38, .inl (γ.2.1, wl L (N + 1), .inl fr38)), (r40, .inl (γ.2.1, wl L (N + 1), .inl fr40)), (r42, .inl (γ.2.1, wl L (N + 1), .inl fr42)), (r44, .inl (γ.2.1, wl L (N + 1), .inl fr44))] _ := hP
  have hD : va_D Z [(a, .inr (1, [.ref r38, .ref r40, .ref r42, .ref b3_6, .int (nI N), .int (nI rt)])), (r38, .inl (γ.2.1, wl L (N + 1), .inl fr38)), (r40, .inl (γ.2.1, wl L (N + 1), .inl fr40)), (r42, .inl (γ.2.1, wl L (N + 1), .inl fr42)), (r44, .inl (γ.2.1, wl L (N + 1), .inl fr44))] := hD
  refine va_put (D := γ.1) (ci := 1) (v := .ref r44) (ty := .array .int) (C := R_Trees) (T := T_Trees) (N := 6) (Ts := bs_W0) hx hb hW in_Trees t_Trees t_Trees_ok n_Trees hown hC.1 hP hD hS 0 rfl rfl 3 (by decide) (hW _ qw_3682c3415f) (fun _ h9 => h9) rfl (by decide +kernel) rfl rfl (Nat.le_of_ble_eq_true rfl) dTrees_grow_63 (fun H locs hP hD hS => ?_)
  have hP : va_P γ.1 vwCl [(a, .inr (1, [.ref r38, .ref r40, .ref r42, .ref r44, .int (nI N), .int (nI rt)])), (r38, .inl (γ.2.1, wl L (N + 1), .inl fr38)), (r40, .inl (γ.2.1, wl L (N + 1), .inl fr40)), (r42, .inl (γ.2.1, wl L (N + 1), .inl fr42)), (r44, .inl (γ.2.1, wl L (N + 1), .inl fr44))] _ := hP
  have hD : va_D Z [(a, .inr (1, [.ref r38, .ref r40, .ref r42, .ref r44, .int (nI N), .int (nI rt)])), (r38, .inl (γ.2.1, wl L (N + 1), .inl fr38)), (r40, .inl (γ.2.1, wl L (N + 1), .inl fr40)), (r42, .inl (γ.2.1, wl L (N + 1), .inl fr42)), (r44, .inl (γ.2.1, wl L (N + 1), .inl fr44))] := hD
  refine lv_iload hx hb dTrees_grow_66 (lv_at hl 0 rfl) ?_
  refine lv_istore (lv' := [(5, .int v36), (4, .int v36), (0, .ref a), (1, .int x1), (2, .int x2), (3, .int (nI k3))]) hx hb dTrees_grow_68 hl (by decide) rfl (fun ls hl => ?_)
  refine lv_iconst (v := 0) hx hb dTrees_grow_70 (by decide) ?_
  refine lv_istore (lv' := [(6, .int 0), (5, .int v36), (4, .int v36), (0, .ref a), (1, .int x1), (2, .int x2), (3, .int (nI k3))]) hx hb dTrees_grow_71 hl (by decide) rfl (fun ls hl => ?_)
  have hI : cmp γ (fTrees γ a N rt (wl L (N + 1))) Z _ := ⟨_, ⟨r38, r40, r42, r44, fr38, fr40, fr42, fr44, rfl, (by omega), (by omega), (by omega), (by omega), (fun k hk => by rw [g6r44 k (by omega)]; exact h5_6 k hk), (fun k hk => by rw [g6r42 k (by omega)]; exact h6_6 k hk)⟩, hP, hD⟩
  refine W.cs (cells' := 0 + wc L (N + 1) + wc L (N + 1) + wc L (N + 1) + wc L (N + 1)) (slots' := 0 + wm L (N + 1) + wm L (N + 1) + wm L (N + 1) + wm L (N + 1)) (by omega) (by omega) ?_
  exact J73 _ ls _ _ x1 x2 (nI k3) v36 v36 0 hI hS (by first | assumption | exact enI k3 | rfl) (by first | assumption | exact ev36 | rfl) (by first | assumption | (rw [ev36]; exact nI_pos (by omega))) rfl (lv_sub hl [3, 4, 5, 6, 2, 1, 0] rfl)
