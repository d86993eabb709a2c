def P_Trees_grow_73 (N rt L : Nat) : Nat → gf → Int32 → Int32 → Int32 → Int32 → Int32 → Int32 → Int32 × gf
  | 0, _, _, _, _, _, _, _ => default
  | n + 1, f, i1, i2, i3, i4, i5, i6 => (if i3 ≤ i6 then (i4, (Au (Au (Au (Au f 0 i4.toNatClampNeg i1) 1 i4.toNatClampNeg i2) 2 i4.toNatClampNeg i3) 3 i4.toNatClampNeg i5)) else (P_Trees_grow_73 N rt L n f i1 i2 i3 i4 (P_Trees_firstOf N rt (wl L (N + 1)) f (i5 - 1)) (i6 + 1)))
def P_Trees_grow (N rt L : Nat) (f : gf) (x1 : Int32) (x2 : Int32) (k3 : Nat) : Int32 × gf := (P_Trees_grow_73 N rt L  ((2147483647 - (0 : Int32).toInt).toNat + 1) (up (up (up (up f 0 (P_wr L (N + 1) (f 0))) 1 (P_wr L (N + 1) ((up f 0 (P_wr L (N + 1) (f 0))) 1))) 2 (P_wr L (N + 1) ((up (up f 0 (P_wr L (N + 1) (f 0))) 1 (P_wr L (N + 1) ((up f 0 (P_wr L (N + 1) (f 0))) 1))) 2))) 3 (P_wr L (N + 1) ((up (up (up f 0 (P_wr L (N + 1) (f 0))) 1 (P_wr L (N + 1) ((up f 0 (P_wr L (N + 1) (f 0))) 1))) 2 (P_wr L (N + 1) ((up (up f 0 (P_wr L (N + 1) (f 0))) 1 (P_wr L (N + 1) ((up f 0 (P_wr L (N + 1) (f 0))) 1))) 2))) 3))) x1 x2 (nI k3) (nI (N)) (nI (N)) 0)
set_option maxHeartbeats 4000000 in
set_option maxRecDepth 100000 in
theorem fc_Trees_grow (l : Launch) (γ : gE) (Z : Nat → Prop) (a N rt L : Nat) (f : gf) (x1 : Int32) (x2 : Int32) (k3 : Nat) (hN : N ≤ 4000) (hk3 : k3 ≤ rt) : MU l yTrees_grow bTrees_grow 7 (some .int) 3 103 (0 + wc L (N + 1) + wc L (N + 1) + wc L (N + 1) + wc L (N + 1)) (0 + wm L (N + 1) + wm L (N + 1) + wm L (N + 1) + wm L (N + 1)) [.ref a, .int x1, .int x2, .int (nI k3)] γ Z (cmp γ (gTrees γ a N rt L f) Z) (mQi (fun r H => r = (P_Trees_grow N rt L f x1 x2 k3).1 ∧ cmp γ (gTrees γ a (N + 1) (rt + 1 - k3) (wl L (N + 1)) (P_Trees_grow N rt L f x1 x2 k3).2) Z H) Z) := by
  refine mu_openI (by decide) (Nat.le_of_ble_eq_true rfl) ?_
  intro p e s m args below meth c ls Q S hnm hC hA hI hE hl
  obtain ⟨hx, hb, hml, hown, hW⟩ := id S
  have hS : va_S Z s.heap s.heap [] := va_S.rf
  have hl : lv_has ls 7 [(0, .ref a), (1, .int x1), (2, .int x2), (3, .int (nI k3))] := hl
  have hb9 : L ≤ 8192 ∧ N ≤ L := (by obtain ⟨w9, ⟨_, _, _, _, _, h1, h2, _⟩, _, _⟩ := id hI; exact ⟨h2, h1⟩)
  have hwl := wl_ok (n := L) (N := N + 1) (by omega) (by omega)
  obtain ⟨OUT, hQ, hO⟩ : ∃ z, (z = P_Trees_grow N rt L f x1 x2 k3) ∧ Oq z (P_Trees_grow N rt L f x1 x2 k3) := ⟨_, rfl, rfl⟩
  rw [← hQ] at hE
  clear hQ
  have J73 : ∀ (N73 : Nat) (ls : Array Slot) (H : Heap) (locs : List Loc) (f : gf) (i1 : Int32) (i2 : Int32) (i3 : Int32) (i4 : Int32) (i5 : Int32) (i6 : Int32), cmp γ (gTrees γ a N rt (wl L (N + 1)) f) Z H → va_S Z s.heap H locs → (i3 = nI k3) → (i4 = nI N) → (¬ i5 < 0) → (Oq OUT (P_Trees_grow_73 N rt L  (N73 + 1) f i1 i2 i3 i4 i5 i6)) → (2147483647 - i6.toInt).toNat = N73 → lv_has ls 7 [(0, .ref a), (1, .int i1), (2, .int i2), (3, .int i3), (4, .int i4), (5, .int i5), (6, .int i6)] → W p l e (bs_rm 3 (0 + wc L (N + 1) + wc L (N + 1) + wc L (N + 1) + wc L (N + 1)) (0 + wm L (N + 1) + wm L (N + 1) + wm L (N + 1) + wm L (N + 1)) 103) s m args below meth c H locs (0 + wc L (N + 1) + wc L (N + 1) + wc L (N + 1) + wc L (N + 1)) (0 + wm L (N + 1) + wm L (N + 1) + wm L (N + 1) + wm L (N + 1)) Q (F0 m 73 ls []) := by
    intro N73
    induction N73 using Nat.strongRecOn with
    | ind N73 ih73 =>
      intro ls H locs f i1 i2 i3 i4 i5 i6 hI hS ei3 ei4 hq5 hO hm73 hl
      refine lv_iload hx hb dTrees_grow_73 (lv_at hl 6 rfl) ?_
      refine lv_iload_n hx hb dTrees_grow_75 rfl (lv_at hl 3 rfl) ?_
      refine lv_icmp_ge (tgt := 95) hx hb dTrees_grow_76 (by decide) (fun c27 => ?_) (fun c27 => ?_)
      · refine lv_aload_n hx hb dTrees_grow_95 rfl (lv_at hl 0 rfl) ?_
        obtain ⟨ws_4, ⟨b0_4, b1_4, b2_4, b3_4, rfl, h1_4, h2_4, h3_4, h4_4, h5_4, h6_4⟩, hP, hD⟩ := id hI
        have hP : va_P γ.1 vwCl [(a, .inr (1, [.ref b0_4, .ref b1_4, .ref b2_4, .ref b3_4, .int (nI N), .int (nI rt)])), (b0_4, .inl (γ.2.1, (wl L (N + 1)), .inl (f 0))), (b1_4, .inl (γ.2.1, (wl L (N + 1)), .inl (f 1))), (b2_4, .inl (γ.2.1, (wl L (N + 1)), .inl (f 2))), (b3_4, .inl (γ.2.1, (wl L (N + 1)), .inl (f 3)))] _ := hP
        have hD : va_D Z [(a, .inr (1, [.ref b0_4, .ref b1_4, .ref b2_4, .ref b3_4, .int (nI N), .int (nI rt)])), (b0_4, .inl (γ.2.1, (wl L (N + 1)), .inl (f 0))), (b1_4, .inl (γ.2.1, (wl L (N + 1)), .inl (f 1))), (b2_4, .inl (γ.2.1, (wl L (N + 1)), .inl (f 2))), (b3_4, .inl (γ.2.1, (wl L (N + 1)), .inl (f 3)))] := hD
        refine va_get (D := γ.1) (ci := 1) (v := .ref b0_4) (C := R_Trees) (T := T_Trees) (N := 6) (Ts := bs_W0) hx hb hW in_Trees hown hC.1 hP 0 rfl rfl 0 (by decide) (hW _ qw_ffd9ddfb57) (fun _ h9 => h9) rfl dTrees_grow_96 ?_
        refine lv_iload hx hb dTrees_grow_99 (lv_at hl 4 rfl) ?_
        refine lv_iload_n hx hb dTrees_grow_101 rfl (lv_at hl 1 rfl) ?_
        refine va_iast hx hb hC.1 hP hD hS 1 0 rfl rfl (by rw [ei4]; exact in_sz (by omega) (by omega)) dTrees_grow_102 (fun H locs hP hD hS => ?_)
        obtain ⟨fc28, efc28⟩ : ∃ z : gf, z = Au f 0 i4.toNatClampNeg i1 := ⟨_, rfl⟩
        have hP : va_P γ.1 vwCl [(a, .inr (1, [.ref b0_4, .ref b1_4, .ref b2_4, .ref b3_4, .int (nI N), .int (nI rt)])), (b0_4, .inl (γ.2.1, (wl L (N + 1)), .inl (fc28 0))), (b1_4, .inl (γ.2.1, (wl L (N + 1)), .inl (fc28 1))), (b2_4, .inl (γ.2.1, (wl L (N + 1)), .inl (fc28 2))), (b3_4, .inl (γ.2.1, (wl L (N + 1)), .inl (fc28 3)))] _ := (by rw [efc28]; exact hP)
        have hD : va_D Z [(a, .inr (1, [.ref b0_4, .ref b1_4, .ref b2_4, .ref b3_4, .int (nI N), .int (nI rt)])), (b0_4, .inl (γ.2.1, (wl L (N + 1)), .inl (fc28 0))), (b1_4, .inl (γ.2.1, (wl L (N + 1)), .inl (fc28 1))), (b2_4, .inl (γ.2.1, (wl L (N + 1)), .inl (fc28 2))), (b3_4, .inl (γ.2.1, (wl L (N + 1)), .inl (fc28 3)))] := (by rw [efc28]; exact hD)
        refine lv_aload_n hx hb dTrees_grow_103 rfl (lv_at hl 0 rfl) ?_
        refine va_get (D := γ.1) (ci := 1) (v := .ref b1_4) (C := R_Trees) (T := T_Trees) (N := 6) (Ts := bs_W0) hx hb hW in_Trees hown hC.1 hP 0 rfl rfl 1 (by decide) (hW _ qw_fdd50f5077) (fun _ h9 => h9) rfl dTrees_grow_104 ?_
        refine lv_iload hx hb dTrees_grow_107 (lv_at hl 4 rfl) ?_
        refine lv_iload_n hx hb dTrees_grow_109 rfl (lv_at hl 2 rfl) ?_
        refine va_iast hx hb hC.1 hP hD hS 2 0 rfl rfl (by rw [ei4]; exact in_sz (by omega) (by omega)) dTrees_grow_110 (fun H locs hP hD hS => ?_)
        obtain ⟨fc29, efc29⟩ : ∃ z : gf, z = Au fc28 1 i4.toNatClampNeg i2 := ⟨_, rfl⟩
        have hP : va_P γ.1 vwCl [(a, .inr (1, [.ref b0_4, .ref b1_4, .ref b2_4, .ref b3_4, .int (nI N), .int (nI rt)])), (b0_4, .inl (γ.2.1, (wl L (N + 1)), .inl (fc29 0))), (b1_4, .inl (γ.2.1, (wl L (N + 1)), .inl (fc29 1))), (b2_4, .inl (γ.2.1, (wl L (N + 1)), .inl (fc29 2))), (b3_4, .inl (γ.2.1, (wl L (N + 1)), .inl (fc29 3)))] _ := (by rw [efc29]; exact hP)
        have hD : va_D Z [(a, .inr (1, [.ref b0_4, .ref b1_4, .ref b2_4, .ref b3_4, .int (nI N), .int (nI rt)])), (b0_4, .inl (γ.2.1, (wl L (N + 1)), .inl (fc29 0))), (b1_4, .inl (γ.2.1, (wl L (N + 1)), .inl (fc29 1))), (b2_4, .inl (γ.2.1, (wl L (N + 1)), .inl (fc29 2))), (b3_4, .inl (γ.2.1, (wl L (N + 1)), .inl (fc29 3)))] := (by rw [efc29]; exact hD)
        refine lv_aload_n hx hb dTrees_grow_111 rfl (lv_at hl 0 rfl) ?_
        refine va_get (D := γ.1) (ci := 1) (v := .ref b2_4) (C := R_Trees) (T := T_Trees) (N := 6) (Ts := bs_W0) hx hb hW in_Trees hown hC.1 hP 0 rfl rfl 2 (by decide) (hW _ qw_887ccc8355) (fun _ h9 => h9) rfl dTrees_grow_112 ?_
        refine lv_iload hx hb dTrees_grow_115 (lv_at hl 4 rfl) ?_
        refine lv_iload_n hx hb dTrees_grow_117 rfl (lv_at hl 3 rfl) ?_
        refine va_iast hx hb hC.1 hP hD hS 3 0 rfl rfl (by rw [ei4]; exact in_sz (by omega) (by omega)) dTrees_grow_118 (fun H locs hP hD hS => ?_)
        obtain ⟨fc30, efc30⟩ : ∃ z : gf, z = Au fc29 2 i4.toNatClampNeg i3 := ⟨_, rfl⟩
        have hP : va_P γ.1 vwCl [(a, .inr (1, [.ref b0_4, .ref b1_4, .ref b2_4, .ref b3_4, .int (nI N), .int (nI rt)])), (b0_4, .inl (γ.2.1, (wl L (N + 1)), .inl (fc30 0))), (b1_4, .inl (γ.2.1, (wl L (N + 1)), .inl (fc30 1))), (b2_4, .inl (γ.2.1, (wl L (N + 1)), .inl (fc30 2))), (b3_4, .inl (γ.2.1, (wl L (N + 1)), .inl (fc30 3)))] _ := (by rw [efc30]; exact hP)
        have hD : va_D Z [(a, .inr (1, [.ref b0_4, .ref b1_4, .ref b2_4, .ref b3_4, .int (nI N), .int (nI rt)])), (b0_4, .inl (γ.2.1, (wl L (N + 1)), .inl (fc30 0))), (b1_4, .inl (γ.2.1, (wl L (N + 1)), .inl (fc30 1))), (b2_4, .inl (γ.2.1, (wl L (N + 1)), .inl (fc30 2))), (b3_4, .inl (γ.2.1, (wl L (N + 1)), .inl (fc30 3)))] := (by rw [efc30]; exact hD)
        refine lv_aload_n hx hb dTrees_grow_119 rfl (lv_at hl 0 rfl) ?_
        refine va_get (D := γ.1) (ci := 1) (v := .ref b3_4) (C := R_Trees) (T := T_Trees) (N := 6) (Ts := bs_W0) hx hb hW in_Trees hown hC.1 hP 0 rfl rfl 3 (by decide) (hW _ qw_3682c3415f) (fun _ h9 => h9) rfl dTrees_grow_120 ?_
        refine lv_iload hx hb dTrees_grow_123 (lv_at hl 4 rfl) ?_
        refine lv_iload hx hb dTrees_grow_125 (lv_at hl 5 rfl) ?_
        refine va_iast hx hb hC.1 hP hD hS 4 0 rfl rfl (by rw [ei4]; exact in_sz (by omega) (by omega)) dTrees_grow_127 (fun H locs hP hD hS => ?_)
        obtain ⟨fc31, efc31⟩ : ∃ z : gf, z = Au fc30 3 i4.toNatClampNeg i5 := ⟨_, rfl⟩
        have hP : va_P γ.1 vwCl [(a, .inr (1, [.ref b0_4, .ref b1_4, .ref b2_4, .ref b3_4, .int (nI N), .int (nI rt)])), (b0_4, .inl (γ.2.1, (wl L (N + 1)), .inl (fc31 0))), (b1_4, .inl (γ.2.1, (wl L (N + 1)), .inl (fc31 1))), (b2_4, .inl (γ.2.1, (wl L (N + 1)), .inl (fc31 2))), (b3_4, .inl (γ.2.1, (wl L (N + 1)), .inl (fc31 3)))] _ := (by rw [efc31]; exact hP)
        have hD : va_D Z [(a, .inr (1, [.ref b0_4, .ref b1_4, .ref b2_4, .ref b3_4, .int (nI N), .int (nI rt)])), (b0_4, .inl (γ.2.1, (wl L (N + 1)), .inl (fc31 0))), (b1_4, .inl (γ.2.1, (wl L (N + 1)), .inl (fc31 1))), (b2_4, .inl (γ.2.1, (wl L (N + 1)), .inl (fc31 2))), (b3_4, .inl (γ.2.1, (wl L (N + 1)), .inl (fc31 3)))] := (by rw [efc31]; exact hD)
        refine lv_aload_n hx hb dTrees_grow_128 rfl (lv_at hl 0 rfl) ?_
        refine lv_dup hx hb dTrees_grow_129 rfl ?_
        refine va_get (D := γ.1) (ci := 1) (v := .int (nI N)) (C := R_Trees) (T := T_Trees) (N := 6) (Ts := bs_W0) hx hb hW in_Trees hown hC.1 hP 0 rfl rfl 4 (by decide) (hW _ qw_adbe8dbe65) (fun _ h9 => h9) rfl dTrees_grow_130 ?_
        refine lv_topi (fun v32 ev32 => ?_)
        refine lv_iconst (v := 1) hx hb dTrees_grow_133 (by decide) ?_
        refine lv_iadd hx hb dTrees_grow_134 ?_
        refine lv_topi (fun v33 ev33 => ?_)
        have ev33 : v33 = nI (N + 1) := by rw [ev33, ev32]; exact nI_add (N) (1)
        obtain rfl : v33 = nI (N + 1) := ev33
        refine va_put (D := γ.1) (ci := 1) (v := .int (nI (N + 1))) (ty := .int) (C := R_Trees) (T := T_Trees) (N := 6) (Ts := bs_W0) hx hb hW in_Trees t_Trees t_Trees_ok n_Trees hown hC.1 hP hD hS 0 rfl rfl 4 (by decide) (hW _ qw_adbe8dbe65) (fun _ h9 => h9) rfl (by decide +kernel) rfl rfl (Nat.le_of_ble_eq_true rfl) dTrees_grow_135 (fun H locs hP hD hS => ?_)
        have hP : va_P γ.1 vwCl [(a, .inr (1, [.ref b0_4, .ref b1_4, .ref b2_4, .ref b3_4, .int (nI (N + 1)), .int (nI rt)])), (b0_4, .inl (γ.2.1, (wl L (N + 1)), .inl (fc31 0))), (b1_4, .inl (γ.2.1, (wl L (N + 1)), .inl (fc31 1))), (b2_4, .inl (γ.2.1, (wl L (N + 1)), .inl (fc31 2))), (b3_4, .inl (γ.2.1, (wl L (N + 1)), .inl (fc31 3)))] _ := hP
        have hD : va_D Z [(a, .inr (1, [.ref b0_4, .ref b1_4, .ref b2_4, .ref b3_4, .int (nI (N + 1)), .int (nI rt)])), (b0_4, .inl (γ.2.1, (wl L (N + 1)), .inl (fc31 0))), (b1_4, .inl (γ.2.1, (wl L (N + 1)), .inl (fc31 1))), (b2_4, .inl (γ.2.1, (wl L (N + 1)), .inl (fc31 2))), (b3_4, .inl (γ.2.1, (wl L (N + 1)), .inl (fc31 3)))] := hD
        refine lv_aload_n hx hb dTrees_grow_138 rfl (lv_at hl 0 rfl) ?_
        refine lv_dup hx hb dTrees_grow_139 rfl ?_
        refine va_get (D := γ.1) (ci := 1) (v := .int (nI rt)) (C := R_Trees) (T := T_Trees) (N := 6) (Ts := bs_W0) hx hb hW in_Trees hown hC.1 hP 0 rfl rfl 5 (by decide) (hW _ qw_986a639143) (fun _ h9 => h9) rfl dTrees_grow_140 ?_
        refine lv_topi (fun v34 ev34 => ?_)
        refine lv_iconst (v := 1) hx hb dTrees_grow_143 (by decide) ?_
        refine lv_iload_n hx hb dTrees_grow_144 rfl (lv_at hl 3 rfl) ?_
        refine lv_isub hx hb dTrees_grow_145 ?_
        refine lv_topi (fun v35 ev35 => ?_)
        refine lv_iadd hx hb dTrees_grow_146 ?_
        refine lv_topi (fun v36 ev36 => ?_)
        obtain rfl : v36 = nI (rt + 1 - k3) := (by rw [ev36, ev34, ev35, ei3]; exact roots_eq hk3)
        refine va_put (D := γ.1) (ci := 1) (v := .int (nI (rt + 1 - k3))) (ty := .int) (C := R_Trees) (T := T_Trees) (N := 6) (Ts := bs_W0) hx hb hW in_Trees t_Trees t_Trees_ok n_Trees hown hC.1 hP hD hS 0 rfl rfl 5 (by decide) (hW _ qw_986a639143) (fun _ h9 => h9) rfl (by decide +kernel) rfl rfl (Nat.le_of_ble_eq_true rfl) dTrees_grow_147 (fun H locs hP hD hS => ?_)
        have hP : va_P γ.1 vwCl [(a, .inr (1, [.ref b0_4, .ref b1_4, .ref b2_4, .ref b3_4, .int (nI (N + 1)), .int (nI (rt + 1 - k3))])), (b0_4, .inl (γ.2.1, (wl L (N + 1)), .inl (fc31 0))), (b1_4, .inl (γ.2.1, (wl L (N + 1)), .inl (fc31 1))), (b2_4, .inl (γ.2.1, (wl L (N + 1)), .inl (fc31 2))), (b3_4, .inl (γ.2.1, (wl L (N + 1)), .inl (fc31 3)))] _ := hP
        have hD : va_D Z [(a, .inr (1, [.ref b0_4, .ref b1_4, .ref b2_4, .ref b3_4, .int (nI (N + 1)), .int (nI (rt + 1 - k3))])), (b0_4, .inl (γ.2.1, (wl L (N + 1)), .inl (fc31 0))), (b1_4, .inl (γ.2.1, (wl L (N + 1)), .inl (fc31 1))), (b2_4, .inl (γ.2.1, (wl L (N + 1)), .inl (fc31 2))), (b3_4, .inl (γ.2.1, (wl L (N + 1)), .inl (fc31 3)))] := hD
        refine lv_iload hx hb dTrees_grow_150 (lv_at hl 4 rfl) ?_
        have hI : cmp γ (gTrees γ a (N + 1) (rt + 1 - k3) (wl L (N + 1)) fc31) Z _ := ⟨_, ⟨b0_4, b1_4, b2_4, b3_4, rfl, (by omega), (by omega), (by omega), (by omega), (by subst ev35 ev34 ev32 efc31 efc30 efc29 efc28; exact upd_ok (by rw [ei4]; exact nI_clamp (by omega)) hq5 h5_4), (by subst ev35 ev34 ev32 efc31 efc30 efc29 efc28; exact cn_ok (by rw [ei4]; exact nI_clamp (by omega)) ⟨k3, by omega, ei3⟩ h6_4)⟩, hP, hD⟩
        have hQ := hE _ _ _ 152 ls hS (by have hO2 : Oq OUT (i4, fc31) := (by subst ev35 ev34 ev32 efc31 efc30 efc29 efc28; exact hO.tr (if_pos c27)); rw [hO2.eq]; exact ⟨rfl, hI⟩) dTrees_grow_152
        refine W.cs (cells' := 0 + wc L (N + 1) + wc L (N + 1) + wc L (N + 1) + wc L (N + 1)) (slots' := 0 + wm L (N + 1) + wm L (N + 1) + wm L (N + 1) + wm L (N + 1)) (by omega) (by omega) ?_
        exact hQ
      · refine lv_aload_n hx hb dTrees_grow_79 rfl (lv_at hl 0 rfl) ?_
        refine lv_iload hx hb dTrees_grow_80 (lv_at hl 5 rfl) ?_
        refine lv_iconst (v := 1) hx hb dTrees_grow_82 (by decide) ?_
        refine lv_isub hx hb dTrees_grow_83 ?_
        refine lv_topi (fun v37 ev37 => ?_)
        obtain ⟨ws_5, ⟨b0_5, b1_5, b2_5, b3_5, rfl, h1_5, h2_5, h3_5, h4_5, h5_5, h6_5⟩, hP, hD⟩ := id hI
        have hP : va_P γ.1 vwCl [(a, .inr (1, [.ref b0_5, .ref b1_5, .ref b2_5, .ref b3_5, .int (nI N), .int (nI rt)])), (b0_5, .inl (γ.2.1, (wl L (N + 1)), .inl (f 0))), (b1_5, .inl (γ.2.1, (wl L (N + 1)), .inl (f 1))), (b2_5, .inl (γ.2.1, (wl L (N + 1)), .inl (f 2))), (b3_5, .inl (γ.2.1, (wl L (N + 1)), .inl (f 3)))] _ := hP
        have hD : va_D Z [(a, .inr (1, [.ref b0_5, .ref b1_5, .ref b2_5, .ref b3_5, .int (nI N), .int (nI rt)])), (b0_5, .inl (γ.2.1, (wl L (N + 1)), .inl (f 0))), (b1_5, .inl (γ.2.1, (wl L (N + 1)), .inl (f 1))), (b2_5, .inl (γ.2.1, (wl L (N + 1)), .inl (f 2))), (b3_5, .inl (γ.2.1, (wl L (N + 1)), .inl (f 3)))] := hD
        refine pu_Vi (rest := []) S hC (fc_Trees_firstOf l γ Z a N rt (wl L (N + 1)) f v37) meTrees_firstOf qw_e019bcaac8 ⟨Nat.le_of_ble_eq_true rfl, Nat.le_of_ble_eq_true rfl⟩ (va_recv hC.1 hP (ci := 1) (q0 := 0) rfl rfl) hI rfl hl.1 rfl (Nat.le_of_ble_eq_true rfl) dTrees_grow_84 ⟨(by show _ ≤ 0 + wc L (N + 1) + wc L (N + 1) + wc L (N + 1) + wc L (N + 1); omega), (by show _ ≤ 0 + wm L (N + 1) + wm L (N + 1) + wm L (N + 1) + wm L (N + 1); omega)⟩ (fun r38 hr38 => ?_)
        obtain ⟨hr38, er38⟩ := hr38
        refine lv_istore (lv' := [(5, .int r38), (0, .ref a), (1, .int i1), (2, .int i2), (3, .int i3), (4, .int i4), (6, .int i6)]) hx hb dTrees_grow_87 hl (by decide) rfl (fun ls hl => ?_)
        obtain ⟨v39, ev39⟩ : ∃ y : Int32, y = i6 + 1 := ⟨_, rfl⟩
        refine lv_iinc (v := v39) (lv' := [(6, .int v39), (5, .int r38), (0, .ref a), (1, .int i1), (2, .int i2), (3, .int i3), (4, .int i4)]) hx hb dTrees_grow_89 hl (k := 6) rfl (by rw [ev39]; rfl) (by decide) rfl (fun ls hl => ?_)
        refine lv_goto (tgt := 73) hx hb dTrees_grow_92 (by decide) ?_
        refine W.cs (cells' := 0 + wc L (N + 1) + wc L (N + 1) + wc L (N + 1) + wc L (N + 1)) (slots' := 0 + wm L (N + 1) + wm L (N + 1) + wm L (N + 1) + wm L (N + 1)) (by omega) (by omega) ?_
        exact ih73 _ (by have q1 : i6.toInt < 2147483647 := (by first | exact (mu_up (k := i6) (by assumption)).2 | assumption); have q2 := mu_lt q1; rw [← ev39] at q2; omega) ls _ _ f i1 i2 i3 i4 r38 v39 hI hS (by first | assumption | exact ei3 | rfl) (by first | assumption | exact ei4 | rfl) (by first | assumption | (rw [er38]; exact nI_pos (by omega))) (by have hN : N73 = (2147483647 - v39.toInt).toNat + 1 := (by have q1 : i6.toInt < 2147483647 := (by first | exact (mu_up (k := i6) (by assumption)).2 | assumption); have q2 := mu_lt q1; rw [← ev39] at q2; omega); rw [← hN]; clear hN; subst ev39 er38 ev37; exact hO.tr (if_neg c27)) rfl (lv_sub hl [2, 3, 4, 5, 6, 1, 0] rfl)
  refine lv_aload_n hx hb dTrees_grow_0 rfl (lv_at hl 0 rfl) ?_
  obtain ⟨ws_6, ⟨b0_6, b1_6, b2_6, b3_6, rfl, h1_6, h2_6, h3_6, h4_6, h5_6, h6_6⟩, hP, hD⟩ := id hI
  have hP : va_P γ.1 vwCl [(a, .inr (1, [.ref b0_6, .ref b1_6, .ref b2_6, .ref b3_6, .int (nI N), .int (nI rt)])), (b0_6, .inl (γ.2.1, L, .inl (f 0))), (b1_6, .inl (γ.2.1, L, .inl (f 1))), (b2_6, .inl (γ.2.1, L, .inl (f 2))), (b3_6, .inl (γ.2.1, L, .inl (f 3)))] _ := hP
  have hD : va_D Z [(a, .inr (1, [.ref b0_6, .ref b1_6, .ref b2_6, .ref b3_6, .int (nI N), .int (nI rt)])), (b0_6, .inl (γ.2.1, L, .inl (f 0))), (b1_6, .inl (γ.2.1, L, .inl (f 1))), (b2_6, .inl (γ.2.1, L, .inl (f 2))), (b3_6, .inl (γ.2.1, L, .inl (f 3)))] := hD
  refine va_get (D := γ.1) (ci := 1) (v := .int (nI N)) (C := R_Trees) (T := T_Trees) (N := 6) (Ts := bs_W0) hx hb hW in_Trees hown hC.1 hP 0 rfl rfl 4 (by decide) (hW _ qw_adbe8dbe65) (fun _ h9 => h9) rfl dTrees_grow_1 ?_
  refine lv_topi (fun v40 ev40 => ?_)
  refine lv_istore (lv' := [(4, .int v40), (0, .ref a), (1, .int x1), (2, .int x2), (3, .int (nI k3))]) hx hb dTrees_grow_4 hl (by decide) rfl (fun ls hl => ?_)
  refine lv_aload_n hx hb dTrees_grow_6 rfl (lv_at hl 1 rfl) ?_
  refine lv_aload_n hx hb dTrees_grow_7 rfl (lv_at hl 1 rfl) ?_
  refine va_get (D := γ.1) (ci := 1) (v := .ref b0_6) (C := R_Trees) (T := T_Trees) (N := 6) (Ts := bs_W0) hx hb hW in_Trees hown hC.1 hP 0 rfl rfl 0 (by decide) (hW _ qw_ffd9ddfb57) (fun _ h9 => h9) rfl dTrees_grow_8 ?_
  refine lv_iload hx hb dTrees_grow_11 (lv_at hl 0 rfl) ?_
  refine lv_iconst (v := 1) hx hb dTrees_grow_13 (by decide) ?_
  refine lv_iadd hx hb dTrees_grow_14 ?_
  refine lv_topi (fun v41 ev41 => ?_)
  have ev41 : v41 = nI (N + 1) := by rw [ev41, ev40]; exact nI_add (N) (1)
  obtain rfl : v41 = nI (N + 1) := ev41
  refine mu_Tr (rest := [.ref a]) S hC (fun q h => hA q (Nat.le_trans hS.1 h)) (fun q h => h) hS (cx_withRoom l γ Z b0_6 L (N + 1) (f 0) _ (by omega) (by omega)) meTypeBook_withRoom (hC.2 _ qn_1ebf0e5650 rfl) ⟨Nat.le_of_ble_eq_true rfl, Nat.le_of_ble_eq_true rfl⟩ ⟨rfl, hD.2 1 _ rfl, hP 1 _ rfl⟩ rfl hl.1 rfl (Nat.le_of_ble_eq_true rfl) dTrees_grow_15 ⟨(by show _ ≤ 0 + wc L (N + 1) + wc L (N + 1) + wc L (N + 1) + wc L (N + 1); omega), (by show _ ≤ 0 + wm L (N + 1) + wm L (N + 1) + wm L (N + 1) + wm L (N + 1); omega)⟩ (fun r42 Hr42 locs hPO hS _ _ => ?_)
  obtain ⟨g1r42, g2r42, g3r42, g4r42, g5r42⟩ := hPO
  obtain ⟨hP, hD⟩ := wr_join (i := 1) hP hD rfl g4r42 g5r42 g1r42 g2r42
  obtain ⟨fc43, efc43⟩ : ∃ z : gf, z = up f 0 (P_wr L (N + 1) (f 0)) := ⟨_, rfl⟩
  have hP : va_P γ.1 vwCl [(a, .inr (1, [.ref b0_6, .ref b1_6, .ref b2_6, .ref b3_6, .int (nI N), .int (nI rt)])), (r42, .inl (γ.2.1, wl L (N + 1), .inl (fc43 0))), (b1_6, .inl (γ.2.1, L, .inl (fc43 1))), (b2_6, .inl (γ.2.1, L, .inl (fc43 2))), (b3_6, .inl (γ.2.1, L, .inl (fc43 3)))] _ := (by rw [efc43]; exact hP)
  have hD : va_D Z [(a, .inr (1, [.ref b0_6, .ref b1_6, .ref b2_6, .ref b3_6, .int (nI N), .int (nI rt)])), (r42, .inl (γ.2.1, wl L (N + 1), .inl (fc43 0))), (b1_6, .inl (γ.2.1, L, .inl (fc43 1))), (b2_6, .inl (γ.2.1, L, .inl (fc43 2))), (b3_6, .inl (γ.2.1, L, .inl (fc43 3)))] := (by rw [efc43]; exact hD)
  refine va_put (D := γ.1) (ci := 1) (v := .ref r42) (ty := .array .int) (C := R_Trees) (T := T_Trees) (N := 6) (Ts := bs_W0) hx hb hW in_Trees t_Trees t_Trees_ok n_Trees hown hC.1 hP hD hS 0 rfl rfl 0 (by decide) (hW _ qw_ffd9ddfb57) (fun _ h9 => h9) rfl (by decide +kernel) rfl rfl (Nat.le_of_ble_eq_true rfl) dTrees_grow_18 (fun H locs hP hD hS => ?_)
  have hP : va_P γ.1 vwCl [(a, .inr (1, [.ref r42, .ref b1_6, .ref b2_6, .ref b3_6, .int (nI N), .int (nI rt)])), (r42, .inl (γ.2.1, wl L (N + 1), .inl (fc43 0))), (b1_6, .inl (γ.2.1, L, .inl (fc43 1))), (b2_6, .inl (γ.2.1, L, .inl (fc43 2))), (b3_6, .inl (γ.2.1, L, .inl (fc43 3)))] _ := hP
  have hD : va_D Z [(a, .inr (1, [.ref r42, .ref b1_6, .ref b2_6, .ref b3_6, .int (nI N), .int (nI rt)])), (r42, .inl (γ.2.1, wl L (N + 1), .inl (fc43 0))), (b1_6, .inl (γ.2.1, L, .inl (fc43 1))), (b2_6, .inl (γ.2.1, L, .inl (fc43 2))), (b3_6, .inl (γ.2.1, L, .inl (fc43 3)))] := hD
  refine lv_aload_n hx hb dTrees_grow_21 rfl (lv_at hl 1 rfl) ?_
  refine lv_aload_n hx hb dTrees_grow_22 rfl (lv_at hl 1 rfl) ?_
  refine va_get (D := γ.1) (ci := 1) (v := .ref b1_6) (C := R_Trees) (T := T_Trees) (N := 6) (Ts := bs_W0) hx hb hW in_Trees hown hC.1 hP 0 rfl rfl 1 (by decide) (hW _ qw_fdd50f5077) (fun _ h9 => h9) rfl dTrees_grow_23 ?_
  refine lv_iload hx hb dTrees_grow_26 (lv_at hl 0 rfl) ?_
  refine lv_iconst (v := 1) hx hb dTrees_grow_28 (by decide) ?_
  refine lv_iadd hx hb dTrees_grow_29 ?_
  refine lv_topi (fun v44 ev44 => ?_)
  have ev44 : v44 = nI (N + 1) := by rw [ev44, ev40]; exact nI_add (N) (1)
  obtain rfl : v44 = nI (N + 1) := ev44
  refine mu_Tr (rest := [.ref a]) S hC (fun q h => hA q (Nat.le_trans hS.1 h)) (fun q h => h) hS (cx_withRoom l γ Z b1_6 L (N + 1) (fc43 1) _ (by omega) (by omega)) meTypeBook_withRoom (hC.2 _ qn_1ebf0e5650 rfl) ⟨Nat.le_of_ble_eq_true rfl, Nat.le_of_ble_eq_true rfl⟩ ⟨rfl, hD.2 2 _ rfl, hP 2 _ rfl⟩ rfl hl.1 rfl (Nat.le_of_ble_eq_true rfl) dTrees_grow_30 ⟨(by show _ ≤ 0 + wc L (N + 1) + wc L (N + 1) + wc L (N + 1) + wc L (N + 1); omega), (by show _ ≤ 0 + wm L (N + 1) + wm L (N + 1) + wm L (N + 1) + wm L (N + 1); omega)⟩ (fun r45 Hr45 locs hPO hS _ _ => ?_)
  obtain ⟨g1r45, g2r45, g3r45, g4r45, g5r45⟩ := hPO
  obtain ⟨hP, hD⟩ := wr_join (i := 2) hP hD rfl g4r45 g5r45 g1r45 g2r45
  obtain ⟨fc46, efc46⟩ : ∃ z : gf, z = up fc43 1 (P_wr L (N + 1) (fc43 1)) := ⟨_, rfl⟩
  have hP : va_P γ.1 vwCl [(a, .inr (1, [.ref r42, .ref b1_6, .ref b2_6, .ref b3_6, .int (nI N), .int (nI rt)])), (r42, .inl (γ.2.1, wl L (N + 1), .inl (fc46 0))), (r45, .inl (γ.2.1, wl L (N + 1), .inl (fc46 1))), (b2_6, .inl (γ.2.1, L, .inl (fc46 2))), (b3_6, .inl (γ.2.1, L, .inl (fc46 3)))] _ := (by rw [efc46]; exact hP)
  have hD : va_D Z [(a, .inr (1, [.ref r42, .ref b1_6, .ref b2_6, .ref b3_6, .int (nI N), .int (nI rt)])), (r42, .inl (γ.2.1, wl L (N + 1), .inl (fc46 0))), (r45, .inl (γ.2.1, wl L (N + 1), .inl (fc46 1))), (b2_6, .inl (γ.2.1, L, .inl (fc46 2))), (b3_6, .inl (γ.2.1, L, .inl (fc46 3)))] := (by rw [efc46]; exact hD)
  refine va_put (D := γ.1) (ci := 1) (v := .ref r45) (ty := .array .int) (C := R_Trees) (T := T_Trees) (N := 6) (Ts := bs_W0) hx hb hW in_Trees t_Trees t_Trees_ok n_Trees hown hC.1 hP hD hS 0 rfl rfl 1 (by decide) (hW _ qw_fdd50f5077) (fun _ h9 => h9) rfl (by decide +kernel) rfl rfl (Nat.le_of_ble_eq_true rfl) dTrees_grow_33 (fun H locs hP hD hS => ?_)
  have hP : va_P γ.1 vwCl [(a, .inr (1, [.ref r42, .ref r45, .ref b2_6, .ref b3_6, .int (nI N), .int (nI rt)])), (r42, .inl (γ.2.1, wl L (N + 1), .inl (fc46 0))), (r45, .inl (γ.2.1, wl L (N + 1), .inl (fc46 1))), (b2_6, .inl (γ.2.1, L, .inl (fc46 2))), (b3_6, .inl (γ.2.1, L, .inl (fc46 3)))] _ := hP
  have hD : va_D Z [(a, .inr (1, [.ref r42, .ref r45, .ref b2_6, .ref b3_6, .int (nI N), .int (nI rt)])), (r42, .inl (γ.2.1, wl L (N + 1), .inl (fc46 0))), (r45, .inl (γ.2.1, wl L (N + 1), .inl (fc46 1))), (b2_6, .inl (γ.2.1, L, .inl (fc46 2))), (b3_6, .inl (γ.2.1, L, .inl (fc46 3)))] := hD
  refine lv_aload_n hx hb dTrees_grow_36 rfl (lv_at hl 1 rfl) ?_
  refine lv_aload_n hx hb dTrees_grow_37 rfl (lv_at hl 1 rfl) ?_
  refine va_get (D := γ.1) (ci := 1) (v := .ref b2_6) (C := R_Trees) (T := T_Trees) (N := 6) (Ts := bs_W0) hx hb hW in_Trees hown hC.1 hP 0 rfl rfl 2 (by decide) (hW _ qw_887ccc8355) (fun _ h9 => h9) rfl dTrees_grow_38 ?_
  refine lv_iload hx hb dTrees_grow_41 (lv_at hl 0 rfl) ?_
  refine lv_iconst (v := 1) hx hb dTrees_grow_43 (by decide) ?_
  refine lv_iadd hx hb dTrees_grow_44 ?_
  refine lv_topi (fun v47 ev47 => ?_)
  have ev47 : v47 = nI (N + 1) := by rw [ev47, ev40]; exact nI_add (N) (1)
  obtain rfl : v47 = nI (N + 1) := ev47
  refine mu_Tr (rest := [.ref a]) S hC (fun q h => hA q (Nat.le_trans hS.1 h)) (fun q h => h) hS (cx_withRoom l γ Z b2_6 L (N + 1) (fc46 2) _ (by omega) (by omega)) meTypeBook_withRoom (hC.2 _ qn_1ebf0e5650 rfl) ⟨Nat.le_of_ble_eq_true rfl, Nat.le_of_ble_eq_true rfl⟩ ⟨rfl, hD.2 3 _ rfl, hP 3 _ rfl⟩ rfl hl.1 rfl (Nat.le_of_ble_eq_true rfl) dTrees_grow_45 ⟨(by show _ ≤ 0 + wc L (N + 1) + wc L (N + 1) + wc L (N + 1) + wc L (N + 1); omega), (by show _ ≤ 0 + wm L (N + 1) + wm L (N + 1) + wm L (N + 1) + wm L (N + 1); omega)⟩ (fun r48 Hr48 locs hPO hS _ _ => ?_)
  obtain ⟨g1r48, g2r48, g3r48, g4r48, g5r48⟩ := hPO
  obtain ⟨hP, hD⟩ := wr_join (i := 3) hP hD rfl g4r48 g5r48 g1r48 g2r48
  obtain ⟨fc49, efc49⟩ : ∃ z : gf, z = up fc46 2 (P_wr L (N + 1) (fc46 2)) := ⟨_, rfl⟩
  have hP : va_P γ.1 vwCl [(a, .inr (1, [.ref r42, .ref r45, .ref b2_6, .ref b3_6, .int (nI N), .int (nI rt)])), (r42, .inl (γ.2.1, wl L (N + 1), .inl (fc49 0))), (r45, .inl (γ.2.1, wl L (N + 1), .inl (fc49 1))), (r48, .inl (γ.2.1, wl L (N + 1), .inl (fc49 2))), (b3_6, .inl (γ.2.1, L, .inl (fc49 3)))] _ := (by rw [efc49]; exact hP)
  have hD : va_D Z [(a, .inr (1, [.ref r42, .ref r45, .ref b2_6, .ref b3_6, .int (nI N), .int (nI rt)])), (r42, .inl (γ.2.1, wl L (N + 1), .inl (fc49 0))), (r45, .inl (γ.2.1, wl L (N + 1), .inl (fc49 1))), (r48, .inl (γ.2.1, wl L (N + 1), .inl (fc49 2))), (b3_6, .inl (γ.2.1, L, .inl (fc49 3)))] := (by rw [efc49]; exact hD)
  refine va_put (D := γ.1) (ci := 1) (v := .ref r48) (ty := .array .int) (C := R_Trees) (T := T_Trees) (N := 6) (Ts := bs_W0) hx hb hW in_Trees t_Trees t_Trees_ok n_Trees hown hC.1 hP hD hS 0 rfl rfl 2 (by decide) (hW _ qw_887ccc8355) (fun _ h9 => h9) rfl (by decide +kernel) rfl rfl (Nat.le_of_ble_eq_true rfl) dTrees_grow_48 (fun H locs hP hD hS => ?_)
  have hP : va_P γ.1 vwCl [(a, .inr (1, [.ref r42, .ref r45, .ref r48, .ref b3_6, .int (nI N), .int (nI rt)])), (r42, .inl (γ.2.1, wl L (N + 1), .inl (fc49 0))), (r45, .inl (γ.2.1, wl L (N + 1), .inl (fc49 1))), (r48, .inl (γ.2.1, wl L (N + 1), .inl (fc49 2))), (b3_6, .inl (γ.2.1, L, .inl (fc49 3)))] _ := hP
  have hD : va_D Z [(a, .inr (1, [.ref r42, .ref r45, .ref r48, .ref b3_6, .int (nI N), .int (nI rt)])), (r42, .inl (γ.2.1, wl L (N + 1), .inl (fc49 0))), (r45, .inl (γ.2.1, wl L (N + 1), .inl (fc49 1))), (r48, .inl (γ.2.1, wl L (N + 1), .inl (fc49 2))), (b3_6, .inl (γ.2.1, L, .inl (fc49 3)))] := hD
  refine lv_aload_n hx hb dTrees_grow_51 rfl (lv_at hl 1 rfl) ?_
  refine lv_aload_n hx hb dTrees_grow_52 rfl (lv_at hl 1 rfl) ?_
  refine va_get (D := γ.1) (ci := 1) (v := .ref b3_6) (C := R_Trees) (T := T_Trees) (N := 6) (Ts := bs_W0) hx hb hW in_Trees hown hC.1 hP 0 rfl rfl 3 (by decide) (hW _ qw_3682c3415f) (fun _ h9 => h9) rfl dTrees_grow_53 ?_
  refine lv_iload hx hb dTrees_grow_56 (lv_at hl 0 rfl) ?_
  refine lv_iconst (v := 1) hx hb dTrees_grow_58 (by decide) ?_
  refine lv_iadd hx hb dTrees_grow_59 ?_
  refine lv_topi (fun v50 ev50 => ?_)
  have ev50 : v50 = nI (N + 1) := by rw [ev50, ev40]; exact nI_add (N) (1)
  obtain rfl : v50 = nI (N + 1) := ev50
  refine mu_Tr (rest := [.ref a]) S hC (fun q h => hA q (Nat.le_trans hS.1 h)) (fun q h => h) hS (cx_withRoom l γ Z b3_6 L (N + 1) (fc49 3) _ (by omega) (by omega)) meTypeBook_withRoom (hC.2 _ qn_1ebf0e5650 rfl) ⟨Nat.le_of_ble_eq_true rfl, Nat.le_of_ble_eq_true rfl⟩ ⟨rfl, hD.2 4 _ rfl, hP 4 _ rfl⟩ rfl hl.1 rfl (Nat.le_of_ble_eq_true rfl) dTrees_grow_60 ⟨(by show _ ≤ 0 + wc L (N + 1) + wc L (N + 1) + wc L (N + 1) + wc L (N + 1); omega), (by show _ ≤ 0 + wm L (N + 1) + wm L (N + 1) + wm L (N + 1) + wm L (N + 1); omega)⟩ (fun r51 Hr51 locs hPO hS _ _ => ?_)
  obtain ⟨g1r51, g2r51, g3r51, g4r51, g5r51⟩ := hPO
  obtain ⟨hP, hD⟩ := wr_join (i := 4) hP hD rfl g4r51 g5r51 g1r51 g2r51
  obtain ⟨fc52, efc52⟩ : ∃ z : gf, z = up fc49 3 (P_wr L (N + 1) (fc49 3)) := ⟨_, rfl⟩
  have hP : va_P γ.1 vwCl [(a, .inr (1, [.ref r42, .ref r45, .ref r48, .ref b3_6, .int (nI N), .int (nI rt)])), (r42, .inl (γ.2.1, wl L (N + 1), .inl (fc52 0))), (r45, .inl (γ.2.1, wl L (N + 1), .inl (fc52 1))), (r48, .inl (γ.2.1, wl L (N + 1), .inl (fc52 2))), (r51, .inl (γ.2.1, wl L (N + 1), .inl (fc52 3)))] _ := (by rw [efc52]; exact hP)
  have hD : va_D Z [(a, .inr (1, [.ref r42, .ref r45, .ref r48, .ref b3_6, .int (nI N), .int (nI rt)])), (r42, .inl (γ.2.1, wl L (N + 1), .inl (fc52 0))), (r45, .inl (γ.2.1, wl L (N + 1), .inl (fc52 1))), (r48, .inl (γ.2.1, wl L (N + 1), .inl (fc52 2))), (r51, .inl (γ.2.1, wl L (N + 1), .inl (fc52 3)))] := (by rw [efc52]; exact hD)
  refine va_put (D := γ.1) (ci := 1) (v := .ref r51) (ty := .array .int) (C := R_Trees) (T := T_Trees) (N := 6) (Ts := bs_W0) hx hb hW in_Trees t_Trees t_Trees_ok n_Trees hown hC.1 hP hD hS 0 rfl rfl 3 (by decide) (hW _ qw_3682c3415f) (fun _ h9 => h9) rfl (by decide +kernel) rfl rfl (Nat.le_of_ble_eq_true rfl) dTrees_grow_63 (fun H locs hP hD hS => ?_)
  have hP : va_P γ.1 vwCl [(a, .inr (1, [.ref r42, .ref r45, .ref r48, .ref r51, .int (nI N), .int (nI rt)])), (r42, .inl (γ.2.1, wl L (N + 1), .inl (fc52 0))), (r45, .inl (γ.2.1, wl L (N + 1), .inl (fc52 1))), (r48, .inl (γ.2.1, wl L (N + 1), .inl (fc52 2))), (r51, .inl (γ.2.1, wl L (N + 1), .inl (fc52 3)))] _ := hP
  have hD : va_D Z [(a, .inr (1, [.ref r42, .ref r45, .ref r48, .ref r51, .int (nI N), .int (nI rt)])), (r42, .inl (γ.2.1, wl L (N + 1), .inl (fc52 0))), (r45, .inl (γ.2.1, wl L (N + 1), .inl (fc52 1))), (r48, .inl (γ.2.1, wl L (N + 1), .inl (fc52 2))), (r51, .inl (γ.2.1, wl L (N + 1), .inl (fc52 3)))] := hD
  refine lv_iload hx hb dTrees_grow_66 (lv_at hl 0 rfl) ?_
  refine lv_istore (lv' := [(5, .int v40), (4, .int v40), (0, .ref a), (1, .int x1), (2, .int x2), (3, .int (nI k3))]) hx hb dTrees_grow_68 hl (by decide) rfl (fun ls hl => ?_)
  refine lv_iconst (v := 0) hx hb dTrees_grow_70 (by decide) ?_
  refine lv_istore (lv' := [(6, .int 0), (5, .int v40), (4, .int v40), (0, .ref a), (1, .int x1), (2, .int x2), (3, .int (nI k3))]) hx hb dTrees_grow_71 hl (by decide) rfl (fun ls hl => ?_)
  have hI : cmp γ (gTrees γ a N rt (wl L (N + 1)) fc52) Z _ := ⟨_, ⟨r42, r45, r48, r51, rfl, (by omega), (by omega), (by omega), (by omega), (by subst efc52 efc49 efc46 efc43 ev40; exact fun k hk => by show ¬ P_wr L (N + 1) (f 3) k < 0; rw [P_wr_lt (by omega)]; exact h5_6 k hk), (by subst efc52 efc49 efc46 efc43 ev40; exact fun k hk => by show ∃ j, j ≤ 4096 ∧ P_wr L (N + 1) (f 2) k = nI j; rw [P_wr_lt (by omega)]; exact h6_6 k hk)⟩, hP, hD⟩
  refine W.cs (cells' := 0 + wc L (N + 1) + wc L (N + 1) + wc L (N + 1) + wc L (N + 1)) (slots' := 0 + wm L (N + 1) + wm L (N + 1) + wm L (N + 1) + wm L (N + 1)) (by omega) (by omega) ?_
  exact J73 _ ls _ _ fc52 x1 x2 (nI k3) v40 v40 0 hI hS (by first | assumption | exact enI k3 | rfl) (by first | assumption | exact ev40 | rfl) (by first | assumption | (rw [ev40]; exact nI_pos (by omega))) (by subst efc52 efc49 efc46 efc43 ev40; exact hO.tr rfl) rfl (lv_sub hl [3, 4, 5, 6, 2, 1, 0] rfl)
theorem f1_Trees_grow (l : Launch) (γ : gE) (A : Nat → Prop) (κ : Nat → Nat) (φ : gF) (ψ : gG) (x1 : Int32) (x2 : Int32) (k3 : Nat) (hN : (κ 0) ≤ 4000) (hk3 : k3 ≤ (κ 1)) : MU l yTrees_grow bTrees_grow 7 (some .int) 3 103 (0 + wc (κ 11) ((κ 0) + 1) + wc (κ 11) ((κ 0) + 1) + wc (κ 11) ((κ 0) + 1) + wc (κ 11) ((κ 0) + 1)) (0 + wm (κ 11) ((κ 0) + 1) + wm (κ 11) ((κ 0) + 1) + wm (κ 11) ((κ 0) + 1) + wm (κ 11) ((κ 0) + 1)) [.ref (γ.2.2.2 1), .int x1, .int x2, .int (nI k3)] γ A (INVF γ A κ φ ψ) (mQi (fun r H => r = (P_Trees_grow (κ 0) (κ 1) (κ 11) (φ 2) x1 x2 k3).1 ∧ INVF γ A (ku (ku (ku κ 0 ((κ 0) + 1)) 1 ((κ 1) + 1 - k3)) 11 (wl (κ 11) ((κ 0) + 1))) (up φ 2 (P_Trees_grow (κ 0) (κ 1) (κ 11) (φ 2) x1 x2 k3).2) ψ H) A) :=
  muk_if (κ := κ) (κ' := (ku (ku (ku κ 0 ((κ 0) + 1)) 1 ((κ 1) + 1 - k3)) 11 (wl (κ 11) ((κ 0) + 1)))) (T := fun r => r = (P_Trees_grow (κ 0) (κ 1) (κ 11) (φ 2) x1 x2 k3).1) 2 (by decide) (by decide) (fun j h1 h2 h3 f g => by rcases (show j = 1 ∨ j = 2 ∨ j = 3 ∨ j = 4 ∨ j = 5 ∨ j = 6 ∨ j = 7 ∨ j = 8 ∨ j = 9 ∨ j = 10 by omega) with h | h | h | h | h | h | h | h | h | h <;> subst h <;> first | rfl | exact absurd rfl h1) (fun Z => fc_Trees_grow l γ Z (γ.2.2.2 1) (κ 0) (κ 1) (κ 11) (φ 2) x1 x2 k3 hN hk3)
def P_Trees_fell (N rt L : Nat) (f : gf) : gf := f
set_option maxHeartbeats 4000000 in
set_option maxRecDepth 100000 in
theorem fc_Trees_fell (l : Launch) (γ : gE) (Z : Nat → Prop) (a N rt L : Nat) (f : gf)   : MU l yTrees_fell bTrees_fell 1 (none) 0 0 0 0 [.ref a] γ Z (cmp γ (gTrees γ a N rt L f) Z) (mQv (fun H => cmp γ (gTrees γ a 0 0 L (P_Trees_fell N rt L f )) Z H) Z) := by
  refine mu_openV (by decide) (Nat.le_of_ble_eq_true rfl) ?_
  intro p e s m args below meth c ls Q S hnm hC hA hI hE hl
  obtain ⟨hx, hb, hml, hown, hW⟩ := id S
  have hS : va_S Z s.heap s.heap [] := va_S.rf
  have hl : lv_has ls 1 [(0, .ref a)] := hl
  obtain ⟨OUT, hQ, hO⟩ : ∃ z, (z = P_Trees_fell N rt L f ) ∧ Oq z (P_Trees_fell N rt L f ) := ⟨_, rfl, rfl⟩
  rw [← hQ] at hE
  clear hQ
  refine lv_aload_n hx hb dTrees_fell_0 rfl (lv_at hl 0 rfl) ?_
  refine lv_iconst (v := 0) hx hb dTrees_fell_1 (by decide) ?_
  obtain ⟨ws_2, ⟨b0_2, b1_2, b2_2, b3_2, rfl, h1_2, h2_2, h3_2, h4_2, h5_2, h6_2⟩, hP, hD⟩ := id hI
  have hP : va_P γ.1 vwCl [(a, .inr (1, [.ref b0_2, .ref b1_2, .ref b2_2, .ref b3_2, .int (nI N), .int (nI rt)])), (b0_2, .inl (γ.2.1, L, .inl (f 0))), (b1_2, .inl (γ.2.1, L, .inl (f 1))), (b2_2, .inl (γ.2.1, L, .inl (f 2))), (b3_2, .inl (γ.2.1, L, .inl (f 3)))] _ := hP
  have hD : va_D Z [(a, .inr (1, [.ref b0_2, .ref b1_2, .ref b2_2, .ref b3_2, .int (nI N), .int (nI rt)])), (b0_2, .inl (γ.2.1, L, .inl (f 0))), (b1_2, .inl (γ.2.1, L, .inl (f 1))), (b2_2, .inl (γ.2.1, L, .inl (f 2))), (b3_2, .inl (γ.2.1, L, .inl (f 3)))] := hD
  refine va_put (D := γ.1) (ci := 1) (v := .int (nI (0))) (ty := .int) (C := R_Trees) (T := T_Trees) (N := 6) (Ts := bs_W0) hx hb hW in_Trees t_Trees t_Trees_ok n_Trees hown hC.1 hP hD hS 0 rfl rfl 4 (by decide) (hW _ qw_adbe8dbe65) (fun _ h9 => h9) rfl (by decide +kernel) rfl rfl (Nat.le_of_ble_eq_true rfl) dTrees_fell_2 (fun H locs hP hD hS => ?_)
  have hP : va_P γ.1 vwCl [(a, .inr (1, [.ref b0_2, .ref b1_2, .ref b2_2, .ref b3_2, .int (nI (0)), .int (nI rt)])), (b0_2, .inl (γ.2.1, L, .inl (f 0))), (b1_2, .inl (γ.2.1, L, .inl (f 1))), (b2_2, .inl (γ.2.1, L, .inl (f 2))), (b3_2, .inl (γ.2.1, L, .inl (f 3)))] _ := hP
  have hD : va_D Z [(a, .inr (1, [.ref b0_2, .ref b1_2, .ref b2_2, .ref b3_2, .int (nI (0)), .int (nI rt)])), (b0_2, .inl (γ.2.1, L, .inl (f 0))), (b1_2, .inl (γ.2.1, L, .inl (f 1))), (b2_2, .inl (γ.2.1, L, .inl (f 2))), (b3_2, .inl (γ.2.1, L, .inl (f 3)))] := hD
  refine lv_aload_n hx hb dTrees_fell_5 rfl (lv_at hl 0 rfl) ?_
  refine lv_iconst (v := 0) hx hb dTrees_fell_6 (by decide) ?_
  refine va_put (D := γ.1) (ci := 1) (v := .int (nI (0))) (ty := .int) (C := R_Trees) (T := T_Trees) (N := 6) (Ts := bs_W0) hx hb hW in_Trees t_Trees t_Trees_ok n_Trees hown hC.1 hP hD hS 0 rfl rfl 5 (by decide) (hW _ qw_986a639143) (fun _ h9 => h9) rfl (by decide +kernel) rfl rfl (Nat.le_of_ble_eq_true rfl) dTrees_fell_7 (fun H locs hP hD hS => ?_)
  have hP : va_P γ.1 vwCl [(a, .inr (1, [.ref b0_2, .ref b1_2, .ref b2_2, .ref b3_2, .int (nI (0)), .int (nI (0))])), (b0_2, .inl (γ.2.1, L, .inl (f 0))), (b1_2, .inl (γ.2.1, L, .inl (f 1))), (b2_2, .inl (γ.2.1, L, .inl (f 2))), (b3_2, .inl (γ.2.1, L, .inl (f 3)))] _ := hP
  have hD : va_D Z [(a, .inr (1, [.ref b0_2, .ref b1_2, .ref b2_2, .ref b3_2, .int (nI (0)), .int (nI (0))])), (b0_2, .inl (γ.2.1, L, .inl (f 0))), (b1_2, .inl (γ.2.1, L, .inl (f 1))), (b2_2, .inl (γ.2.1, L, .inl (f 2))), (b3_2, .inl (γ.2.1, L, .inl (f 3)))] := hD
  have hI : cmp γ (gTrees γ a 0 0 L f) Z _ := ⟨_, ⟨b0_2, b1_2, b2_2, b3_2, rfl, (by omega), (by omega), (by omega), (by omega), (fun k hk => absurd hk (Nat.not_lt_zero k)), (fun k hk => absurd hk (Nat.not_lt_zero k))⟩, hP, hD⟩
  exact hE _ _ 10 ls hS (by have hO2 : Oq OUT f := (by exact hO.tr rfl); rw [hO2.eq]; exact hI) dTrees_fell_10
theorem f1_Trees_fell (l : Launch) (γ : gE) (A : Nat → Prop) (κ : Nat → Nat) (φ : gF) (ψ : gG)   : MU l yTrees_fell bTrees_fell 1 (none) 0 0 0 0 [.ref (γ.2.2.2 1)] γ A (INVF γ A κ φ ψ) (mQv (fun H => INVF γ A (ku (ku κ 0 (0)) 1 (0)) (up φ 2 (P_Trees_fell (κ 0) (κ 1) (κ 11) (φ 2) )) ψ H) A) :=
  muk_vf (κ := κ) (κ' := (ku (ku κ 0 (0)) 1 (0))) 2 (by decide) (by decide) (fun j h1 h2 h3 f g => by rcases (show j = 1 ∨ j = 2 ∨ j = 3 ∨ j = 4 ∨ j = 5 ∨ j = 6 ∨ j = 7 ∨ j = 8 ∨ j = 9 ∨ j = 10 by omega) with h | h | h | h | h | h | h | h | h | h <;> subst h <;> first | rfl | exact absurd rfl h1) (fun Z => fc_Trees_fell l γ Z (γ.2.2.2 1) (κ 0) (κ 1) (κ 11) (φ 2)  )
def P_Names_open (N sc L : Nat) (f : gf) : gf := (if 32 ≤ (nI (sc)) then default else (Au f 6 (nI (sc)).toNatClampNeg (nI (N))))
set_option maxHeartbeats 4000000 in
set_option maxRecDepth 100000 in
theorem fc_Names_open (l : Launch) (γ : gE) (Z : Nat → Prop) (a N sc L : Nat) (f : gf)  (hsc : sc < 32) : MU l yNames_open bNames_open 1 (none) 0 0 0 0 [.ref a] γ Z (cmp γ (gNames γ a N sc L f) Z) (mQv (fun H => cmp γ (gNames γ a N (sc + 1) L (P_Names_open N sc L f )) Z H) Z) := by
  refine mu_openV (by decide) (Nat.le_of_ble_eq_true rfl) ?_
  intro p e s m args below meth c ls Q S hnm hC hA hI hE hl
  obtain ⟨hx, hb, hml, hown, hW⟩ := id S
  have hS : va_S Z s.heap s.heap [] := va_S.rf
  have hl : lv_has ls 1 [(0, .ref a)] := hl
  obtain ⟨OUT, hQ, hO⟩ : ∃ z, (z = P_Names_open N sc L f ) ∧ Oq z (P_Names_open N sc L f ) := ⟨_, rfl, rfl⟩
  rw [← hQ] at hE
  clear hQ
  refine lv_aload_n hx hb dNames_open_0 rfl (lv_at hl 0 rfl) ?_
  obtain ⟨ws_2, ⟨b0_2, b1_2, b2_2, b3_2, b4_2, b5_2, b6_2, rfl, h1_2, h2_2, h3_2, h4_2, h5_2, h6_2⟩, hP, hD⟩ := id hI
  have hP : va_P γ.1 vwCl [(a, .inr (2, [.ref b0_2, .ref b1_2, .ref b2_2, .ref b3_2, .ref b4_2, .ref b5_2, .ref b6_2, .int (nI N), .int (nI sc)])), (b0_2, .inl (γ.2.1, L, .inl (f 0))), (b1_2, .inl (γ.2.1, L, .inl (f 1))), (b2_2, .inl (γ.2.1, L, .inl (f 2))), (b3_2, .inl (γ.2.1, L, .inl (f 3))), (b4_2, .inl (γ.2.1, L, .inl (f 4))), (b5_2, .inl (γ.2.1, 256, .inl (f 5))), (b6_2, .inl (γ.2.1, 32, .inl (f 6)))] _ := hP
  have hD : va_D Z [(a, .inr (2, [.ref b0_2, .ref b1_2, .ref b2_2, .ref b3_2, .ref b4_2, .ref b5_2, .ref b6_2, .int (nI N), .int (nI sc)])), (b0_2, .inl (γ.2.1, L, .inl (f 0))), (b1_2, .inl (γ.2.1, L, .inl (f 1))), (b2_2, .inl (γ.2.1, L, .inl (f 2))), (b3_2, .inl (γ.2.1, L, .inl (f 3))), (b4_2, .inl (γ.2.1, L, .inl (f 4))), (b5_2, .inl (γ.2.1, 256, .inl (f 5))), (b6_2, .inl (γ.2.1, 32, .inl (f 6)))] := hD
  refine va_get (D := γ.1) (ci := 2) (v := .int (nI sc)) (C := R_Names) (T := T_Names) (N := 9) (Ts := bs_W0) hx hb hW in_Names hown hC.1 hP 0 rfl rfl 8 (by decide) (hW _ qw_40882965f2) (fun _ h9 => h9) rfl dNames_open_1 ?_
  refine lv_topi (fun v8 ev8 => ?_)
  refine lv_bipush (v := 32) hx hb dNames_open_4 (by decide) ?_
  refine lv_icmp_ge (tgt := 32) hx hb dNames_open_6 (by decide) (fun c9 => ?_) (fun c9 => ?_)
  · exact absurd c9 (by rw [ev8]; exact nI_ge (a := sc) (b := 32) hsc (by omega))
  · refine lv_aload_n hx hb dNames_open_9 rfl (lv_at hl 0 rfl) ?_
    refine va_get (D := γ.1) (ci := 2) (v := .ref b6_2) (C := R_Names) (T := T_Names) (N := 9) (Ts := bs_W0) hx hb hW in_Names hown hC.1 hP 0 rfl rfl 6 (by decide) (hW _ qw_c2f4fc63da) (fun _ h9 => h9) rfl dNames_open_10 ?_
    refine lv_aload_n hx hb dNames_open_13 rfl (lv_at hl 0 rfl) ?_
    refine va_get (D := γ.1) (ci := 2) (v := .int (nI sc)) (C := R_Names) (T := T_Names) (N := 9) (Ts := bs_W0) hx hb hW in_Names hown hC.1 hP 0 rfl rfl 8 (by decide) (hW _ qw_40882965f2) (fun _ h9 => h9) rfl dNames_open_14 ?_
    refine lv_topi (fun v10 ev10 => ?_)
    refine lv_aload_n hx hb dNames_open_17 rfl (lv_at hl 0 rfl) ?_
    refine va_get (D := γ.1) (ci := 2) (v := .int (nI N)) (C := R_Names) (T := T_Names) (N := 9) (Ts := bs_W0) hx hb hW in_Names hown hC.1 hP 0 rfl rfl 7 (by decide) (hW _ qw_171adcdf9f) (fun _ h9 => h9) rfl dNames_open_18 ?_
    refine lv_topi (fun v11 ev11 => ?_)
    refine va_iast hx hb hC.1 hP hD hS 7 0 rfl rfl (by rw [ev10]; exact vp_in_nI (by omega) (by omega)) dNames_open_21 (fun H locs hP hD hS => ?_)
    obtain ⟨fc12, efc12⟩ : ∃ z : gf, z = Au f 6 v10.toNatClampNeg v11 := ⟨_, rfl⟩
    have hP : va_P γ.1 vwCl [(a, .inr (2, [.ref b0_2, .ref b1_2, .ref b2_2, .ref b3_2, .ref b4_2, .ref b5_2, .ref b6_2, .int (nI N), .int (nI sc)])), (b0_2, .inl (γ.2.1, L, .inl (fc12 0))), (b1_2, .inl (γ.2.1, L, .inl (fc12 1))), (b2_2, .inl (γ.2.1, L, .inl (fc12 2))), (b3_2, .inl (γ.2.1, L, .inl (fc12 3))), (b4_2, .inl (γ.2.1, L, .inl (fc12 4))), (b5_2, .inl (γ.2.1, 256, .inl (fc12 5))), (b6_2, .inl (γ.2.1, 32, .inl (fc12 6)))] _ := (by rw [efc12]; exact hP)
    have hD : va_D Z [(a, .inr (2, [.ref b0_2, .ref b1_2, .ref b2_2, .ref b3_2, .ref b4_2, .ref b5_2, .ref b6_2, .int (nI N), .int (nI sc)])), (b0_2, .inl (γ.2.1, L, .inl (fc12 0))), (b1_2, .inl (γ.2.1, L, .inl (fc12 1))), (b2_2, .inl (γ.2.1, L, .inl (fc12 2))), (b3_2, .inl (γ.2.1, L, .inl (fc12 3))), (b4_2, .inl (γ.2.1, L, .inl (fc12 4))), (b5_2, .inl (γ.2.1, 256, .inl (fc12 5))), (b6_2, .inl (γ.2.1, 32, .inl (fc12 6)))] := (by rw [efc12]; exact hD)
    refine lv_aload_n hx hb dNames_open_22 rfl (lv_at hl 0 rfl) ?_
    refine lv_dup hx hb dNames_open_23 rfl ?_
    refine va_get (D := γ.1) (ci := 2) (v := .int (nI sc)) (C := R_Names) (T := T_Names) (N := 9) (Ts := bs_W0) hx hb hW in_Names hown hC.1 hP 0 rfl rfl 8 (by decide) (hW _ qw_40882965f2) (fun _ h9 => h9) rfl dNames_open_24 ?_
    refine lv_topi (fun v13 ev13 => ?_)
    refine lv_iconst (v := 1) hx hb dNames_open_27 (by decide) ?_
    refine lv_iadd hx hb dNames_open_28 ?_
    refine lv_topi (fun v14 ev14 => ?_)
    have ev14 : v14 = nI (sc + 1) := by rw [ev14, ev13]; exact nI_add (sc) (1)
    obtain rfl : v14 = nI (sc + 1) := ev14
    refine va_put (D := γ.1) (ci := 2) (v := .int (nI (sc + 1))) (ty := .int) (C := R_Names) (T := T_Names) (N := 9) (Ts := bs_W0) hx hb hW in_Names t_Names t_Names_ok n_Names hown hC.1 hP hD hS 0 rfl rfl 8 (by decide) (hW _ qw_40882965f2) (fun _ h9 => h9) rfl (by decide +kernel) rfl rfl (Nat.le_of_ble_eq_true rfl) dNames_open_29 (fun H locs hP hD hS => ?_)
    have hP : va_P γ.1 vwCl [(a, .inr (2, [.ref b0_2, .ref b1_2, .ref b2_2, .ref b3_2, .ref b4_2, .ref b5_2, .ref b6_2, .int (nI N), .int (nI (sc + 1))])), (b0_2, .inl (γ.2.1, L, .inl (fc12 0))), (b1_2, .inl (γ.2.1, L, .inl (fc12 1))), (b2_2, .inl (γ.2.1, L, .inl (fc12 2))), (b3_2, .inl (γ.2.1, L, .inl (fc12 3))), (b4_2, .inl (γ.2.1, L, .inl (fc12 4))), (b5_2, .inl (γ.2.1, 256, .inl (fc12 5))), (b6_2, .inl (γ.2.1, 32, .inl (fc12 6)))] _ := hP
    have hD : va_D Z [(a, .inr (2, [.ref b0_2, .ref b1_2, .ref b2_2, .ref b3_2, .ref b4_2, .ref b5_2, .ref b6_2, .int (nI N), .int (nI (sc + 1))])), (b0_2, .inl (γ.2.1, L, .inl (fc12 0))), (b1_2, .inl (γ.2.1, L, .inl (fc12 1))), (b2_2, .inl (γ.2.1, L, .inl (fc12 2))), (b3_2, .inl (γ.2.1, L, .inl (fc12 3))), (b4_2, .inl (γ.2.1, L, .inl (fc12 4))), (b5_2, .inl (γ.2.1, 256, .inl (fc12 5))), (b6_2, .inl (γ.2.1, 32, .inl (fc12 6)))] := hD
    have hI : cmp γ (gNames γ a N (sc + 1) L fc12) Z _ := ⟨_, ⟨b0_2, b1_2, b2_2, b3_2, b4_2, b5_2, b6_2, rfl, (by omega), (by omega), (by omega), (by omega), (by omega), (by obtain ⟨g, q1, q2, q3⟩ := h6_2; subst ev13 efc12 ev11 ev10 ev8; exact st_ok (nI_clamp (by omega)) rfl q1 q2 q3)⟩, hP, hD⟩
    exact hE _ _ 32 ls hS (by have hO2 : Oq OUT fc12 := (by subst ev13 efc12 ev11 ev10 ev8; exact hO.tr (if_neg c9)); rw [hO2.eq]; exact hI) dNames_open_32
theorem f2_Names_open (l : Launch) (γ : gE) (A : Nat → Prop) (κ : Nat → Nat) (φ : gF) (ψ : gG)  (hsc : (κ 3) < 32) : MU l yNames_open bNames_open 1 (none) 0 0 0 0 [.ref (γ.2.2.2 2)] γ A (INVF γ A κ φ ψ) (mQv (fun H => INVF γ A (ku κ 3 ((κ 3) + 1)) (up φ 3 (P_Names_open (κ 2) (κ 3) (κ 12) (φ 3) )) ψ H) A) :=
  muk_vf (κ := κ) (κ' := (ku κ 3 ((κ 3) + 1))) 3 (by decide) (by decide) (fun j h1 h2 h3 f g => by rcases (show j = 1 ∨ j = 2 ∨ j = 3 ∨ j = 4 ∨ j = 5 ∨ j = 6 ∨ j = 7 ∨ j = 8 ∨ j = 9 ∨ j = 10 by omega) with h | h | h | h | h | h | h | h | h | h <;> subst h <;> first | rfl | exact absurd rfl h1) (fun Z => fc_Names_open l γ Z (γ.2.2.2 2) (κ 2) (κ 3) (κ 12) (φ 3)  hsc)
def P_Names_close_35 (N sc L : Nat) : Nat → gf → Int32 → Int32 → gf
  | 0, _, _, _ => default
  | n + 1, f, i1, i2 => (if i2 < i1 then f else (P_Names_close_35 N sc L n (Au f 5 ((f 0 i2.toNatClampNeg) &&& 255).toNatClampNeg (f 4 i2.toNatClampNeg)) i1 (i2 + (-1))))
def P_Names_close (N sc L : Nat) (f : gf) (s1 : Nat) : gf := (if (nI (sc)) ≤ 1 then default else (P_Names_close_35 N sc L  ((((nI (N)) - 1).toInt + 2147483648).toNat + 1) f (f 6 (nI (s1)).toNatClampNeg) ((nI (N)) - 1)))
set_option maxHeartbeats 4000000 in
set_option maxRecDepth 100000 in
theorem fc_Names_close (l : Launch) (γ : gE) (Z : Nat → Prop) (a N sc L : Nat) (f : gf) (s1 : Nat) (hs : sc = s1 + 1) (hs1 : 1 ≤ s1) : MU l yNames_close bNames_close 3 (none) 0 0 0 0 [.ref a] γ Z (cmp γ (gNames γ a N sc L f) Z) (mQv (fun H => cmp γ (gNames γ a ((f 6 s1).toNatClampNeg) s1 L (P_Names_close N sc L f s1)) Z H) Z) := by
  refine mu_openV (by decide) (Nat.le_of_ble_eq_true rfl) ?_
  intro p e s m args below meth c ls Q S hnm hC hA hI hE hl
  obtain ⟨hx, hb, hml, hown, hW⟩ := id S
  have hS : va_S Z s.heap s.heap [] := va_S.rf
  have hl : lv_has ls 3 [(0, .ref a)] := hl
  have hb9 : L ≤ 8192 ∧ N ≤ L ∧ sc ≤ 32 := (by obtain ⟨w9, ⟨_, _, _, _, _, _, _, _, h1, h2, _, _, h5, _⟩, _, _⟩ := id hI; exact ⟨h2, h1, h5⟩)
  obtain ⟨g, q1, q2, q3⟩ : ∃ g : Nat → Nat, (∀ k, k < sc → f 6 k = nI (g k)) ∧ (∀ i j, i ≤ j → j < sc → g i ≤ g j) ∧ ∀ k, k < sc → g k ≤ N := (by obtain ⟨w9, ⟨_, _, _, _, _, _, _, _, _, _, _, _, _, h6⟩, _, _⟩ := id hI; exact h6)
  obtain ⟨G, hG0⟩ : ∃ G, G = (f 6 s1).toNatClampNeg := ⟨_, rfl⟩
  have hGg : G = g s1 := by rw [hG0, q1 s1 (by omega)]; exact nI_clamp (by have := q3 s1 (by omega); omega)
  have hGN : G ≤ N := by rw [hGg]; exact q3 s1 (by omega)
  rw [← hG0] at hE
  obtain ⟨OUT, hQ, hO⟩ : ∃ z, (z = P_Names_close N sc L f s1) ∧ Oq z (P_Names_close N sc L f s1) := ⟨_, rfl, rfl⟩
  rw [← hQ] at hE
  clear hQ
  have J35 : ∀ (N35 : Nat) (ls : Array Slot) (H : Heap) (locs : List Loc) (f : gf) (i1 : Int32) (i2 : Int32), cmp γ (gNames γ a N s1 L f) Z H → va_S Z s.heap H locs → (i1 = nI G) → (i2.toInt < (N : Int)) → (∀ k, k < s1 → f 6 k = nI (g k)) → (Oq OUT (P_Names_close_35 N sc L  (N35 + 1) f i1 i2)) → (i2.toInt + 2147483648).toNat = N35 → lv_has ls 3 [(0, .ref a), (1, .int i1), (2, .int i2)] → W p l e (bs_rm 0 0 0 0) s m args below meth c H locs 0 0 Q (F0 m 35 ls []) := by
    intro N35
    induction N35 using Nat.strongRecOn with
    | ind N35 ih35 =>
      intro ls H locs f i1 i2 hI hS hq1 hq2 hq6 hO hm35 hl
      refine lv_iload_n hx hb dNames_close_35 rfl (lv_at hl 2 rfl) ?_
      refine lv_iload_n hx hb dNames_close_36 rfl (lv_at hl 1 rfl) ?_
      refine lv_icmp_lt (tgt := 67) hx hb dNames_close_37 (by decide) (fun c15 => ?_) (fun c15 => ?_)
      · refine lv_aload_n hx hb dNames_close_67 rfl (lv_at hl 0 rfl) ?_
        refine lv_iload_n hx hb dNames_close_68 rfl (lv_at hl 1 rfl) ?_
        obtain ⟨ws_4, ⟨b0_4, b1_4, b2_4, b3_4, b4_4, b5_4, b6_4, rfl, h1_4, h2_4, h3_4, h4_4, h5_4, h6_4⟩, hP, hD⟩ := id hI
        have hP : va_P γ.1 vwCl [(a, .inr (2, [.ref b0_4, .ref b1_4, .ref b2_4, .ref b3_4, .ref b4_4, .ref b5_4, .ref b6_4, .int (nI N), .int (nI s1)])), (b0_4, .inl (γ.2.1, L, .inl (f 0))), (b1_4, .inl (γ.2.1, L, .inl (f 1))), (b2_4, .inl (γ.2.1, L, .inl (f 2))), (b3_4, .inl (γ.2.1, L, .inl (f 3))), (b4_4, .inl (γ.2.1, L, .inl (f 4))), (b5_4, .inl (γ.2.1, 256, .inl (f 5))), (b6_4, .inl (γ.2.1, 32, .inl (f 6)))] _ := hP
        have hD : va_D Z [(a, .inr (2, [.ref b0_4, .ref b1_4, .ref b2_4, .ref b3_4, .ref b4_4, .ref b5_4, .ref b6_4, .int (nI N), .int (nI s1)])), (b0_4, .inl (γ.2.1, L, .inl (f 0))), (b1_4, .inl (γ.2.1, L, .inl (f 1))), (b2_4, .inl (γ.2.1, L, .inl (f 2))), (b3_4, .inl (γ.2.1, L, .inl (f 3))), (b4_4, .inl (γ.2.1, L, .inl (f 4))), (b5_4, .inl (γ.2.1, 256, .inl (f 5))), (b6_4, .inl (γ.2.1, 32, .inl (f 6)))] := hD
        rw [show i1 = nI (G) from hq1]
        refine va_put (D := γ.1) (ci := 2) (v := .int (nI (G))) (ty := .int) (C := R_Names) (T := T_Names) (N := 9) (Ts := bs_W0) hx hb hW in_Names t_Names t_Names_ok n_Names hown hC.1 hP hD hS 0 rfl rfl 7 (by decide) (hW _ qw_171adcdf9f) (fun _ h9 => h9) rfl (by decide +kernel) rfl rfl (Nat.le_of_ble_eq_true rfl) dNames_close_69 (fun H locs hP hD hS => ?_)
        have hP : va_P γ.1 vwCl [(a, .inr (2, [.ref b0_4, .ref b1_4, .ref b2_4, .ref b3_4, .ref b4_4, .ref b5_4, .ref b6_4, .int (nI (G)), .int (nI s1)])), (b0_4, .inl (γ.2.1, L, .inl (f 0))), (b1_4, .inl (γ.2.1, L, .inl (f 1))), (b2_4, .inl (γ.2.1, L, .inl (f 2))), (b3_4, .inl (γ.2.1, L, .inl (f 3))), (b4_4, .inl (γ.2.1, L, .inl (f 4))), (b5_4, .inl (γ.2.1, 256, .inl (f 5))), (b6_4, .inl (γ.2.1, 32, .inl (f 6)))] _ := hP
        have hD : va_D Z [(a, .inr (2, [.ref b0_4, .ref b1_4, .ref b2_4, .ref b3_4, .ref b4_4, .ref b5_4, .ref b6_4, .int (nI (G)), .int (nI s1)])), (b0_4, .inl (γ.2.1, L, .inl (f 0))), (b1_4, .inl (γ.2.1, L, .inl (f 1))), (b2_4, .inl (γ.2.1, L, .inl (f 2))), (b3_4, .inl (γ.2.1, L, .inl (f 3))), (b4_4, .inl (γ.2.1, L, .inl (f 4))), (b5_4, .inl (γ.2.1, 256, .inl (f 5))), (b6_4, .inl (γ.2.1, 32, .inl (f 6)))] := hD
        have hI : cmp γ (gNames γ a G s1 L f) Z _ := ⟨_, ⟨b0_4, b1_4, b2_4, b3_4, b4_4, b5_4, b6_4, rfl, (by omega), (by omega), (by omega), (by omega), (by omega), ⟨g, hq6, fun i j h h2 => q2 i j h (by omega), fun k hk => by rw [hGg]; exact q2 k s1 (by omega) (by omega)⟩⟩, hP, hD⟩
        exact hE _ _ 72 ls hS (by have hO2 : Oq OUT f := (by exact hO.tr (if_pos c15)); rw [hO2.eq]; exact hI) dNames_close_72
      · obtain ⟨hin9, hge2⟩ := rng_ok (L := L) hq1 hGN (by assumption) hq2 hb9.2.1 hb9.1
        refine lv_aload_n hx hb dNames_close_40 rfl (lv_at hl 0 rfl) ?_
        obtain ⟨ws_5, ⟨b0_5, b1_5, b2_5, b3_5, b4_5, b5_5, b6_5, rfl, h1_5, h2_5, h3_5, h4_5, h5_5, h6_5⟩, hP, hD⟩ := id hI
        have hP : va_P γ.1 vwCl [(a, .inr (2, [.ref b0_5, .ref b1_5, .ref b2_5, .ref b3_5, .ref b4_5, .ref b5_5, .ref b6_5, .int (nI N), .int (nI s1)])), (b0_5, .inl (γ.2.1, L, .inl (f 0))), (b1_5, .inl (γ.2.1, L, .inl (f 1))), (b2_5, .inl (γ.2.1, L, .inl (f 2))), (b3_5, .inl (γ.2.1, L, .inl (f 3))), (b4_5, .inl (γ.2.1, L, .inl (f 4))), (b5_5, .inl (γ.2.1, 256, .inl (f 5))), (b6_5, .inl (γ.2.1, 32, .inl (f 6)))] _ := hP
        have hD : va_D Z [(a, .inr (2, [.ref b0_5, .ref b1_5, .ref b2_5, .ref b3_5, .ref b4_5, .ref b5_5, .ref b6_5, .int (nI N), .int (nI s1)])), (b0_5, .inl (γ.2.1, L, .inl (f 0))), (b1_5, .inl (γ.2.1, L, .inl (f 1))), (b2_5, .inl (γ.2.1, L, .inl (f 2))), (b3_5, .inl (γ.2.1, L, .inl (f 3))), (b4_5, .inl (γ.2.1, L, .inl (f 4))), (b5_5, .inl (γ.2.1, 256, .inl (f 5))), (b6_5, .inl (γ.2.1, 32, .inl (f 6)))] := hD
        refine va_get (D := γ.1) (ci := 2) (v := .ref b5_5) (C := R_Names) (T := T_Names) (N := 9) (Ts := bs_W0) hx hb hW in_Names hown hC.1 hP 0 rfl rfl 5 (by decide) (hW _ qw_ae9666db7d) (fun _ h9 => h9) rfl dNames_close_41 ?_
        refine lv_aload_n hx hb dNames_close_44 rfl (lv_at hl 0 rfl) ?_
        refine va_get (D := γ.1) (ci := 2) (v := .ref b0_5) (C := R_Names) (T := T_Names) (N := 9) (Ts := bs_W0) hx hb hW in_Names hown hC.1 hP 0 rfl rfl 0 (by decide) (hW _ qw_a8d4a716ae) (fun _ h9 => h9) rfl dNames_close_45 ?_
        refine lv_iload_n hx hb dNames_close_48 rfl (lv_at hl 2 rfl) ?_
        refine va_iald hx hb hC.1 hP 1 0 rfl rfl hin9 dNames_close_49 ?_
        refine lv_topi (fun v16 ev16 => ?_)
        refine lv_sipush (v := 255) hx hb dNames_close_50 (by decide) ?_
        refine lv_iand hx hb dNames_close_53 ?_
        refine lv_topi (fun v17 ev17 => ?_)
        refine lv_aload_n hx hb dNames_close_54 rfl (lv_at hl 0 rfl) ?_
        refine va_get (D := γ.1) (ci := 2) (v := .ref b4_5) (C := R_Names) (T := T_Names) (N := 9) (Ts := bs_W0) hx hb hW in_Names hown hC.1 hP 0 rfl rfl 4 (by decide) (hW _ qw_ddfb92ec41) (fun _ h9 => h9) rfl dNames_close_55 ?_
        refine lv_iload_n hx hb dNames_close_58 rfl (lv_at hl 2 rfl) ?_
        refine va_iald hx hb hC.1 hP 5 0 rfl rfl hin9 dNames_close_59 ?_
        refine lv_topi (fun v18 ev18 => ?_)
        refine va_iast hx hb hC.1 hP hD hS 6 0 rfl rfl (by rw [ev17]; exact pk_andIn _ 8 (by decide) (by decide)) dNames_close_60 (fun H locs hP hD hS => ?_)
        obtain ⟨fc19, efc19⟩ : ∃ z : gf, z = Au f 5 v17.toNatClampNeg v18 := ⟨_, rfl⟩
        have hP : va_P γ.1 vwCl [(a, .inr (2, [.ref b0_5, .ref b1_5, .ref b2_5, .ref b3_5, .ref b4_5, .ref b5_5, .ref b6_5, .int (nI N), .int (nI s1)])), (b0_5, .inl (γ.2.1, L, .inl (fc19 0))), (b1_5, .inl (γ.2.1, L, .inl (fc19 1))), (b2_5, .inl (γ.2.1, L, .inl (fc19 2))), (b3_5, .inl (γ.2.1, L, .inl (fc19 3))), (b4_5, .inl (γ.2.1, L, .inl (fc19 4))), (b5_5, .inl (γ.2.1, 256, .inl (fc19 5))), (b6_5, .inl (γ.2.1, 32, .inl (fc19 6)))] _ := (by rw [efc19]; exact hP)
        have hD : va_D Z [(a, .inr (2, [.ref b0_5, .ref b1_5, .ref b2_5, .ref b3_5, .ref b4_5, .ref b5_5, .ref b6_5, .int (nI N), .int (nI s1)])), (b0_5, .inl (γ.2.1, L, .inl (fc19 0))), (b1_5, .inl (γ.2.1, L, .inl (fc19 1))), (b2_5, .inl (γ.2.1, L, .inl (fc19 2))), (b3_5, .inl (γ.2.1, L, .inl (fc19 3))), (b4_5, .inl (γ.2.1, L, .inl (fc19 4))), (b5_5, .inl (γ.2.1, 256, .inl (fc19 5))), (b6_5, .inl (γ.2.1, 32, .inl (fc19 6)))] := (by rw [efc19]; exact hD)
        obtain ⟨v20, ev20⟩ : ∃ y : Int32, y = i2 + (-1) := ⟨_, rfl⟩
        refine lv_iinc (v := v20) (lv' := [(2, .int v20), (0, .ref a), (1, .int i1)]) hx hb dNames_close_61 hl (k := 2) rfl (by rw [ev20]; rfl) (by decide) rfl (fun ls hl => ?_)
        refine lv_goto (tgt := 35) hx hb dNames_close_64 (by decide) ?_
        have hI : cmp γ (gNames γ a N s1 L fc19) Z _ := ⟨_, ⟨b0_5, b1_5, b2_5, b3_5, b4_5, b5_5, b6_5, rfl, (by omega), (by omega), (by omega), (by omega), (by omega), (by refine ⟨g, ?_, fun i j h h2 => q2 i j h (by omega), fun k hk => q3 k (by omega)⟩; first | exact fun k hk => q1 k (by omega) | (subst ev20 efc19 ev18 ev17 ev16; exact hq6))⟩, hP, hD⟩
        exact ih35 _ (by have q1 : -2147483648 < i2.toInt := (by first | assumption | omega); have q2 := mu_dn q1; rw [← ev20] at q2; omega) ls _ _ fc19 i1 v20 hI hS hq1 (dn_lt hge2 ev20 hq2) (by subst ev20 efc19 ev18 ev17 ev16; exact hq6) (by have hN : N35 = (v20.toInt + 2147483648).toNat + 1 := (by have q1 : -2147483648 < i2.toInt := (by first | assumption | omega); have q2 := mu_dn q1; rw [← ev20] at q2; omega); rw [← hN]; clear hN; subst ev20 efc19 ev18 ev17 ev16; exact hO.tr (if_neg c15)) rfl (lv_sub hl [1, 2, 0] rfl)
  refine lv_aload_n hx hb dNames_close_0 rfl (lv_at hl 0 rfl) ?_
  obtain ⟨ws_6, ⟨b0_6, b1_6, b2_6, b3_6, b4_6, b5_6, b6_6, rfl, h1_6, h2_6, h3_6, h4_6, h5_6, h6_6⟩, hP, hD⟩ := id hI
  have hP : va_P γ.1 vwCl [(a, .inr (2, [.ref b0_6, .ref b1_6, .ref b2_6, .ref b3_6, .ref b4_6, .ref b5_6, .ref b6_6, .int (nI N), .int (nI sc)])), (b0_6, .inl (γ.2.1, L, .inl (f 0))), (b1_6, .inl (γ.2.1, L, .inl (f 1))), (b2_6, .inl (γ.2.1, L, .inl (f 2))), (b3_6, .inl (γ.2.1, L, .inl (f 3))), (b4_6, .inl (γ.2.1, L, .inl (f 4))), (b5_6, .inl (γ.2.1, 256, .inl (f 5))), (b6_6, .inl (γ.2.1, 32, .inl (f 6)))] _ := hP
  have hD : va_D Z [(a, .inr (2, [.ref b0_6, .ref b1_6, .ref b2_6, .ref b3_6, .ref b4_6, .ref b5_6, .ref b6_6, .int (nI N), .int (nI sc)])), (b0_6, .inl (γ.2.1, L, .inl (f 0))), (b1_6, .inl (γ.2.1, L, .inl (f 1))), (b2_6, .inl (γ.2.1, L, .inl (f 2))), (b3_6, .inl (γ.2.1, L, .inl (f 3))), (b4_6, .inl (γ.2.1, L, .inl (f 4))), (b5_6, .inl (γ.2.1, 256, .inl (f 5))), (b6_6, .inl (γ.2.1, 32, .inl (f 6)))] := hD
  refine va_get (D := γ.1) (ci := 2) (v := .int (nI sc)) (C := R_Names) (T := T_Names) (N := 9) (Ts := bs_W0) hx hb hW in_Names hown hC.1 hP 0 rfl rfl 8 (by decide) (hW _ qw_40882965f2) (fun _ h9 => h9) rfl dNames_close_1 ?_
  refine lv_topi (fun v21 ev21 => ?_)
  refine lv_iconst (v := 1) hx hb dNames_close_4 (by decide) ?_
  refine lv_icmp_le (tgt := 72) hx hb dNames_close_5 (by decide) (fun c22 => ?_) (fun c22 => ?_)
  · exact absurd c22 (by rw [ev21, hs]; exact nI_ge (a := 1) (b := s1 + 1) (by omega) (by omega))
  · refine lv_aload_n hx hb dNames_close_8 rfl (lv_at hl 0 rfl) ?_
    refine lv_dup hx hb dNames_close_9 rfl ?_
    refine va_get (D := γ.1) (ci := 2) (v := .int (nI sc)) (C := R_Names) (T := T_Names) (N := 9) (Ts := bs_W0) hx hb hW in_Names hown hC.1 hP 0 rfl rfl 8 (by decide) (hW _ qw_40882965f2) (fun _ h9 => h9) rfl dNames_close_10 ?_
    refine lv_topi (fun v23 ev23 => ?_)
    refine lv_iconst (v := 1) hx hb dNames_close_13 (by decide) ?_
    refine lv_isub hx hb dNames_close_14 ?_
    refine lv_topi (fun v24 ev24 => ?_)
    obtain rfl : v24 = nI (s1) := (by rw [ev24, ev23, hs]; exact nI_pred s1)
    refine va_put (D := γ.1) (ci := 2) (v := .int (nI (s1))) (ty := .int) (C := R_Names) (T := T_Names) (N := 9) (Ts := bs_W0) hx hb hW in_Names t_Names t_Names_ok n_Names hown hC.1 hP hD hS 0 rfl rfl 8 (by decide) (hW _ qw_40882965f2) (fun _ h9 => h9) rfl (by decide +kernel) rfl rfl (Nat.le_of_ble_eq_true rfl) dNames_close_15 (fun H locs hP hD hS => ?_)
    have hP : va_P γ.1 vwCl [(a, .inr (2, [.ref b0_6, .ref b1_6, .ref b2_6, .ref b3_6, .ref b4_6, .ref b5_6, .ref b6_6, .int (nI N), .int (nI (s1))])), (b0_6, .inl (γ.2.1, L, .inl (f 0))), (b1_6, .inl (γ.2.1, L, .inl (f 1))), (b2_6, .inl (γ.2.1, L, .inl (f 2))), (b3_6, .inl (γ.2.1, L, .inl (f 3))), (b4_6, .inl (γ.2.1, L, .inl (f 4))), (b5_6, .inl (γ.2.1, 256, .inl (f 5))), (b6_6, .inl (γ.2.1, 32, .inl (f 6)))] _ := hP
    have hD : va_D Z [(a, .inr (2, [.ref b0_6, .ref b1_6, .ref b2_6, .ref b3_6, .ref b4_6, .ref b5_6, .ref b6_6, .int (nI N), .int (nI (s1))])), (b0_6, .inl (γ.2.1, L, .inl (f 0))), (b1_6, .inl (γ.2.1, L, .inl (f 1))), (b2_6, .inl (γ.2.1, L, .inl (f 2))), (b3_6, .inl (γ.2.1, L, .inl (f 3))), (b4_6, .inl (γ.2.1, L, .inl (f 4))), (b5_6, .inl (γ.2.1, 256, .inl (f 5))), (b6_6, .inl (γ.2.1, 32, .inl (f 6)))] := hD
    refine lv_aload_n hx hb dNames_close_18 rfl (lv_at hl 0 rfl) ?_
    refine va_get (D := γ.1) (ci := 2) (v := .ref b6_6) (C := R_Names) (T := T_Names) (N := 9) (Ts := bs_W0) hx hb hW in_Names hown hC.1 hP 0 rfl rfl 6 (by decide) (hW _ qw_c2f4fc63da) (fun _ h9 => h9) rfl dNames_close_19 ?_
    refine lv_aload_n hx hb dNames_close_22 rfl (lv_at hl 0 rfl) ?_
    refine va_get (D := γ.1) (ci := 2) (v := .int (nI (s1))) (C := R_Names) (T := T_Names) (N := 9) (Ts := bs_W0) hx hb hW in_Names hown hC.1 hP 0 rfl rfl 8 (by decide) (hW _ qw_40882965f2) (fun _ h9 => h9) rfl dNames_close_23 ?_
    refine lv_topi (fun v25 ev25 => ?_)
    refine va_iald hx hb hC.1 hP 7 0 rfl rfl (by rw [ev25]; exact vp_in_nI (by omega) (by omega)) dNames_close_26 ?_
    refine lv_topi (fun v26 ev26 => ?_)
    refine lv_istore_n (lv' := [(1, .int v26), (0, .ref a)]) hx hb dNames_close_27 rfl hl (by decide) rfl (fun ls hl => ?_)
    refine lv_aload_n hx hb dNames_close_28 rfl (lv_at hl 1 rfl) ?_
    refine va_get (D := γ.1) (ci := 2) (v := .int (nI N)) (C := R_Names) (T := T_Names) (N := 9) (Ts := bs_W0) hx hb hW in_Names hown hC.1 hP 0 rfl rfl 7 (by decide) (hW _ qw_171adcdf9f) (fun _ h9 => h9) rfl dNames_close_29 ?_
    refine lv_topi (fun v27 ev27 => ?_)
    refine lv_iconst (v := 1) hx hb dNames_close_32 (by decide) ?_
    refine lv_isub hx hb dNames_close_33 ?_
    refine lv_topi (fun v28 ev28 => ?_)
    refine lv_istore_n (lv' := [(2, .int v28), (1, .int v26), (0, .ref a)]) hx hb dNames_close_34 rfl hl (by decide) rfl (fun ls hl => ?_)
    have hI : cmp γ (gNames γ a N s1 L f) Z _ := ⟨_, ⟨b0_6, b1_6, b2_6, b3_6, b4_6, b5_6, b6_6, rfl, (by omega), (by omega), (by omega), (by omega), (by omega), (by refine ⟨g, ?_, fun i j h h2 => q2 i j h (by omega), fun k hk => q3 k (by omega)⟩; first | exact fun k hk => q1 k (by omega) | (subst ev28 ev27 ev26 ev25 ev23 ev21; exact hq6))⟩, hP, hD⟩
    exact J35 _ ls _ _ f v26 v28 hI hS (by subst ev28 ev27 ev26 ev25 ev23 ev21; show f 6 (nI s1).toNatClampNeg = nI G; rw [nI_clamp (by omega), q1 s1 (by omega), ← hGg]) (by rw [ev28, ev27]; exact pr_lt (by omega)) (fun k hk => q1 k (by omega)) (by subst ev28 ev27 ev26 ev25 ev23 ev21; exact hO.tr (if_neg c22)) rfl (lv_sub hl [2, 1, 0] rfl)
theorem f2_Names_close (l : Launch) (γ : gE) (A : Nat → Prop) (κ : Nat → Nat) (φ : gF) (ψ : gG) (s1 : Nat) (hs : (κ 3) = s1 + 1) (hs1 : 1 ≤ s1) : MU l yNames_close bNames_close 3 (none) 0 0 0 0 [.ref (γ.2.2.2 2)] γ A (INVF γ A κ φ ψ) (mQv (fun H => INVF γ A (ku (ku κ 2 ((φ 3 6 s1).toNatClampNeg)) 3 (s1)) (up φ 3 (P_Names_close (κ 2) (κ 3) (κ 12) (φ 3) s1)) ψ H) A) :=
  muk_vf (κ := κ) (κ' := (ku (ku κ 2 ((φ 3 6 s1).toNatClampNeg)) 3 (s1))) 3 (by decide) (by decide) (fun j h1 h2 h3 f g => by rcases (show j = 1 ∨ j = 2 ∨ j = 3 ∨ j = 4 ∨ j = 5 ∨ j = 6 ∨ j = 7 ∨ j = 8 ∨ j = 9 ∨ j = 10 by omega) with h | h | h | h | h | h | h | h | h | h <;> subst h <;> first | rfl | exact absurd rfl h1) (fun Z => fc_Names_close l γ Z (γ.2.2.2 2) (κ 2) (κ 3) (κ 12) (φ 3) s1 hs hs1)
def P_Rows_makeRoom (M : Nat) (g : gg) (N : Nat) : gg := P_wrL M N g
theorem f5_Rows_makeRoom (l : Launch) (γ : gE) (A : Nat → Prop) (κ : Nat → Nat) (φ : gF) (ψ : gG) (N : Nat) (hN : N ≤ 4096) : MU l yRows_makeRoom bRows_makeRoom 2 none 2 82 (wc (κ 8) N) (4 * wm (κ 8) N) [.ref (γ.2.2.2 5), .int (nI N)] γ A (INVF γ A κ φ ψ) (mQv (fun H => INVF γ A (ku κ 8 (wl (κ 8) N)) φ (up ψ 6 (P_Rows_makeRoom (κ 8) (ψ 6) N)) H) A) :=
  muk_vg (κ := κ) (κ' := (ku κ 8 (wl (κ 8) N))) 6 (by decide) (by decide) (fun j h1 h2 h3 f g => by rcases (show j = 1 ∨ j = 2 ∨ j = 3 ∨ j = 4 ∨ j = 5 ∨ j = 6 ∨ j = 7 ∨ j = 8 ∨ j = 9 ∨ j = 10 by omega) with h | h | h | h | h | h | h | h | h | h <;> subst h <;> first | rfl | exact absurd rfl h1) (fun Z => fc_Rows_makeRoom l γ Z (γ.2.2.2 5) (κ 8) (ψ 6) N hN)
theorem f7_Rows_makeRoom (l : Launch) (γ : gE) (A : Nat → Prop) (κ : Nat → Nat) (φ : gF) (ψ : gG) (N : Nat) (hN : N ≤ 4096) : MU l yRows_makeRoom bRows_makeRoom 2 none 2 82 (wc (κ 9) N) (4 * wm (κ 9) N) [.ref (γ.2.2.2 7), .int (nI N)] γ A (INVF γ A κ φ ψ) (mQv (fun H => INVF γ A (ku κ 9 (wl (κ 9) N)) φ (up ψ 8 (P_Rows_makeRoom (κ 9) (ψ 8) N)) H) A) :=
  muk_vg (κ := κ) (κ' := (ku κ 9 (wl (κ 9) N))) 8 (by decide) (by decide) (fun j h1 h2 h3 f g => by rcases (show j = 1 ∨ j = 2 ∨ j = 3 ∨ j = 4 ∨ j = 5 ∨ j = 6 ∨ j = 7 ∨ j = 8 ∨ j = 9 ∨ j = 10 by omega) with h | h | h | h | h | h | h | h | h | h <;> subst h <;> first | rfl | exact absurd rfl h1) (fun Z => fc_Rows_makeRoom l γ Z (γ.2.2.2 7) (κ 9) (ψ 8) N hN)
theorem f10_Rows_makeRoom (l : Launch) (γ : gE) (A : Nat → Prop) (κ : Nat → Nat) (φ : gF) (ψ : gG) (N : Nat) (hN : N ≤ 4096) : MU l yRows_makeRoom bRows_makeRoom 2 none 2 82 (wc (κ 10) N) (4 * wm (κ 10) N) [.ref (γ.2.2.2 10), .int (nI N)] γ A (INVF γ A κ φ ψ) (mQv (fun H => INVF γ A (ku κ 10 (wl (κ 10) N)) φ (up ψ 10 (P_Rows_makeRoom (κ 10) (ψ 10) N)) H) A) :=
  muk_vg (κ := κ) (κ' := (ku κ 10 (wl (κ 10) N))) 10 (by decide) (by decide) (fun j h1 h2 h3 f g => by rcases (show j = 1 ∨ j = 2 ∨ j = 3 ∨ j = 4 ∨ j = 5 ∨ j = 6 ∨ j = 7 ∨ j = 8 ∨ j = 9 ∨ j = 10 by omega) with h | h | h | h | h | h | h | h | h | h <;> subst h <;> first | rfl | exact absurd rfl h1) (fun Z => fc_Rows_makeRoom l γ Z (γ.2.2.2 10) (κ 10) (ψ 10) N hN)
def P_Looks_makeRoom6 (κ : Nat → Nat) (φ : gF) (ψ : gG) (N : Nat) : gF × gG := ((up φ 7 (up (up (up (up (up (φ 7) 0 (P_wr (κ 6) (N) ((φ 7) 0))) 1 (P_wr (κ 6) (N) ((up (φ 7) 0 (P_wr (κ 6) (N) ((φ 7) 0))) 1))) 2 (P_wr (κ 6) (N) ((up (up (φ 7) 0 (P_wr (κ 6) (N) ((φ 7) 0))) 1 (P_wr (κ 6) (N) ((up (φ 7) 0 (P_wr (κ 6) (N) ((φ 7) 0))) 1))) 2))) 3 (P_wr (κ 6) (N) ((up (up (up (φ 7) 0 (P_wr (κ 6) (N) ((φ 7) 0))) 1 (P_wr (κ 6) (N) ((up (φ 7) 0 (P_wr (κ 6) (N) ((φ 7) 0))) 1))) 2 (P_wr (κ 6) (N) ((up (up (φ 7) 0 (P_wr (κ 6) (N) ((φ 7) 0))) 1 (P_wr (κ 6) (N) ((up (φ 7) 0 (P_wr (κ 6) (N) ((φ 7) 0))) 1))) 2))) 3))) 4 (P_wr (κ 6) (N) ((up (up (up (up (φ 7) 0 (P_wr (κ 6) (N) ((φ 7) 0))) 1 (P_wr (κ 6) (N) ((up (φ 7) 0 (P_wr (κ 6) (N) ((φ 7) 0))) 1))) 2 (P_wr (κ 6) (N) ((up (up (φ 7) 0 (P_wr (κ 6) (N) ((φ 7) 0))) 1 (P_wr (κ 6) (N) ((up (φ 7) 0 (P_wr (κ 6) (N) ((φ 7) 0))) 1))) 2))) 3 (P_wr (κ 6) (N) ((up (up (up (φ 7) 0 (P_wr (κ 6) (N) ((φ 7) 0))) 1 (P_wr (κ 6) (N) ((up (φ 7) 0 (P_wr (κ 6) (N) ((φ 7) 0))) 1))) 2 (P_wr (κ 6) (N) ((up (up (φ 7) 0 (P_wr (κ 6) (N) ((φ 7) 0))) 1 (P_wr (κ 6) (N) ((up (φ 7) 0 (P_wr (κ 6) (N) ((φ 7) 0))) 1))) 2))) 3))) 4)))), (up ψ 8 (P_Rows_makeRoom ((κ 9)) (ψ 8) N)))
set_option maxHeartbeats 4000000 in
set_option maxRecDepth 100000 in
theorem f6_Looks_makeRoom (l : Launch) (γ : gE) (A : Nat → Prop) (κ : Nat → Nat) (φ : gF) (ψ : gG) (N : Nat) (hN : N ≤ 4096): MU l yLooks_makeRoom bLooks_makeRoom 2 (none) 3 103 (0 + wc (κ 6) (N) + wc (κ 6) (N) + wc (κ 6) (N) + wc (κ 6) (N) + wc (κ 6) (N) + wc (κ 9) N) (0 + wm (κ 6) (N) + wm (κ 6) (N) + wm (κ 6) (N) + wm (κ 6) (N) + wm (κ 6) (N) + 4 * wm (κ 9) N) [.ref (γ.2.2.2 6), .int (nI N)] γ A (INVF γ A κ φ ψ) (mQv (fun H => INVF γ A (ku (ku κ 6 (wl (κ 6) (N))) 9 (wl (κ 9) N)) (P_Looks_makeRoom6 κ φ ψ N).1 (P_Looks_makeRoom6 κ φ ψ N).2 H) A) := by
  refine mu_openV (by decide) (Nat.le_of_ble_eq_true rfl) ?_
  intro p e s m args below meth c ls Q S hnm hC hA hG hE hl
  obtain ⟨hx, hb, hml, hown, hW⟩ := id S
  have hI := inv_of hG
  have hS : va_S A s.heap s.heap [] := va_S.rf
  have hl : lv_has ls 2 [(0, .ref (γ.2.2.2 6)), (1, .int (nI N))] := hl
  have hb9 : κ 6 ≤ 8192 ∧ 64 ≤ κ 6 := (by obtain ⟨_, w9, ⟨_, _, _, _, _, _, _, _, _, _, _, h1, h2⟩, _, _⟩ := inv_c hI 7 (by decide) (by decide); exact ⟨h1, h2⟩)
  have hwl := wl_ok (n := κ 6) (N := N) (by omega) (by omega)
  obtain ⟨OUT, hQ, hO⟩ : ∃ z, (z = P_Looks_makeRoom6 κ φ ψ N) ∧ Oq z (P_Looks_makeRoom6 κ φ ψ N) := ⟨_, rfl, rfl⟩
  rw [← hQ] at hE
  clear hQ
  refine lv_aload_n hx hb dLooks_makeRoom_0 rfl (lv_at hl 0 rfl) ?_
  refine lv_aload_n hx hb dLooks_makeRoom_1 rfl (lv_at hl 0 rfl) ?_
  obtain ⟨Z_2, ⟨ws_2, ⟨b0_2, b1_2, b2_2, b3_2, b4_2, rfl, h1_2, h2_2⟩, hP, hD⟩, hZn, hZA, hback⟩ := ing_lift hG (fun q h => hA q (Nat.le_trans hS.1 h)) 7 (by decide) (by decide)
  have hP : va_P γ.1 vwCl [(γ.2.2.2 6, .inr (6, [.ref b0_2, .ref b1_2, .ref b2_2, .ref b3_2, .ref b4_2, .ref (γ.2.2.2 7)])), (b0_2, .inl (γ.2.1, (κ 6), .inl ((φ 7) 0))), (b1_2, .inl (γ.2.1, (κ 6), .inl ((φ 7) 1))), (b2_2, .inl (γ.2.1, (κ 6), .inl ((φ 7) 2))), (b3_2, .inl (γ.2.1, (κ 6), .inl ((φ 7) 3))), (b4_2, .inl (γ.2.1, (κ 6), .inl ((φ 7) 4)))] _ := hP
  have hD : va_D Z_2 [(γ.2.2.2 6, .inr (6, [.ref b0_2, .ref b1_2, .ref b2_2, .ref b3_2, .ref b4_2, .ref (γ.2.2.2 7)])), (b0_2, .inl (γ.2.1, (κ 6), .inl ((φ 7) 0))), (b1_2, .inl (γ.2.1, (κ 6), .inl ((φ 7) 1))), (b2_2, .inl (γ.2.1, (κ 6), .inl ((φ 7) 2))), (b3_2, .inl (γ.2.1, (κ 6), .inl ((φ 7) 3))), (b4_2, .inl (γ.2.1, (κ 6), .inl ((φ 7) 4)))] := hD
  have hfz := fz.rf Z_2 (H := _) hP
  refine va_get (D := γ.1) (ci := 6) (v := .ref b0_2) (C := R_Looks) (T := T_Looks) (N := 6) (Ts := bs_W0) hx hb hW in_Looks hown hC.1 hP 0 rfl rfl 0 (by decide) (hW _ qw_ac7df03aa7) (fun _ h9 => h9) rfl dLooks_makeRoom_2 ?_
  refine lv_iload_n hx hb dLooks_makeRoom_5 rfl (lv_at hl 1 rfl) ?_
  refine mu_Tr (rest := [.ref (γ.2.2.2 6)]) S hC (fun q h => hZn q (Nat.le_trans hfz.1 h)) hZA hS (cx_withRoom l γ Z_2 b0_2 (κ 6) (N) ((φ 7) 0) _ (by omega) (by omega)) meTypeBook_withRoom (hC.2 _ qn_2c49eba5a7 rfl) ⟨Nat.le_of_ble_eq_true rfl, Nat.le_of_ble_eq_true rfl⟩ ⟨rfl, hD.2 1 _ rfl, hP 1 _ rfl⟩ rfl hl.1 rfl (Nat.le_of_ble_eq_true rfl) dLooks_makeRoom_6 ⟨(by show _ ≤ 0 + wc (κ 6) (N) + wc (κ 6) (N) + wc (κ 6) (N) + wc (κ 6) (N) + wc (κ 6) (N) + wc (κ 9) N; omega), (by show _ ≤ 0 + wm (κ 6) (N) + wm (κ 6) (N) + wm (κ 6) (N) + wm (κ 6) (N) + wm (κ 6) (N) + 4 * wm (κ 9) N; omega)⟩ (fun r14 Hr14 locs hPO hS _ _ => ?_)
  obtain ⟨g1r14, g2r14, g3r14, g4r14, g5r14⟩ := hPO
  have hfz := hfz.step g3r14 (fun q h _ => g4r14 q h)
  obtain ⟨hP, hD⟩ := wr_join (i := 1) hP hD rfl g4r14 g5r14 g1r14 g2r14
  obtain ⟨fc15, efc15⟩ : ∃ z : gf, z = up (φ 7) 0 (P_wr (κ 6) (N) ((φ 7) 0)) := ⟨_, rfl⟩
  have hP : va_P γ.1 vwCl [(γ.2.2.2 6, .inr (6, [.ref b0_2, .ref b1_2, .ref b2_2, .ref b3_2, .ref b4_2, .ref (γ.2.2.2 7)])), (r14, .inl (γ.2.1, wl (κ 6) (N), .inl (fc15 0))), (b1_2, .inl (γ.2.1, (κ 6), .inl (fc15 1))), (b2_2, .inl (γ.2.1, (κ 6), .inl (fc15 2))), (b3_2, .inl (γ.2.1, (κ 6), .inl (fc15 3))), (b4_2, .inl (γ.2.1, (κ 6), .inl (fc15 4)))] _ := (by rw [efc15]; exact hP)
  have hD : va_D Z_2 [(γ.2.2.2 6, .inr (6, [.ref b0_2, .ref b1_2, .ref b2_2, .ref b3_2, .ref b4_2, .ref (γ.2.2.2 7)])), (r14, .inl (γ.2.1, wl (κ 6) (N), .inl (fc15 0))), (b1_2, .inl (γ.2.1, (κ 6), .inl (fc15 1))), (b2_2, .inl (γ.2.1, (κ 6), .inl (fc15 2))), (b3_2, .inl (γ.2.1, (κ 6), .inl (fc15 3))), (b4_2, .inl (γ.2.1, (κ 6), .inl (fc15 4)))] := (by rw [efc15]; exact hD)
  refine st_put (D := γ.1) (ci := 6) (v := .ref r14) (ty := .array .int) (C := R_Looks) (T := T_Looks) (N := 6) (Ts := bs_W0) hx hb hW in_Looks t_Looks t_Looks_ok n_Looks hown hC.1 hP hD hZA hS 0 rfl rfl 0 (by decide) (hW _ qw_ac7df03aa7) (fun _ h9 => h9) rfl (by decide +kernel) rfl rfl (Nat.le_of_ble_eq_true rfl) dLooks_makeRoom_9 (fun H locs hP1 hD1 hS hz ho => ?_)
  have hfz := hfz.put hz ho (hD.2 0 _ rfl)
  have hP := hP1
  have hD := hD1
  have hP : va_P γ.1 vwCl [(γ.2.2.2 6, .inr (6, [.ref r14, .ref b1_2, .ref b2_2, .ref b3_2, .ref b4_2, .ref (γ.2.2.2 7)])), (r14, .inl (γ.2.1, wl (κ 6) (N), .inl (fc15 0))), (b1_2, .inl (γ.2.1, (κ 6), .inl (fc15 1))), (b2_2, .inl (γ.2.1, (κ 6), .inl (fc15 2))), (b3_2, .inl (γ.2.1, (κ 6), .inl (fc15 3))), (b4_2, .inl (γ.2.1, (κ 6), .inl (fc15 4)))] _ := hP
  have hD : va_D Z_2 [(γ.2.2.2 6, .inr (6, [.ref r14, .ref b1_2, .ref b2_2, .ref b3_2, .ref b4_2, .ref (γ.2.2.2 7)])), (r14, .inl (γ.2.1, wl (κ 6) (N), .inl (fc15 0))), (b1_2, .inl (γ.2.1, (κ 6), .inl (fc15 1))), (b2_2, .inl (γ.2.1, (κ 6), .inl (fc15 2))), (b3_2, .inl (γ.2.1, (κ 6), .inl (fc15 3))), (b4_2, .inl (γ.2.1, (κ 6), .inl (fc15 4)))] := hD
  refine lv_aload_n hx hb dLooks_makeRoom_12 rfl (lv_at hl 0 rfl) ?_
  refine lv_aload_n hx hb dLooks_makeRoom_13 rfl (lv_at hl 0 rfl) ?_
  refine va_get (D := γ.1) (ci := 6) (v := .ref b1_2) (C := R_Looks) (T := T_Looks) (N := 6) (Ts := bs_W0) hx hb hW in_Looks hown hC.1 hP 0 rfl rfl 1 (by decide) (hW _ qw_7dd30c70bd) (fun _ h9 => h9) rfl dLooks_makeRoom_14 ?_
  refine lv_iload_n hx hb dLooks_makeRoom_17 rfl (lv_at hl 1 rfl) ?_
  refine mu_Tr (rest := [.ref (γ.2.2.2 6)]) S hC (fun q h => hZn q (Nat.le_trans hfz.1 h)) hZA hS (cx_withRoom l γ Z_2 b1_2 (κ 6) (N) (fc15 1) _ (by omega) (by omega)) meTypeBook_withRoom (hC.2 _ qn_2c49eba5a7 rfl) ⟨Nat.le_of_ble_eq_true rfl, Nat.le_of_ble_eq_true rfl⟩ ⟨rfl, hD.2 2 _ rfl, hP 2 _ rfl⟩ rfl hl.1 rfl (Nat.le_of_ble_eq_true rfl) dLooks_makeRoom_18 ⟨(by show _ ≤ 0 + wc (κ 6) (N) + wc (κ 6) (N) + wc (κ 6) (N) + wc (κ 6) (N) + wc (κ 6) (N) + wc (κ 9) N; omega), (by show _ ≤ 0 + wm (κ 6) (N) + wm (κ 6) (N) + wm (κ 6) (N) + wm (κ 6) (N) + wm (κ 6) (N) + 4 * wm (κ 9) N; omega)⟩ (fun r16 Hr16 locs hPO hS _ _ => ?_)
  obtain ⟨g1r16, g2r16, g3r16, g4r16, g5r16⟩ := hPO
  have hfz := hfz.step g3r16 (fun q h _ => g4r16 q h)
  obtain ⟨hP, hD⟩ := wr_join (i := 2) hP hD rfl g4r16 g5r16 g1r16 g2r16
  obtain ⟨fc17, efc17⟩ : ∃ z : gf, z = up fc15 1 (P_wr (κ 6) (N) (fc15 1)) := ⟨_, rfl⟩
  have hP : va_P γ.1 vwCl [(γ.2.2.2 6, .inr (6, [.ref r14, .ref b1_2, .ref b2_2, .ref b3_2, .ref b4_2, .ref (γ.2.2.2 7)])), (r14, .inl (γ.2.1, wl (κ 6) (N), .inl (fc17 0))), (r16, .inl (γ.2.1, wl (κ 6) (N), .inl (fc17 1))), (b2_2, .inl (γ.2.1, (κ 6), .inl (fc17 2))), (b3_2, .inl (γ.2.1, (κ 6), .inl (fc17 3))), (b4_2, .inl (γ.2.1, (κ 6), .inl (fc17 4)))] _ := (by rw [efc17]; exact hP)
  have hD : va_D Z_2 [(γ.2.2.2 6, .inr (6, [.ref r14, .ref b1_2, .ref b2_2, .ref b3_2, .ref b4_2, .ref (γ.2.2.2 7)])), (r14, .inl (γ.2.1, wl (κ 6) (N), .inl (fc17 0))), (r16, .inl (γ.2.1, wl (κ 6) (N), .inl (fc17 1))), (b2_2, .inl (γ.2.1, (κ 6), .inl (fc17 2))), (b3_2, .inl (γ.2.1, (κ 6), .inl (fc17 3))), (b4_2, .inl (γ.2.1, (κ 6), .inl (fc17 4)))] := (by rw [efc17]; exact hD)
  refine st_put (D := γ.1) (ci := 6) (v := .ref r16) (ty := .array .int) (C := R_Looks) (T := T_Looks) (N := 6) (Ts := bs_W0) hx hb hW in_Looks t_Looks t_Looks_ok n_Looks hown hC.1 hP hD hZA hS 0 rfl rfl 1 (by decide) (hW _ qw_7dd30c70bd) (fun _ h9 => h9) rfl (by decide +kernel) rfl rfl (Nat.le_of_ble_eq_true rfl) dLooks_makeRoom_21 (fun H locs hP1 hD1 hS hz ho => ?_)
  have hfz := hfz.put hz ho (hD.2 0 _ rfl)
  have hP := hP1
  have hD := hD1
  have hP : va_P γ.1 vwCl [(γ.2.2.2 6, .inr (6, [.ref r14, .ref r16, .ref b2_2, .ref b3_2, .ref b4_2, .ref (γ.2.2.2 7)])), (r14, .inl (γ.2.1, wl (κ 6) (N), .inl (fc17 0))), (r16, .inl (γ.2.1, wl (κ 6) (N), .inl (fc17 1))), (b2_2, .inl (γ.2.1, (κ 6), .inl (fc17 2))), (b3_2, .inl (γ.2.1, (κ 6), .inl (fc17 3))), (b4_2, .inl (γ.2.1, (κ 6), .inl (fc17 4)))] _ := hP
  have hD : va_D Z_2 [(γ.2.2.2 6, .inr (6, [.ref r14, .ref r16, .ref b2_2, .ref b3_2, .ref b4_2, .ref (γ.2.2.2 7)])), (r14, .inl (γ.2.1, wl (κ 6) (N), .inl (fc17 0))), (r16, .inl (γ.2.1, wl (κ 6) (N), .inl (fc17 1))), (b2_2, .inl (γ.2.1, (κ 6), .inl (fc17 2))), (b3_2, .inl (γ.2.1, (κ 6), .inl (fc17 3))), (b4_2, .inl (γ.2.1, (κ 6), .inl (fc17 4)))] := hD
  refine lv_aload_n hx hb dLooks_makeRoom_24 rfl (lv_at hl 0 rfl) ?_
  refine lv_aload_n hx hb dLooks_makeRoom_25 rfl (lv_at hl 0 rfl) ?_
  refine va_get (D := γ.1) (ci := 6) (v := .ref b2_2) (C := R_Looks) (T := T_Looks) (N := 6) (Ts := bs_W0) hx hb hW in_Looks hown hC.1 hP 0 rfl rfl 2 (by decide) (hW _ qw_427e012605) (fun _ h9 => h9) rfl dLooks_makeRoom_26 ?_
  refine lv_iload_n hx hb dLooks_makeRoom_29 rfl (lv_at hl 1 rfl) ?_
  refine mu_Tr (rest := [.ref (γ.2.2.2 6)]) S hC (fun q h => hZn q (Nat.le_trans hfz.1 h)) hZA hS (cx_withRoom l γ Z_2 b2_2 (κ 6) (N) (fc17 2) _ (by omega) (by omega)) meTypeBook_withRoom (hC.2 _ qn_2c49eba5a7 rfl) ⟨Nat.le_of_ble_eq_true rfl, Nat.le_of_ble_eq_true rfl⟩ ⟨rfl, hD.2 3 _ rfl, hP 3 _ rfl⟩ rfl hl.1 rfl (Nat.le_of_ble_eq_true rfl) dLooks_makeRoom_30 ⟨(by show _ ≤ 0 + wc (κ 6) (N) + wc (κ 6) (N) + wc (κ 6) (N) + wc (κ 6) (N) + wc (κ 6) (N) + wc (κ 9) N; omega), (by show _ ≤ 0 + wm (κ 6) (N) + wm (κ 6) (N) + wm (κ 6) (N) + wm (κ 6) (N) + wm (κ 6) (N) + 4 * wm (κ 9) N; omega)⟩ (fun r18 Hr18 locs hPO hS _ _ => ?_)
  obtain ⟨g1r18, g2r18, g3r18, g4r18, g5r18⟩ := hPO
  have hfz := hfz.step g3r18 (fun q h _ => g4r18 q h)
  obtain ⟨hP, hD⟩ := wr_join (i := 3) hP hD rfl g4r18 g5r18 g1r18 g2r18
  obtain ⟨fc19, efc19⟩ : ∃ z : gf, z = up fc17 2 (P_wr (κ 6) (N) (fc17 2)) := ⟨_, rfl⟩
  have hP : va_P γ.1 vwCl [(γ.2.2.2 6, .inr (6, [.ref r14, .ref r16, .ref b2_2, .ref b3_2, .ref b4_2, .ref (γ.2.2.2 7)])), (r14, .inl (γ.2.1, wl (κ 6) (N), .inl (fc19 0))), (r16, .inl (γ.2.1, wl (κ 6) (N), .inl (fc19 1))), (r18, .inl (γ.2.1, wl (κ 6) (N), .inl (fc19 2))), (b3_2, .inl (γ.2.1, (κ 6), .inl (fc19 3))), (b4_2, .inl (γ.2.1, (κ 6), .inl (fc19 4)))] _ := (by rw [efc19]; exact hP)
  have hD : va_D Z_2 [(γ.2.2.2 6, .inr (6, [.ref r14, .ref r16, .ref b2_2, .ref b3_2, .ref b4_2, .ref (γ.2.2.2 7)])), (r14, .inl (γ.2.1, wl (κ 6) (N), .inl (fc19 0))), (r16, .inl (γ.2.1, wl (κ 6) (N), .inl (fc19 1))), (r18, .inl (γ.2.1, wl (κ 6) (N), .inl (fc19 2))), (b3_2, .inl (γ.2.1, (κ 6), .inl (fc19 3))), (b4_2, .inl (γ.2.1, (κ 6), .inl (fc19 4)))] := (by rw [efc19]; exact hD)
  refine st_put (D := γ.1) (ci := 6) (v := .ref r18) (ty := .array .int) (C := R_Looks) (T := T_Looks) (N := 6) (Ts := bs_W0) hx hb hW in_Looks t_Looks t_Looks_ok n_Looks hown hC.1 hP hD hZA hS 0 rfl rfl 2 (by decide) (hW _ qw_427e012605) (fun _ h9 => h9) rfl (by decide +kernel) rfl rfl (Nat.le_of_ble_eq_true rfl) dLooks_makeRoom_33 (fun H locs hP1 hD1 hS hz ho => ?_)
  have hfz := hfz.put hz ho (hD.2 0 _ rfl)
  have hP := hP1
  have hD := hD1
  have hP : va_P γ.1 vwCl [(γ.2.2.2 6, .inr (6, [.ref r14, .ref r16, .ref r18, .ref b3_2, .ref b4_2, .ref (γ.2.2.2 7)])), (r14, .inl (γ.2.1, wl (κ 6) (N), .inl (fc19 0))), (r16, .inl (γ.2.1, wl (κ 6) (N), .inl (fc19 1))), (r18, .inl (γ.2.1, wl (κ 6) (N), .inl (fc19 2))), (b3_2, .inl (γ.2.1, (κ 6), .inl (fc19 3))), (b4_2, .inl (γ.2.1, (κ 6), .inl (fc19 4)))] _ := hP
  have hD : va_D Z_2 [(γ.2.2.2 6, .inr (6, [.ref r14, .ref r16, .ref r18, .ref b3_2, .ref b4_2, .ref (γ.2.2.2 7)])), (r14, .inl (γ.2.1, wl (κ 6) (N), .inl (fc19 0))), (r16, .inl (γ.2.1, wl (κ 6) (N), .inl (fc19 1))), (r18, .inl (γ.2.1, wl (κ 6) (N), .inl (fc19 2))), (b3_2, .inl (γ.2.1, (κ 6), .inl (fc19 3))), (b4_2, .inl (γ.2.1, (κ 6), .inl (fc19 4)))] := hD
  refine lv_aload_n hx hb dLooks_makeRoom_36 rfl (lv_at hl 0 rfl) ?_
  refine lv_aload_n hx hb dLooks_makeRoom_37 rfl (lv_at hl 0 rfl) ?_
  refine va_get (D := γ.1) (ci := 6) (v := .ref b3_2) (C := R_Looks) (T := T_Looks) (N := 6) (Ts := bs_W0) hx hb hW in_Looks hown hC.1 hP 0 rfl rfl 3 (by decide) (hW _ qw_5344cf30a3) (fun _ h9 => h9) rfl dLooks_makeRoom_38 ?_
  refine lv_iload_n hx hb dLooks_makeRoom_41 rfl (lv_at hl 1 rfl) ?_
  refine mu_Tr (rest := [.ref (γ.2.2.2 6)]) S hC (fun q h => hZn q (Nat.le_trans hfz.1 h)) hZA hS (cx_withRoom l γ Z_2 b3_2 (κ 6) (N) (fc19 3) _ (by omega) (by omega)) meTypeBook_withRoom (hC.2 _ qn_2c49eba5a7 rfl) ⟨Nat.le_of_ble_eq_true rfl, Nat.le_of_ble_eq_true rfl⟩ ⟨rfl, hD.2 4 _ rfl, hP 4 _ rfl⟩ rfl hl.1 rfl (Nat.le_of_ble_eq_true rfl) dLooks_makeRoom_42 ⟨(by show _ ≤ 0 + wc (κ 6) (N) + wc (κ 6) (N) + wc (κ 6) (N) + wc (κ 6) (N) + wc (κ 6) (N) + wc (κ 9) N; omega), (by show _ ≤ 0 + wm (κ 6) (N) + wm (κ 6) (N) + wm (κ 6) (N) + wm (κ 6) (N) + wm (κ 6) (N) + 4 * wm (κ 9) N; omega)⟩ (fun r20 Hr20 locs hPO hS _ _ => ?_)
  obtain ⟨g1r20, g2r20, g3r20, g4r20, g5r20⟩ := hPO
  have hfz := hfz.step g3r20 (fun q h _ => g4r20 q h)
  obtain ⟨hP, hD⟩ := wr_join (i := 4) hP hD rfl g4r20 g5r20 g1r20 g2r20
  obtain ⟨fc21, efc21⟩ : ∃ z : gf, z = up fc19 3 (P_wr (κ 6) (N) (fc19 3)) := ⟨_, rfl⟩
  have hP : va_P γ.1 vwCl [(γ.2.2.2 6, .inr (6, [.ref r14, .ref r16, .ref r18, .ref b3_2, .ref b4_2, .ref (γ.2.2.2 7)])), (r14, .inl (γ.2.1, wl (κ 6) (N), .inl (fc21 0))), (r16, .inl (γ.2.1, wl (κ 6) (N), .inl (fc21 1))), (r18, .inl (γ.2.1, wl (κ 6) (N), .inl (fc21 2))), (r20, .inl (γ.2.1, wl (κ 6) (N), .inl (fc21 3))), (b4_2, .inl (γ.2.1, (κ 6), .inl (fc21 4)))] _ := (by rw [efc21]; exact hP)
  have hD : va_D Z_2 [(γ.2.2.2 6, .inr (6, [.ref r14, .ref r16, .ref r18, .ref b3_2, .ref b4_2, .ref (γ.2.2.2 7)])), (r14, .inl (γ.2.1, wl (κ 6) (N), .inl (fc21 0))), (r16, .inl (γ.2.1, wl (κ 6) (N), .inl (fc21 1))), (r18, .inl (γ.2.1, wl (κ 6) (N), .inl (fc21 2))), (r20, .inl (γ.2.1, wl (κ 6) (N), .inl (fc21 3))), (b4_2, .inl (γ.2.1, (κ 6), .inl (fc21 4)))] := (by rw [efc21]; exact hD)
  refine st_put (D := γ.1) (ci := 6) (v := .ref r20) (ty := .array .int) (C := R_Looks) (T := T_Looks) (N := 6) (Ts := bs_W0) hx hb hW in_Looks t_Looks t_Looks_ok n_Looks hown hC.1 hP hD hZA hS 0 rfl rfl 3 (by decide) (hW _ qw_5344cf30a3) (fun _ h9 => h9) rfl (by decide +kernel) rfl rfl (Nat.le_of_ble_eq_true rfl) dLooks_makeRoom_45 (fun H locs hP1 hD1 hS hz ho => ?_)
  have hfz := hfz.put hz ho (hD.2 0 _ rfl)
  have hP := hP1
  have hD := hD1
  have hP : va_P γ.1 vwCl [(γ.2.2.2 6, .inr (6, [.ref r14, .ref r16, .ref r18, .ref r20, .ref b4_2, .ref (γ.2.2.2 7)])), (r14, .inl (γ.2.1, wl (κ 6) (N), .inl (fc21 0))), (r16, .inl (γ.2.1, wl (κ 6) (N), .inl (fc21 1))), (r18, .inl (γ.2.1, wl (κ 6) (N), .inl (fc21 2))), (r20, .inl (γ.2.1, wl (κ 6) (N), .inl (fc21 3))), (b4_2, .inl (γ.2.1, (κ 6), .inl (fc21 4)))] _ := hP
  have hD : va_D Z_2 [(γ.2.2.2 6, .inr (6, [.ref r14, .ref r16, .ref r18, .ref r20, .ref b4_2, .ref (γ.2.2.2 7)])), (r14, .inl (γ.2.1, wl (κ 6) (N), .inl (fc21 0))), (r16, .inl (γ.2.1, wl (κ 6) (N), .inl (fc21 1))), (r18, .inl (γ.2.1, wl (κ 6) (N), .inl (fc21 2))), (r20, .inl (γ.2.1, wl (κ 6) (N), .inl (fc21 3))), (b4_2, .inl (γ.2.1, (κ 6), .inl (fc21 4)))] := hD
  refine lv_aload_n hx hb dLooks_makeRoom_48 rfl (lv_at hl 0 rfl) ?_
  refine lv_aload_n hx hb dLooks_makeRoom_49 rfl (lv_at hl 0 rfl) ?_
  refine va_get (D := γ.1) (ci := 6) (v := .ref b4_2) (C := R_Looks) (T := T_Looks) (N := 6) (Ts := bs_W0) hx hb hW in_Looks hown hC.1 hP 0 rfl rfl 4 (by decide) (hW _ qw_d08a1abfac) (fun _ h9 => h9) rfl dLooks_makeRoom_50 ?_
  refine lv_iload_n hx hb dLooks_makeRoom_53 rfl (lv_at hl 1 rfl) ?_
  refine mu_Tr (rest := [.ref (γ.2.2.2 6)]) S hC (fun q h => hZn q (Nat.le_trans hfz.1 h)) hZA hS (cx_withRoom l γ Z_2 b4_2 (κ 6) (N) (fc21 4) _ (by omega) (by omega)) meTypeBook_withRoom (hC.2 _ qn_2c49eba5a7 rfl) ⟨Nat.le_of_ble_eq_true rfl, Nat.le_of_ble_eq_true rfl⟩ ⟨rfl, hD.2 5 _ rfl, hP 5 _ rfl⟩ rfl hl.1 rfl (Nat.le_of_ble_eq_true rfl) dLooks_makeRoom_54 ⟨(by show _ ≤ 0 + wc (κ 6) (N) + wc (κ 6) (N) + wc (κ 6) (N) + wc (κ 6) (N) + wc (κ 6) (N) + wc (κ 9) N; omega), (by show _ ≤ 0 + wm (κ 6) (N) + wm (κ 6) (N) + wm (κ 6) (N) + wm (κ 6) (N) + wm (κ 6) (N) + 4 * wm (κ 9) N; omega)⟩ (fun r22 Hr22 locs hPO hS _ _ => ?_)
  obtain ⟨g1r22, g2r22, g3r22, g4r22, g5r22⟩ := hPO
  have hfz := hfz.step g3r22 (fun q h _ => g4r22 q h)
  obtain ⟨hP, hD⟩ := wr_join (i := 5) hP hD rfl g4r22 g5r22 g1r22 g2r22
  obtain ⟨fc23, efc23⟩ : ∃ z : gf, z = up fc21 4 (P_wr (κ 6) (N) (fc21 4)) := ⟨_, rfl⟩
  have hP : va_P γ.1 vwCl [(γ.2.2.2 6, .inr (6, [.ref r14, .ref r16, .ref r18, .ref r20, .ref b4_2, .ref (γ.2.2.2 7)])), (r14, .inl (γ.2.1, wl (κ 6) (N), .inl (fc23 0))), (r16, .inl (γ.2.1, wl (κ 6) (N), .inl (fc23 1))), (r18, .inl (γ.2.1, wl (κ 6) (N), .inl (fc23 2))), (r20, .inl (γ.2.1, wl (κ 6) (N), .inl (fc23 3))), (r22, .inl (γ.2.1, wl (κ 6) (N), .inl (fc23 4)))] _ := (by rw [efc23]; exact hP)
  have hD : va_D Z_2 [(γ.2.2.2 6, .inr (6, [.ref r14, .ref r16, .ref r18, .ref r20, .ref b4_2, .ref (γ.2.2.2 7)])), (r14, .inl (γ.2.1, wl (κ 6) (N), .inl (fc23 0))), (r16, .inl (γ.2.1, wl (κ 6) (N), .inl (fc23 1))), (r18, .inl (γ.2.1, wl (κ 6) (N), .inl (fc23 2))), (r20, .inl (γ.2.1, wl (κ 6) (N), .inl (fc23 3))), (r22, .inl (γ.2.1, wl (κ 6) (N), .inl (fc23 4)))] := (by rw [efc23]; exact hD)
  refine st_put (D := γ.1) (ci := 6) (v := .ref r22) (ty := .array .int) (C := R_Looks) (T := T_Looks) (N := 6) (Ts := bs_W0) hx hb hW in_Looks t_Looks t_Looks_ok n_Looks hown hC.1 hP hD hZA hS 0 rfl rfl 4 (by decide) (hW _ qw_d08a1abfac) (fun _ h9 => h9) rfl (by decide +kernel) rfl rfl (Nat.le_of_ble_eq_true rfl) dLooks_makeRoom_57 (fun H locs hP1 hD1 hS hz ho => ?_)
  have hfz := hfz.put hz ho (hD.2 0 _ rfl)
  have hP := hP1
  have hD := hD1
  have hP : va_P γ.1 vwCl [(γ.2.2.2 6, .inr (6, [.ref r14, .ref r16, .ref r18, .ref r20, .ref r22, .ref (γ.2.2.2 7)])), (r14, .inl (γ.2.1, wl (κ 6) (N), .inl (fc23 0))), (r16, .inl (γ.2.1, wl (κ 6) (N), .inl (fc23 1))), (r18, .inl (γ.2.1, wl (κ 6) (N), .inl (fc23 2))), (r20, .inl (γ.2.1, wl (κ 6) (N), .inl (fc23 3))), (r22, .inl (γ.2.1, wl (κ 6) (N), .inl (fc23 4)))] _ := hP
  have hD : va_D Z_2 [(γ.2.2.2 6, .inr (6, [.ref r14, .ref r16, .ref r18, .ref r20, .ref r22, .ref (γ.2.2.2 7)])), (r14, .inl (γ.2.1, wl (κ 6) (N), .inl (fc23 0))), (r16, .inl (γ.2.1, wl (κ 6) (N), .inl (fc23 1))), (r18, .inl (γ.2.1, wl (κ 6) (N), .inl (fc23 2))), (r20, .inl (γ.2.1, wl (κ 6) (N), .inl (fc23 3))), (r22, .inl (γ.2.1, wl (κ 6) (N), .inl (fc23 4)))] := hD
  refine lv_aload_n hx hb dLooks_makeRoom_60 rfl (lv_at hl 0 rfl) ?_
  refine va_get (D := γ.1) (ci := 6) (v := .ref (γ.2.2.2 7)) (C := R_Looks) (T := T_Looks) (N := 6) (Ts := bs_W0) hx hb hW in_Looks hown hC.1 hP 0 rfl rfl 5 (by decide) (hW _ qw_50f3c1330a) (fun _ h9 => h9) rfl dLooks_makeRoom_61 ?_
  refine lv_iload_n hx hb dLooks_makeRoom_64 rfl (lv_at hl 1 rfl) ?_
  have hG : INVF γ A (ku κ 6 (wl (κ 6) (N))) (up φ 7 fc23) ψ _ := (by have h9 := hback (ku κ 6 (wl (κ 6) (N))) fc23 (ψ 7) _ (fun j h1 h2 h3 f g => by rcases (show j = 1 ∨ j = 2 ∨ j = 3 ∨ j = 4 ∨ j = 5 ∨ j = 6 ∨ j = 7 ∨ j = 8 ∨ j = 9 ∨ j = 10 by omega) with h | h | h | h | h | h | h | h | h | h <;> subst h <;> first | rfl | exact absurd rfl h1) ⟨_, ⟨r14, r16, r18, r20, r22, rfl, (show (wl (κ 6) (N)) ≤ 8192 by omega), (show 64 ≤ (wl (κ 6) (N)) by omega)⟩, hP, hD⟩ hfz.1 hfz.2; rw [up_id ψ 7] at h9; exact h9)
  obtain ⟨φ24, eφ24⟩ : ∃ z : gF, z = up φ 7 fc23 := ⟨_, rfl⟩
  rw [← eφ24] at hG
  have hI := inv_of hG
  refine mu_Vv (rest := []) S hC (fun q h => hA q (Nat.le_trans hS.1 h)) (fun q h => h) hS (f7_Rows_makeRoom l γ A (ku κ 6 (wl (κ 6) (N))) φ24 ψ N (by omega)) meRows_makeRoom qw_7de9d707b8 ⟨Nat.le_of_ble_eq_true rfl, Nat.le_of_ble_eq_true rfl⟩ (rv_7 hC hI) hG rfl hl.1 rfl (Nat.le_of_ble_eq_true rfl) dLooks_makeRoom_65 ⟨(by show 0 + wc (κ 6) (N) + wc (κ 6) (N) + wc (κ 6) (N) + wc (κ 6) (N) + wc (κ 6) (N) + (wc (κ 9) N) ≤ 0 + wc (κ 6) (N) + wc (κ 6) (N) + wc (κ 6) (N) + wc (κ 6) (N) + wc (κ 6) (N) + wc (κ 9) N; omega), (by show 0 + wm (κ 6) (N) + wm (κ 6) (N) + wm (κ 6) (N) + wm (κ 6) (N) + wm (κ 6) (N) + (4 * wm (κ 9) N) ≤ 0 + wm (κ 6) (N) + wm (κ 6) (N) + wm (κ 6) (N) + wm (κ 6) (N) + wm (κ 6) (N) + 4 * wm (κ 9) N; omega)⟩ (fun H locs hG hS _ _ => ?_)
  refine W.cs (cells' := 0 + wc (κ 6) (N) + wc (κ 6) (N) + wc (κ 6) (N) + wc (κ 6) (N) + wc (κ 6) (N) + (wc (κ 9) N)) (slots' := 0 + wm (κ 6) (N) + wm (κ 6) (N) + wm (κ 6) (N) + wm (κ 6) (N) + wm (κ 6) (N) + (4 * wm (κ 9) N)) rfl rfl ?_
  have hG : INVF γ A (ku (ku κ 6 (wl (κ 6) (N))) 9 (wl (κ 9) N)) φ24 (up ψ 8 (P_Rows_makeRoom ((κ 9)) (ψ 8) N)) _ := hG
  obtain ⟨ψ26, eψ26⟩ : ∃ z : gG, z = up ψ 8 (P_Rows_makeRoom ((κ 9)) (ψ 8) N) := ⟨_, rfl⟩
  rw [← eψ26] at hG
  have hI := inv_of hG
  have hG : INVF γ A (ku (ku κ 6 (wl (κ 6) (N))) 9 (wl (κ 9) N)) φ24 ψ26 _ := hG
  have hQ := hE _ _ 68 ls hS (by have hO2 : Oq OUT (φ24, ψ26) := (by subst eψ26 eφ24 efc23 efc21 efc19 efc17 efc15; exact hO.tr rfl); rw [hO2.eq]; exact hG) dLooks_makeRoom_68
  refine W.cs (cells' := 0 + wc (κ 6) (N) + wc (κ 6) (N) + wc (κ 6) (N) + wc (κ 6) (N) + wc (κ 6) (N) + wc (κ 9) N) (slots' := 0 + wm (κ 6) (N) + wm (κ 6) (N) + wm (κ 6) (N) + wm (κ 6) (N) + wm (κ 6) (N) + 4 * wm (κ 9) N) (by omega) (by omega) ?_
  exact hQ
def P_Looks_makeRoom9 (κ : Nat → Nat) (φ : gF) (ψ : gG) (N : Nat) : gF × gG := ((up φ 9 (up (up (up (up (up (φ 9) 0 (P_wr (κ 7) (N) ((φ 9) 0))) 1 (P_wr (κ 7) (N) ((up (φ 9) 0 (P_wr (κ 7) (N) ((φ 9) 0))) 1))) 2 (P_wr (κ 7) (N) ((up (up (φ 9) 0 (P_wr (κ 7) (N) ((φ 9) 0))) 1 (P_wr (κ 7) (N) ((up (φ 9) 0 (P_wr (κ 7) (N) ((φ 9) 0))) 1))) 2))) 3 (P_wr (κ 7) (N) ((up (up (up (φ 9) 0 (P_wr (κ 7) (N) ((φ 9) 0))) 1 (P_wr (κ 7) (N) ((up (φ 9) 0 (P_wr (κ 7) (N) ((φ 9) 0))) 1))) 2 (P_wr (κ 7) (N) ((up (up (φ 9) 0 (P_wr (κ 7) (N) ((φ 9) 0))) 1 (P_wr (κ 7) (N) ((up (φ 9) 0 (P_wr (κ 7) (N) ((φ 9) 0))) 1))) 2))) 3))) 4 (P_wr (κ 7) (N) ((up (up (up (up (φ 9) 0 (P_wr (κ 7) (N) ((φ 9) 0))) 1 (P_wr (κ 7) (N) ((up (φ 9) 0 (P_wr (κ 7) (N) ((φ 9) 0))) 1))) 2 (P_wr (κ 7) (N) ((up (up (φ 9) 0 (P_wr (κ 7) (N) ((φ 9) 0))) 1 (P_wr (κ 7) (N) ((up (φ 9) 0 (P_wr (κ 7) (N) ((φ 9) 0))) 1))) 2))) 3 (P_wr (κ 7) (N) ((up (up (up (φ 9) 0 (P_wr (κ 7) (N) ((φ 9) 0))) 1 (P_wr (κ 7) (N) ((up (φ 9) 0 (P_wr (κ 7) (N) ((φ 9) 0))) 1))) 2 (P_wr (κ 7) (N) ((up (up (φ 9) 0 (P_wr (κ 7) (N) ((φ 9) 0))) 1 (P_wr (κ 7) (N) ((up (φ 9) 0 (P_wr (κ 7) (N) ((φ 9) 0))) 1))) 2))) 3))) 4)))), (up ψ 10 (P_Rows_makeRoom ((κ 10)) (ψ 10) N)))
set_option maxHeartbeats 4000000 in
set_option maxRecDepth 100000 in
theorem f9_Looks_makeRoom (l : Launch) (γ : gE) (A : Nat → Prop) (κ : Nat → Nat) (φ : gF) (ψ : gG) (N : Nat) (hN : N ≤ 4096): MU l yLooks_makeRoom bLooks_makeRoom 2 (none) 3 103 (0 + wc (κ 7) (N) + wc (κ 7) (N) + wc (κ 7) (N) + wc (κ 7) (N) + wc (κ 7) (N) + wc (κ 10) N) (0 + wm (κ 7) (N) + wm (κ 7) (N) + wm (κ 7) (N) + wm (κ 7) (N) + wm (κ 7) (N) + 4 * wm (κ 10) N) [.ref (γ.2.2.2 9), .int (nI N)] γ A (INVF γ A κ φ ψ) (mQv (fun H => INVF γ A (ku (ku κ 7 (wl (κ 7) (N))) 10 (wl (κ 10) N)) (P_Looks_makeRoom9 κ φ ψ N).1 (P_Looks_makeRoom9 κ φ ψ N).2 H) A) := by
  refine mu_openV (by decide) (Nat.le_of_ble_eq_true rfl) ?_
  intro p e s m args below meth c ls Q S hnm hC hA hG hE hl
  obtain ⟨hx, hb, hml, hown, hW⟩ := id S
  have hI := inv_of hG
  have hS : va_S A s.heap s.heap [] := va_S.rf
  have hl : lv_has ls 2 [(0, .ref (γ.2.2.2 9)), (1, .int (nI N))] := hl
  have hb9 : κ 7 ≤ 8192 ∧ 64 ≤ κ 7 := (by obtain ⟨_, w9, ⟨_, _, _, _, _, _, _, _, _, _, _, h1, h2⟩, _, _⟩ := inv_c hI 9 (by decide) (by decide); exact ⟨h1, h2⟩)
  have hwl := wl_ok (n := κ 7) (N := N) (by omega) (by omega)
  obtain ⟨OUT, hQ, hO⟩ : ∃ z, (z = P_Looks_makeRoom9 κ φ ψ N) ∧ Oq z (P_Looks_makeRoom9 κ φ ψ N) := ⟨_, rfl, rfl⟩
  rw [← hQ] at hE
  clear hQ
  refine lv_aload_n hx hb dLooks_makeRoom_0 rfl (lv_at hl 0 rfl) ?_
  refine lv_aload_n hx hb dLooks_makeRoom_1 rfl (lv_at hl 0 rfl) ?_
  obtain ⟨Z_2, ⟨ws_2, ⟨b0_2, b1_2, b2_2, b3_2, b4_2, rfl, h1_2, h2_2⟩, hP, hD⟩, hZn, hZA, hback⟩ := ing_lift hG (fun q h => hA q (Nat.le_trans hS.1 h)) 9 (by decide) (by decide)
  have hP : va_P γ.1 vwCl [(γ.2.2.2 9, .inr (6, [.ref b0_2, .ref b1_2, .ref b2_2, .ref b3_2, .ref b4_2, .ref (γ.2.2.2 10)])), (b0_2, .inl (γ.2.1, (κ 7), .inl ((φ 9) 0))), (b1_2, .inl (γ.2.1, (κ 7), .inl ((φ 9) 1))), (b2_2, .inl (γ.2.1, (κ 7), .inl ((φ 9) 2))), (b3_2, .inl (γ.2.1, (κ 7), .inl ((φ 9) 3))), (b4_2, .inl (γ.2.1, (κ 7), .inl ((φ 9) 4)))] _ := hP
  have hD : va_D Z_2 [(γ.2.2.2 9, .inr (6, [.ref b0_2, .ref b1_2, .ref b2_2, .ref b3_2, .ref b4_2, .ref (γ.2.2.2 10)])), (b0_2, .inl (γ.2.1, (κ 7), .inl ((φ 9) 0))), (b1_2, .inl (γ.2.1, (κ 7), .inl ((φ 9) 1))), (b2_2, .inl (γ.2.1, (κ 7), .inl ((φ 9) 2))), (b3_2, .inl (γ.2.1, (κ 7), .inl ((φ 9) 3))), (b4_2, .inl (γ.2.1, (κ 7), .inl ((φ 9) 4)))] := hD
  have hfz := fz.rf Z_2 (H := _) hP
  refine va_get (D := γ.1) (ci := 6) (v := .ref b0_2) (C := R_Looks) (T := T_Looks) (N := 6) (Ts := bs_W0) hx hb hW in_Looks hown hC.1 hP 0 rfl rfl 0 (by decide) (hW _ qw_ac7df03aa7) (fun _ h9 => h9) rfl dLooks_makeRoom_2 ?_
  refine lv_iload_n hx hb dLooks_makeRoom_5 rfl (lv_at hl 1 rfl) ?_
  refine mu_Tr (rest := [.ref (γ.2.2.2 9)]) S hC (fun q h => hZn q (Nat.le_trans hfz.1 h)) hZA hS (cx_withRoom l γ Z_2 b0_2 (κ 7) (N) ((φ 9) 0) _ (by omega) (by omega)) meTypeBook_withRoom (hC.2 _ qn_2c49eba5a7 rfl) ⟨Nat.le_of_ble_eq_true rfl, Nat.le_of_ble_eq_true rfl⟩ ⟨rfl, hD.2 1 _ rfl, hP 1 _ rfl⟩ rfl hl.1 rfl (Nat.le_of_ble_eq_true rfl) dLooks_makeRoom_6 ⟨(by show _ ≤ 0 + wc (κ 7) (N) + wc (κ 7) (N) + wc (κ 7) (N) + wc (κ 7) (N) + wc (κ 7) (N) + wc (κ 10) N; omega), (by show _ ≤ 0 + wm (κ 7) (N) + wm (κ 7) (N) + wm (κ 7) (N) + wm (κ 7) (N) + wm (κ 7) (N) + 4 * wm (κ 10) N; omega)⟩ (fun r14 Hr14 locs hPO hS _ _ => ?_)
  obtain ⟨g1r14, g2r14, g3r14, g4r14, g5r14⟩ := hPO
  have hfz := hfz.step g3r14 (fun q h _ => g4r14 q h)
  obtain ⟨hP, hD⟩ := wr_join (i := 1) hP hD rfl g4r14 g5r14 g1r14 g2r14
  obtain ⟨fc15, efc15⟩ : ∃ z : gf, z = up (φ 9) 0 (P_wr (κ 7) (N) ((φ 9) 0)) := ⟨_, rfl⟩
  have hP : va_P γ.1 vwCl [(γ.2.2.2 9, .inr (6, [.ref b0_2, .ref b1_2, .ref b2_2, .ref b3_2, .ref b4_2, .ref (γ.2.2.2 10)])), (r14, .inl (γ.2.1, wl (κ 7) (N), .inl (fc15 0))), (b1_2, .inl (γ.2.1, (κ 7), .inl (fc15 1))), (b2_2, .inl (γ.2.1, (κ 7), .inl (fc15 2))), (b3_2, .inl (γ.2.1, (κ 7), .inl (fc15 3))), (b4_2, .inl (γ.2.1, (κ 7), .inl (fc15 4)))] _ := (by rw [efc15]; exact hP)
  have hD : va_D Z_2 [(γ.2.2.2 9, .inr (6, [.ref b0_2, .ref b1_2, .ref b2_2, .ref b3_2, .ref b4_2, .ref (γ.2.2.2 10)])), (r14, .inl (γ.2.1, wl (κ 7) (N), .inl (fc15 0))), (b1_2, .inl (γ.2.1, (κ 7), .inl (fc15 1))), (b2_2, .inl (γ.2.1, (κ 7), .inl (fc15 2))), (b3_2, .inl (γ.2.1, (κ 7), .inl (fc15 3))), (b4_2, .inl (γ.2.1, (κ 7), .inl (fc15 4)))] := (by rw [efc15]; exact hD)
  refine st_put (D := γ.1) (ci := 6) (v := .ref r14) (ty := .array .int) (C := R_Looks) (T := T_Looks) (N := 6) (Ts := bs_W0) hx hb hW in_Looks t_Looks t_Looks_ok n_Looks hown hC.1 hP hD hZA hS 0 rfl rfl 0 (by decide) (hW _ qw_ac7df03aa7) (fun _ h9 => h9) rfl (by decide +kernel) rfl rfl (Nat.le_of_ble_eq_true rfl) dLooks_makeRoom_9 (fun H locs hP1 hD1 hS hz ho => ?_)
  have hfz := hfz.put hz ho (hD.2 0 _ rfl)
  have hP := hP1
  have hD := hD1
  have hP : va_P γ.1 vwCl [(γ.2.2.2 9, .inr (6, [.ref r14, .ref b1_2, .ref b2_2, .ref b3_2, .ref b4_2, .ref (γ.2.2.2 10)])), (r14, .inl (γ.2.1, wl (κ 7) (N), .inl (fc15 0))), (b1_2, .inl (γ.2.1, (κ 7), .inl (fc15 1))), (b2_2, .inl (γ.2.1, (κ 7), .inl (fc15 2))), (b3_2, .inl (γ.2.1, (κ 7), .inl (fc15 3))), (b4_2, .inl (γ.2.1, (κ 7), .inl (fc15 4)))] _ := hP
  have hD : va_D Z_2 [(γ.2.2.2 9, .inr (6, [.ref r14, .ref b1_2, .ref b2_2, .ref b3_2, .ref b4_2, .ref (γ.2.2.2 10)])), (r14, .inl (γ.2.1, wl (κ 7) (N), .inl (fc15 0))), (b1_2, .inl (γ.2.1, (κ 7), .inl (fc15 1))), (b2_2, .inl (γ.2.1, (κ 7), .inl (fc15 2))), (b3_2, .inl (γ.2.1, (κ 7), .inl (fc15 3))), (b4_2, .inl (γ.2.1, (κ 7), .inl (fc15 4)))] := hD
  refine lv_aload_n hx hb dLooks_makeRoom_12 rfl (lv_at hl 0 rfl) ?_
  refine lv_aload_n hx hb dLooks_makeRoom_13 rfl (lv_at hl 0 rfl) ?_
  refine va_get (D := γ.1) (ci := 6) (v := .ref b1_2) (C := R_Looks) (T := T_Looks) (N := 6) (Ts := bs_W0) hx hb hW in_Looks hown hC.1 hP 0 rfl rfl 1 (by decide) (hW _ qw_7dd30c70bd) (fun _ h9 => h9) rfl dLooks_makeRoom_14 ?_
  refine lv_iload_n hx hb dLooks_makeRoom_17 rfl (lv_at hl 1 rfl) ?_
  refine mu_Tr (rest := [.ref (γ.2.2.2 9)]) S hC (fun q h => hZn q (Nat.le_trans hfz.1 h)) hZA hS (cx_withRoom l γ Z_2 b1_2 (κ 7) (N) (fc15 1) _ (by omega) (by omega)) meTypeBook_withRoom (hC.2 _ qn_2c49eba5a7 rfl) ⟨Nat.le_of_ble_eq_true rfl, Nat.le_of_ble_eq_true rfl⟩ ⟨rfl, hD.2 2 _ rfl, hP 2 _ rfl⟩ rfl hl.1 rfl (Nat.le_of_ble_eq_true rfl) dLooks_makeRoom_18 ⟨(by show _ ≤ 0 + wc (κ 7) (N) + wc (κ 7) (N) + wc (κ 7) (N) + wc (κ 7) (N) + wc (κ 7) (N) + wc (κ 10) N; omega), (by show _ ≤ 0 + wm (κ 7) (N) + wm (κ 7) (N) + wm (κ 7) (N) + wm (κ 7) (N) + wm (κ 7) (N) + 4 * wm (κ 10) N; omega)⟩ (fun r16 Hr16 locs hPO hS _ _ => ?_)
  obtain ⟨g1r16, g2r16, g3r16, g4r16, g5r16⟩ := hPO
  have hfz := hfz.step g3r16 (fun q h _ => g4r16 q h)
  obtain ⟨hP, hD⟩ := wr_join (i := 2) hP hD rfl g4r16 g5r16 g1r16 g2r16
  obtain ⟨fc17, efc17⟩ : ∃ z : gf, z = up fc15 1 (P_wr (κ 7) (N) (fc15 1)) := ⟨_, rfl⟩
  have hP : va_P γ.1 vwCl [(γ.2.2.2 9, .inr (6, [.ref r14, .ref b1_2, .ref b2_2, .ref b3_2, .ref b4_2, .ref (γ.2.2.2 10)])), (r14, .inl (γ.2.1, wl (κ 7) (N), .inl (fc17 0))), (r16, .inl (γ.2.1, wl (κ 7) (N), .inl (fc17 1))), (b2_2, .inl (γ.2.1, (κ 7), .inl (fc17 2))), (b3_2, .inl (γ.2.1, (κ 7), .inl (fc17 3))), (b4_2, .inl (γ.2.1, (κ 7), .inl (fc17 4)))] _ := (by rw [efc17]; exact hP)
  have hD : va_D Z_2 [(γ.2.2.2 9, .inr (6, [.ref r14, .ref b1_2, .ref b2_2, .ref b3_2, .ref b4_2, .ref (γ.2.2.2 10)])), (r14, .inl (γ.2.1, wl (κ 7) (N), .inl (fc17 0))), (r16, .inl (γ.2.1, wl (κ 7) (N), .inl (fc17 1))), (b2_2, .inl (γ.2.1, (κ 7), .inl (fc17 2))), (b3_2, .inl (γ.2.1, (κ 7), .inl (fc17 3))), (b4_2, .inl (γ.2.1, (κ 7), .inl (fc17 4)))] := (by rw [efc17]; exact hD)
  refine st_put (D := γ.1) (ci := 6) (v := .ref r16) (ty := .array .int) (C := R_Looks) (T := T_Looks) (N := 6) (Ts := bs_W0) hx hb hW in_Looks t_Looks t_Looks_ok n_Looks hown hC.1 hP hD hZA hS 0 rfl rfl 1 (by decide) (hW _ qw_7dd30c70bd) (fun _ h9 => h9) rfl (by decide +kernel) rfl rfl (Nat.le_of_ble_eq_true rfl) dLooks_makeRoom_21 (fun H locs hP1 hD1 hS hz ho => ?_)
  have hfz := hfz.put hz ho (hD.2 0 _ rfl)
  have hP := hP1
  have hD := hD1
  have hP : va_P γ.1 vwCl [(γ.2.2.2 9, .inr (6, [.ref r14, .ref r16, .ref b2_2, .ref b3_2, .ref b4_2, .ref (γ.2.2.2 10)])), (r14, .inl (γ.2.1, wl (κ 7) (N), .inl (fc17 0))), (r16, .inl (γ.2.1, wl (κ 7) (N), .inl (fc17 1))), (b2_2, .inl (γ.2.1, (κ 7), .inl (fc17 2))), (b3_2, .inl (γ.2.1, (κ 7), .inl (fc17 3))), (b4_2, .inl (γ.2.1, (κ 7), .inl (fc17 4)))] _ := hP
  have hD : va_D Z_2 [(γ.2.2.2 9, .inr (6, [.ref r14, .ref r16, .ref b2_2, .ref b3_2, .ref b4_2, .ref (γ.2.2.2 10)])), (r14, .inl (γ.2.1, wl (κ 7) (N), .inl (fc17 0))), (r16, .inl (γ.2.1, wl (κ 7) (N), .inl (fc17 1))), (b2_2, .inl (γ.2.1, (κ 7), .inl (fc17 2))), (b3_2, .inl (γ.2.1, (κ 7), .inl (fc17 3))), (b4_2, .inl (γ.2.1, (κ 7), .inl (fc17 4)))] := hD
  refine lv_aload_n hx hb dLooks_makeRoom_24 rfl (lv_at hl 0 rfl) ?_
  refine lv_aload_n hx hb dLooks_makeRoom_25 rfl (lv_at hl 0 rfl) ?_
  refine va_get (D := γ.1) (ci := 6) (v := .ref b2_2) (C := R_Looks) (T := T_Looks) (N := 6) (Ts := bs_W0) hx hb hW in_Looks hown hC.1 hP 0 rfl rfl 2 (by decide) (hW _ qw_427e012605) (fun _ h9 => h9) rfl dLooks_makeRoom_26 ?_
  refine lv_iload_n hx hb dLooks_makeRoom_29 rfl (lv_at hl 1 rfl) ?_
  refine mu_Tr (rest := [.ref (γ.2.2.2 9)]) S hC (fun q h => hZn q (Nat.le_trans hfz.1 h)) hZA hS (cx_withRoom l γ Z_2 b2_2 (κ 7) (N) (fc17 2) _ (by omega) (by omega)) meTypeBook_withRoom (hC.2 _ qn_2c49eba5a7 rfl) ⟨Nat.le_of_ble_eq_true rfl, Nat.le_of_ble_eq_true rfl⟩ ⟨rfl, hD.2 3 _ rfl, hP 3 _ rfl⟩ rfl hl.1 rfl (Nat.le_of_ble_eq_true rfl) dLooks_makeRoom_30 ⟨(by show _ ≤ 0 + wc (κ 7) (N) + wc (κ 7) (N) + wc (κ 7) (N) + wc (κ 7) (N) + wc (κ 7) (N) + wc (κ 10) N; omega), (by show _ ≤ 0 + wm (κ 7) (N) + wm (κ 7) (N) + wm (κ 7) (N) + wm (κ 7) (N) + wm (κ 7) (N) + 4 * wm (κ 10) N; omega)⟩ (fun r18 Hr18 locs hPO hS _ _ => ?_)
  obtain ⟨g1r18, g2r18, g3r18, g4r18, g5r18⟩ := hPO
  have hfz := hfz.step g3r18 (fun q h _ => g4r18 q h)
  obtain ⟨hP, hD⟩ := wr_join (i := 3) hP hD rfl g4r18 g5r18 g1r18 g2r18
  obtain ⟨fc19, efc19⟩ : ∃ z : gf, z = up fc17 2 (P_wr (κ 7) (N) (fc17 2)) := ⟨_, rfl⟩
  have hP : va_P γ.1 vwCl [(γ.2.2.2 9, .inr (6, [.ref r14, .ref r16, .ref b2_2, .ref b3_2, .ref b4_2, .ref (γ.2.2.2 10)])), (r14, .inl (γ.2.1, wl (κ 7) (N), .inl (fc19 0))), (r16, .inl (γ.2.1, wl (κ 7) (N), .inl (fc19 1))), (r18, .inl (γ.2.1, wl (κ 7) (N), .inl (fc19 2))), (b3_2, .inl (γ.2.1, (κ 7), .inl (fc19 3))), (b4_2, .inl (γ.2.1, (κ 7), .inl (fc19 4)))] _ := (by rw [efc19]; exact hP)
  have hD : va_D Z_2 [(γ.2.2.2 9, .inr (6, [.ref r14, .ref r16, .ref b2_2, .ref b3_2, .ref b4_2, .ref (γ.2.2.2 10)])), (r14, .inl (γ.2.1, wl (κ 7) (N), .inl (fc19 0))), (r16, .inl (γ.2.1, wl (κ 7) (N), .inl (fc19 1))), (r18, .inl (γ.2.1, wl (κ 7) (N), .inl (fc19 2))), (b3_2, .inl (γ.2.1, (κ 7), .inl (fc19 3))), (b4_2, .inl (γ.2.1, (κ 7), .inl (fc19 4)))] := (by rw [efc19]; exact hD)
  refine st_put (D := γ.1) (ci := 6) (v := .ref r18) (ty := .array .int) (C := R_Looks) (T := T_Looks) (N := 6) (Ts := bs_W0) hx hb hW in_Looks t_Looks t_Looks_ok n_Looks hown hC.1 hP hD hZA hS 0 rfl rfl 2 (by decide) (hW _ qw_427e012605) (fun _ h9 => h9) rfl (by decide +kernel) rfl rfl (Nat.le_of_ble_eq_true rfl) dLooks_makeRoom_33 (fun H locs hP1 hD1 hS hz ho => ?_)
  have hfz := hfz.put hz ho (hD.2 0 _ rfl)
  have hP := hP1
  have hD := hD1
  have hP : va_P γ.1 vwCl [(γ.2.2.2 9, .inr (6, [.ref r14, .ref r16, .ref r18, .ref b3_2, .ref b4_2, .ref (γ.2.2.2 10)])), (r14, .inl (γ.2.1, wl (κ 7) (N), .inl (fc19 0))), (r16, .inl (γ.2.1, wl (κ 7) (N), .inl (fc19 1))), (r18, .inl (γ.2.1, wl (κ 7) (N), .inl (fc19 2))), (b3_2, .inl (γ.2.1, (κ 7), .inl (fc19 3))), (b4_2, .inl (γ.2.1, (κ 7), .inl (fc19 4)))] _ := hP
  have hD : va_D Z_2 [(γ.2.2.2 9, .inr (6, [.ref r14, .ref r16, .ref r18, .ref b3_2, .ref b4_2, .ref (γ.2.2.2 10)])), (r14, .inl (γ.2.1, wl (κ 7) (N), .inl (fc19 0))), (r16, .inl (γ.2.1, wl (κ 7) (N), .inl (fc19 1))), (r18, .inl (γ.2.1, wl (κ 7) (N), .inl (fc19 2))), (b3_2, .inl (γ.2.1, (κ 7), .inl (fc19 3))), (b4_2, .inl (γ.2.1, (κ 7), .inl (fc19 4)))] := hD
  refine lv_aload_n hx hb dLooks_makeRoom_36 rfl (lv_at hl 0 rfl) ?_
  refine lv_aload_n hx hb dLooks_makeRoom_37 rfl (lv_at hl 0 rfl) ?_
  refine va_get (D := γ.1) (ci := 6) (v := .ref b3_2) (C := R_Looks) (T := T_Looks) (N := 6) (Ts := bs_W0) hx hb hW in_Looks hown hC.1 hP 0 rfl rfl 3 (by decide) (hW _ qw_5344cf30a3) (fun _ h9 => h9) rfl dLooks_makeRoom_38 ?_
  refine lv_iload_n hx hb dLooks_makeRoom_41 rfl (lv_at hl 1 rfl) ?_
  refine mu_Tr (rest := [.ref (γ.2.2.2 9)]) S hC (fun q h => hZn q (Nat.le_trans hfz.1 h)) hZA hS (cx_withRoom l γ Z_2 b3_2 (κ 7) (N) (fc19 3) _ (by omega) (by omega)) meTypeBook_withRoom (hC.2 _ qn_2c49eba5a7 rfl) ⟨Nat.le_of_ble_eq_true rfl, Nat.le_of_ble_eq_true rfl⟩ ⟨rfl, hD.2 4 _ rfl, hP 4 _ rfl⟩ rfl hl.1 rfl (Nat.le_of_ble_eq_true rfl) dLooks_makeRoom_42 ⟨(by show _ ≤ 0 + wc (κ 7) (N) + wc (κ 7) (N) + wc (κ 7) (N) + wc (κ 7) (N) + wc (κ 7) (N) + wc (κ 10) N; omega), (by show _ ≤ 0 + wm (κ 7) (N) + wm (κ 7) (N) + wm (κ 7) (N) + wm (κ 7) (N) + wm (κ 7) (N) + 4 * wm (κ 10) N; omega)⟩ (fun r20 Hr20 locs hPO hS _ _ => ?_)
  obtain ⟨g1r20, g2r20, g3r20, g4r20, g5r20⟩ := hPO
  have hfz := hfz.step g3r20 (fun q h _ => g4r20 q h)
  obtain ⟨hP, hD⟩ := wr_join (i := 4) hP hD rfl g4r20 g5r20 g1r20 g2r20
  obtain ⟨fc21, efc21⟩ : ∃ z : gf, z = up fc19 3 (P_wr (κ 7) (N) (fc19 3)) := ⟨_, rfl⟩
  have hP : va_P γ.1 vwCl [(γ.2.2.2 9, .inr (6, [.ref r14, .ref r16, .ref r18, .ref b3_2, .ref b4_2, .ref (γ.2.2.2 10)])), (r14, .inl (γ.2.1, wl (κ 7) (N), .inl (fc21 0))), (r16, .inl (γ.2.1, wl (κ 7) (N), .inl (fc21 1))), (r18, .inl (γ.2.1, wl (κ 7) (N), .inl (fc21 2))), (r20, .inl (γ.2.1, wl (κ 7) (N), .inl (fc21 3))), (b4_2, .inl (γ.2.1, (κ 7), .inl (fc21 4)))] _ := (by rw [efc21]; exact hP)
  have hD : va_D Z_2 [(γ.2.2.2 9, .inr (6, [.ref r14, .ref r16, .ref r18, .ref b3_2, .ref b4_2, .ref (γ.2.2.2 10)])), (r14, .inl (γ.2.1, wl (κ 7) (N), .inl (fc21 0))), (r16, .inl (γ.2.1, wl (κ 7) (N), .inl (fc21 1))), (r18, .inl (γ.2.1, wl (κ 7) (N), .inl (fc21 2))), (r20, .inl (γ.2.1, wl (κ 7) (N), .inl (fc21 3))), (b4_2, .inl (γ.2.1, (κ 7), .inl (fc21 4)))] := (by rw [efc21]; exact hD)
  refine st_put (D := γ.1) (ci := 6) (v := .ref r20) (ty := .array .int) (C := R_Looks) (T := T_Looks) (N := 6) (Ts := bs_W0) hx hb hW in_Looks t_Looks t_Looks_ok n_Looks hown hC.1 hP hD hZA hS 0 rfl rfl 3 (by decide) (hW _ qw_5344cf30a3) (fun _ h9 => h9) rfl (by decide +kernel) rfl rfl (Nat.le_of_ble_eq_true rfl) dLooks_makeRoom_45 (fun H locs hP1 hD1 hS hz ho => ?_)
  have hfz := hfz.put hz ho (hD.2 0 _ rfl)
  have hP := hP1
  have hD := hD1
  have hP : va_P γ.1 vwCl [(γ.2.2.2 9, .inr (6, [.ref r14, .ref r16, .ref r18, .ref r20, .ref b4_2, .ref (γ.2.2.2 10)])), (r14, .inl (γ.2.1, wl (κ 7) (N), .inl (fc21 0))), (r16, .inl (γ.2.1, wl (κ 7) (N), .inl (fc21 1))), (r18, .inl (γ.2.1, wl (κ 7) (N), .inl (fc21 2))), (r20, .inl (γ.2.1, wl (κ 7) (N), .inl (fc21 3))), (b4_2, .inl (γ.2.1, (κ 7), .inl (fc21 4)))] _ := hP
  have hD : va_D Z_2 [(γ.2.2.2 9, .inr (6, [.ref r14, .ref r16, .ref r18, .ref r20, .ref b4_2, .ref (γ.2.2.2 10)])), (r14, .inl (γ.2.1, wl (κ 7) (N), .inl (fc21 0))), (r16, .inl (γ.2.1, wl (κ 7) (N), .inl (fc21 1))), (r18, .inl (γ.2.1, wl (κ 7) (N), .inl (fc21 2))), (r20, .inl (γ.2.1, wl (κ 7) (N), .inl (fc21 3))), (b4_2, .inl (γ.2.1, (κ 7), .inl (fc21 4)))] := hD
  refine lv_aload_n hx hb dLooks_makeRoom_48 rfl (lv_at hl 0 rfl) ?_
  refine lv_aload_n hx hb dLooks_makeRoom_49 rfl (lv_at hl 0 rfl) ?_
  refine va_get (D := γ.1) (ci := 6) (v := .ref b4_2) (C := R_Looks) (T := T_Looks) (N := 6) (Ts := bs_W0) hx hb hW in_Looks hown hC.1 hP 0 rfl rfl 4 (by decide) (hW _ qw_d08a1abfac) (fun _ h9 => h9) rfl dLooks_makeRoom_50 ?_
  refine lv_iload_n hx hb dLooks_makeRoom_53 rfl (lv_at hl 1 rfl) ?_
  refine mu_Tr (rest := [.ref (γ.2.2.2 9)]) S hC (fun q h => hZn q (Nat.le_trans hfz.1 h)) hZA hS (cx_withRoom l γ Z_2 b4_2 (κ 7) (N) (fc21 4) _ (by omega) (by omega)) meTypeBook_withRoom (hC.2 _ qn_2c49eba5a7 rfl) ⟨Nat.le_of_ble_eq_true rfl, Nat.le_of_ble_eq_true rfl⟩ ⟨rfl, hD.2 5 _ rfl, hP 5 _ rfl⟩ rfl hl.1 rfl (Nat.le_of_ble_eq_true rfl) dLooks_makeRoom_54 ⟨(by show _ ≤ 0 + wc (κ 7) (N) + wc (κ 7) (N) + wc (κ 7) (N) + wc (κ 7) (N) + wc (κ 7) (N) + wc (κ 10) N; omega), (by show _ ≤ 0 + wm (κ 7) (N) + wm (κ 7) (N) + wm (κ 7) (N) + wm (κ 7) (N) + wm (κ 7) (N) + 4 * wm (κ 10) N; omega)⟩ (fun r22 Hr22 locs hPO hS _ _ => ?_)
  obtain ⟨g1r22, g2r22, g3r22, g4r22, g5r22⟩ := hPO
  have hfz := hfz.step g3r22 (fun q h _ => g4r22 q h)
  obtain ⟨hP, hD⟩ := wr_join (i := 5) hP hD rfl g4r22 g5r22 g1r22 g2r22
  obtain ⟨fc23, efc23⟩ : ∃ z : gf, z = up fc21 4 (P_wr (κ 7) (N) (fc21 4)) := ⟨_, rfl⟩
  have hP : va_P γ.1 vwCl [(γ.2.2.2 9, .inr (6, [.ref r14, .ref r16, .ref r18, .ref r20, .ref b4_2, .ref (γ.2.2.2 10)])), (r14, .inl (γ.2.1, wl (κ 7) (N), .inl (fc23 0))), (r16, .inl (γ.2.1, wl (κ 7) (N), .inl (fc23 1))), (r18, .inl (γ.2.1, wl (κ 7) (N), .inl (fc23 2))), (r20, .inl (γ.2.1, wl (κ 7) (N), .inl (fc23 3))), (r22, .inl (γ.2.1, wl (κ 7) (N), .inl (fc23 4)))] _ := (by rw [efc23]; exact hP)
  have hD : va_D Z_2 [(γ.2.2.2 9, .inr (6, [.ref r14, .ref r16, .ref r18, .ref r20, .ref b4_2, .ref (γ.2.2.2 10)])), (r14, .inl (γ.2.1, wl (κ 7) (N), .inl (fc23 0))), (r16, .inl (γ.2.1, wl (κ 7) (N), .inl (fc23 1))), (r18, .inl (γ.2.1, wl (κ 7) (N), .inl (fc23 2))), (r20, .inl (γ.2.1, wl (κ 7) (N), .inl (fc23 3))), (r22, .inl (γ.2.1, wl (κ 7) (N), .inl (fc23 4)))] := (by rw [efc23]; exact hD)
  refine st_put (D := γ.1) (ci := 6) (v := .ref r22) (ty := .array .int) (C := R_Looks) (T := T_Looks) (N := 6) (Ts := bs_W0) hx hb hW in_Looks t_Looks t_Looks_ok n_Looks hown hC.1 hP hD hZA hS 0 rfl rfl 4 (by decide) (hW _ qw_d08a1abfac) (fun _ h9 => h9) rfl (by decide +kernel) rfl rfl (Nat.le_of_ble_eq_true rfl) dLooks_makeRoom_57 (fun H locs hP1 hD1 hS hz ho => ?_)
  have hfz := hfz.put hz ho (hD.2 0 _ rfl)
  have hP := hP1
  have hD := hD1
  have hP : va_P γ.1 vwCl [(γ.2.2.2 9, .inr (6, [.ref r14, .ref r16, .ref r18, .ref r20, .ref r22, .ref (γ.2.2.2 10)])), (r14, .inl (γ.2.1, wl (κ 7) (N), .inl (fc23 0))), (r16, .inl (γ.2.1, wl (κ 7) (N), .inl (fc23 1))), (r18, .inl (γ.2.1, wl (κ 7) (N), .inl (fc23 2))), (r20, .inl (γ.2.1, wl (κ 7) (N), .inl (fc23 3))), (r22, .inl (γ.2.1, wl (κ 7) (N), .inl (fc23 4)))] _ := hP
  have hD : va_D Z_2 [(γ.2.2.2 9, .inr (6, [.ref r14, .ref r16, .ref r18, .ref r20, .ref r22, .ref (γ.2.2.2 10)])), (r14, .inl (γ.2.1, wl (κ 7) (N), .inl (fc23 0))), (r16, .inl (γ.2.1, wl (κ 7) (N), .inl (fc23 1))), (r18, .inl (γ.2.1, wl (κ 7) (N), .inl (fc23 2))), (r20, .inl (γ.2.1, wl (κ 7) (N), .inl (fc23 3))), (r22, .inl (γ.2.1, wl (κ 7) (N), .inl (fc23 4)))] := hD
  refine lv_aload_n hx hb dLooks_makeRoom_60 rfl (lv_at hl 0 rfl) ?_
  refine va_get (D := γ.1) (ci := 6) (v := .ref (γ.2.2.2 10)) (C := R_Looks) (T := T_Looks) (N := 6) (Ts := bs_W0) hx hb hW in_Looks hown hC.1 hP 0 rfl rfl 5 (by decide) (hW _ qw_50f3c1330a) (fun _ h9 => h9) rfl dLooks_makeRoom_61 ?_
  refine lv_iload_n hx hb dLooks_makeRoom_64 rfl (lv_at hl 1 rfl) ?_
  have hG : INVF γ A (ku κ 7 (wl (κ 7) (N))) (up φ 9 fc23) ψ _ := (by have h9 := hback (ku κ 7 (wl (κ 7) (N))) fc23 (ψ 9) _ (fun j h1 h2 h3 f g => by rcases (show j = 1 ∨ j = 2 ∨ j = 3 ∨ j = 4 ∨ j = 5 ∨ j = 6 ∨ j = 7 ∨ j = 8 ∨ j = 9 ∨ j = 10 by omega) with h | h | h | h | h | h | h | h | h | h <;> subst h <;> first | rfl | exact absurd rfl h1) ⟨_, ⟨r14, r16, r18, r20, r22, rfl, (show (wl (κ 7) (N)) ≤ 8192 by omega), (show 64 ≤ (wl (κ 7) (N)) by omega)⟩, hP, hD⟩ hfz.1 hfz.2; rw [up_id ψ 9] at h9; exact h9)
  obtain ⟨φ24, eφ24⟩ : ∃ z : gF, z = up φ 9 fc23 := ⟨_, rfl⟩
  rw [← eφ24] at hG
  have hI := inv_of hG
  refine mu_Vv (rest := []) S hC (fun q h => hA q (Nat.le_trans hS.1 h)) (fun q h => h) hS (f10_Rows_makeRoom l γ A (ku κ 7 (wl (κ 7) (N))) φ24 ψ N (by omega)) meRows_makeRoom qw_7de9d707b8 ⟨Nat.le_of_ble_eq_true rfl, Nat.le_of_ble_eq_true rfl⟩ (rv_10 hC hI) hG rfl hl.1 rfl (Nat.le_of_ble_eq_true rfl) dLooks_makeRoom_65 ⟨(by show 0 + wc (κ 7) (N) + wc (κ 7) (N) + wc (κ 7) (N) + wc (κ 7) (N) + wc (κ 7) (N) + (wc (κ 10) N) ≤ 0 + wc (κ 7) (N) + wc (κ 7) (N) + wc (κ 7) (N) + wc (κ 7) (N) + wc (κ 7) (N) + wc (κ 10) N; omega), (by show 0 + wm (κ 7) (N) + wm (κ 7) (N) + wm (κ 7) (N) + wm (κ 7) (N) + wm (κ 7) (N) + (4 * wm (κ 10) N) ≤ 0 + wm (κ 7) (N) + wm (κ 7) (N) + wm (κ 7) (N) + wm (κ 7) (N) + wm (κ 7) (N) + 4 * wm (κ 10) N; omega)⟩ (fun H locs hG hS _ _ => ?_)
  refine W.cs (cells' := 0 + wc (κ 7) (N) + wc (κ 7) (N) + wc (κ 7) (N) + wc (κ 7) (N) + wc (κ 7) (N) + (wc (κ 10) N)) (slots' := 0 + wm (κ 7) (N) + wm (κ 7) (N) + wm (κ 7) (N) + wm (κ 7) (N) + wm (κ 7) (N) + (4 * wm (κ 10) N)) rfl rfl ?_
  have hG : INVF γ A (ku (ku κ 7 (wl (κ 7) (N))) 10 (wl (κ 10) N)) φ24 (up ψ 10 (P_Rows_makeRoom ((κ 10)) (ψ 10) N)) _ := hG
  obtain ⟨ψ26, eψ26⟩ : ∃ z : gG, z = up ψ 10 (P_Rows_makeRoom ((κ 10)) (ψ 10) N) := ⟨_, rfl⟩
  rw [← eψ26] at hG
  have hI := inv_of hG
  have hG : INVF γ A (ku (ku κ 7 (wl (κ 7) (N))) 10 (wl (κ 10) N)) φ24 ψ26 _ := hG
  have hQ := hE _ _ 68 ls hS (by have hO2 : Oq OUT (φ24, ψ26) := (by subst eψ26 eφ24 efc23 efc21 efc19 efc17 efc15; exact hO.tr rfl); rw [hO2.eq]; exact hG) dLooks_makeRoom_68
  refine W.cs (cells' := 0 + wc (κ 7) (N) + wc (κ 7) (N) + wc (κ 7) (N) + wc (κ 7) (N) + wc (κ 7) (N) + wc (κ 10) N) (slots' := 0 + wm (κ 7) (N) + wm (κ 7) (N) + wm (κ 7) (N) + wm (κ 7) (N) + wm (κ 7) (N) + 4 * wm (κ 10) N) (by omega) (by omega) ?_
  exact hQ
def P_Objects_put (κ : Nat → Nat) (φ : gF) (ψ : gG) (x1 : Int32) (x2 : Int32) : Int32 × gF × gG := ((nI (κ 5)), up (up φ 5 (up (up (up (φ 5) 0 (P_wr (κ 14) (κ 5 + 1) ((φ 5) 0))) 1 (P_wr (κ 14) (κ 5 + 1) ((up (φ 5) 0 (P_wr (κ 14) (κ 5 + 1) ((φ 5) 0))) 1))) 2 (P_wr (κ 14) (κ 5 + 1) ((up (up (φ 5) 0 (P_wr (κ 14) (κ 5 + 1) ((φ 5) 0))) 1 (P_wr (κ 14) (κ 5 + 1) ((up (φ 5) 0 (P_wr (κ 14) (κ 5 + 1) ((φ 5) 0))) 1))) 2)))) 5 (Au (Au (Au ((up φ 5 (up (up (up (φ 5) 0 (P_wr (κ 14) (κ 5 + 1) ((φ 5) 0))) 1 (P_wr (κ 14) (κ 5 + 1) ((up (φ 5) 0 (P_wr (κ 14) (κ 5 + 1) ((φ 5) 0))) 1))) 2 (P_wr (κ 14) (κ 5 + 1) ((up (up (φ 5) 0 (P_wr (κ 14) (κ 5 + 1) ((φ 5) 0))) 1 (P_wr (κ 14) (κ 5 + 1) ((up (φ 5) 0 (P_wr (κ 14) (κ 5 + 1) ((φ 5) 0))) 1))) 2)))) 5) 0 (nI (κ 5)).toNatClampNeg x1) 1 (nI (κ 5)).toNatClampNeg x2) 2 (nI (κ 5)).toNatClampNeg 0), (up ψ 6 (P_Rows_makeRoom ((κ 8)) (ψ 6) (κ 5 + 1))))
set_option maxHeartbeats 4000000 in
set_option maxRecDepth 100000 in
theorem f_Objects_put (l : Launch) (γ : gE) (A : Nat → Prop) (κ : Nat → Nat) (φ : gF) (ψ : gG) (x1 : Int32) (x2 : Int32) (hN : κ 5 ≤ 4000): MU l yObjects_put bObjects_put 3 (some .int) 3 103 (0 + wc (κ 14) (κ 5 + 1) + wc (κ 14) (κ 5 + 1) + wc (κ 14) (κ 5 + 1) + wc (κ 8) (κ 5 + 1)) (0 + wm (κ 14) (κ 5 + 1) + wm (κ 14) (κ 5 + 1) + wm (κ 14) (κ 5 + 1) + 4 * wm (κ 8) (κ 5 + 1)) [.ref (γ.2.2.2 4), .int x1, .int x2] γ A (INVF γ A κ φ ψ) (mQi (fun r H => r = (P_Objects_put κ φ ψ x1 x2).1 ∧ INVF γ A (ku (ku (ku κ 14 (wl (κ 14) (κ 5 + 1))) 8 (wl (κ 8) (κ 5 + 1))) 5 (κ 5 + 1)) (P_Objects_put κ φ ψ x1 x2).2.1 (P_Objects_put κ φ ψ x1 x2).2.2 H) A) := by
  refine mu_openI (by decide) (Nat.le_of_ble_eq_true rfl) ?_
  intro p e s m args below meth c ls Q S hnm hC hA hG hE hl
  obtain ⟨hx, hb, hml, hown, hW⟩ := id S
  have hI := inv_of hG
  have hS : va_S A s.heap s.heap [] := va_S.rf
  have hl : lv_has ls 3 [(0, .ref (γ.2.2.2 4)), (1, .int x1), (2, .int x2)] := hl
  have hb9 : κ 14 ≤ 8192 ∧ κ 5 ≤ κ 14 ∧ 16 ≤ κ 14 := (by obtain ⟨_, w9, ⟨_, _, _, _, _, _, _, h1, h2, h3⟩, _, _⟩ := inv_c hI 5 (by decide) (by decide); exact ⟨h2, h1, h3⟩)
  have hwl := wl_ok (n := κ 14) (N := κ 5 + 1) (by omega) (by omega)
  obtain ⟨OUT, hQ, hO⟩ : ∃ z, (z = P_Objects_put κ φ ψ x1 x2) ∧ Oq z (P_Objects_put κ φ ψ x1 x2) := ⟨_, rfl, rfl⟩
  rw [← hQ] at hE
  clear hQ
  refine lv_aload_n hx hb dObjects_put_0 rfl (lv_at hl 0 rfl) ?_
  refine lv_aload_n hx hb dObjects_put_1 rfl (lv_at hl 0 rfl) ?_
  obtain ⟨Z_3, ⟨ws_3, ⟨b0_3, b1_3, b2_3, rfl, h1_3, h2_3, h3_3⟩, hP, hD⟩, hZn, hZA, hback⟩ := ing_lift hG (fun q h => hA q (Nat.le_trans hS.1 h)) 5 (by decide) (by decide)
  have hP : va_P γ.1 vwCl [(γ.2.2.2 4, .inr (4, [.ref b0_3, .ref b1_3, .ref b2_3, .ref (γ.2.2.2 5), .int (nI (κ 5))])), (b0_3, .inl (γ.2.1, (κ 14), .inl ((φ 5) 0))), (b1_3, .inl (γ.2.1, (κ 14), .inl ((φ 5) 1))), (b2_3, .inl (γ.2.1, (κ 14), .inl ((φ 5) 2)))] _ := hP
  have hD : va_D Z_3 [(γ.2.2.2 4, .inr (4, [.ref b0_3, .ref b1_3, .ref b2_3, .ref (γ.2.2.2 5), .int (nI (κ 5))])), (b0_3, .inl (γ.2.1, (κ 14), .inl ((φ 5) 0))), (b1_3, .inl (γ.2.1, (κ 14), .inl ((φ 5) 1))), (b2_3, .inl (γ.2.1, (κ 14), .inl ((φ 5) 2)))] := hD
  have hfz := fz.rf Z_3 (H := _) hP
  refine va_get (D := γ.1) (ci := 4) (v := .ref b0_3) (C := R_Objects) (T := T_Objects) (N := 5) (Ts := bs_W0) hx hb hW in_Objects hown hC.1 hP 0 rfl rfl 0 (by decide) (hW _ qw_bb1fa418e1) (fun _ h9 => h9) rfl dObjects_put_2 ?_
  refine lv_aload_n hx hb dObjects_put_5 rfl (lv_at hl 0 rfl) ?_
  refine va_get (D := γ.1) (ci := 4) (v := .int (nI (κ 5))) (C := R_Objects) (T := T_Objects) (N := 5) (Ts := bs_W0) hx hb hW in_Objects hown hC.1 hP 0 rfl rfl 4 (by decide) (hW _ qw_1a9a6fdaf2) (fun _ h9 => h9) rfl dObjects_put_6 ?_
  refine lv_topi (fun v29 ev29 => ?_)
  refine lv_iconst (v := 1) hx hb dObjects_put_9 (by decide) ?_
  refine lv_iadd hx hb dObjects_put_10 ?_
  refine lv_topi (fun v30 ev30 => ?_)
  have ev30 : v30 = nI (κ 5 + 1) := by rw [ev30, ev29]; exact nI_add (κ 5) (1)
  obtain rfl : v30 = nI (κ 5 + 1) := ev30
  refine mu_Tr (rest := [.ref (γ.2.2.2 4)]) S hC (fun q h => hZn q (Nat.le_trans hfz.1 h)) hZA hS (cx_withRoom l γ Z_3 b0_3 (κ 14) (κ 5 + 1) ((φ 5) 0) _ (by omega) (by omega)) meTypeBook_withRoom (hC.2 _ qn_f0b29a9b3b rfl) ⟨Nat.le_of_ble_eq_true rfl, Nat.le_of_ble_eq_true rfl⟩ ⟨rfl, hD.2 1 _ rfl, hP 1 _ rfl⟩ rfl hl.1 rfl (Nat.le_of_ble_eq_true rfl) dObjects_put_11 ⟨(by show _ ≤ 0 + wc (κ 14) (κ 5 + 1) + wc (κ 14) (κ 5 + 1) + wc (κ 14) (κ 5 + 1) + wc (κ 8) (κ 5 + 1); omega), (by show _ ≤ 0 + wm (κ 14) (κ 5 + 1) + wm (κ 14) (κ 5 + 1) + wm (κ 14) (κ 5 + 1) + 4 * wm (κ 8) (κ 5 + 1); omega)⟩ (fun r31 Hr31 locs hPO hS _ _ => ?_)
  obtain ⟨g1r31, g2r31, g3r31, g4r31, g5r31⟩ := hPO
  have hfz := hfz.step g3r31 (fun q h _ => g4r31 q h)
  obtain ⟨hP, hD⟩ := wr_join (i := 1) hP hD rfl g4r31 g5r31 g1r31 g2r31
  obtain ⟨fc32, efc32⟩ : ∃ z : gf, z = up (φ 5) 0 (P_wr (κ 14) (κ 5 + 1) ((φ 5) 0)) := ⟨_, rfl⟩
  have hP : va_P γ.1 vwCl [(γ.2.2.2 4, .inr (4, [.ref b0_3, .ref b1_3, .ref b2_3, .ref (γ.2.2.2 5), .int (nI (κ 5))])), (r31, .inl (γ.2.1, wl (κ 14) (κ 5 + 1), .inl (fc32 0))), (b1_3, .inl (γ.2.1, (κ 14), .inl (fc32 1))), (b2_3, .inl (γ.2.1, (κ 14), .inl (fc32 2)))] _ := (by rw [efc32]; exact hP)
  have hD : va_D Z_3 [(γ.2.2.2 4, .inr (4, [.ref b0_3, .ref b1_3, .ref b2_3, .ref (γ.2.2.2 5), .int (nI (κ 5))])), (r31, .inl (γ.2.1, wl (κ 14) (κ 5 + 1), .inl (fc32 0))), (b1_3, .inl (γ.2.1, (κ 14), .inl (fc32 1))), (b2_3, .inl (γ.2.1, (κ 14), .inl (fc32 2)))] := (by rw [efc32]; exact hD)
  refine st_put (D := γ.1) (ci := 4) (v := .ref r31) (ty := .array .int) (C := R_Objects) (T := T_Objects) (N := 5) (Ts := bs_W0) hx hb hW in_Objects t_Objects t_Objects_ok n_Objects hown hC.1 hP hD hZA hS 0 rfl rfl 0 (by decide) (hW _ qw_bb1fa418e1) (fun _ h9 => h9) rfl (by decide +kernel) rfl rfl (Nat.le_of_ble_eq_true rfl) dObjects_put_14 (fun H locs hP1 hD1 hS hz ho => ?_)
  have hfz := hfz.put hz ho (hD.2 0 _ rfl)
  have hP := hP1
  have hD := hD1
  have hP : va_P γ.1 vwCl [(γ.2.2.2 4, .inr (4, [.ref r31, .ref b1_3, .ref b2_3, .ref (γ.2.2.2 5), .int (nI (κ 5))])), (r31, .inl (γ.2.1, wl (κ 14) (κ 5 + 1), .inl (fc32 0))), (b1_3, .inl (γ.2.1, (κ 14), .inl (fc32 1))), (b2_3, .inl (γ.2.1, (κ 14), .inl (fc32 2)))] _ := hP
  have hD : va_D Z_3 [(γ.2.2.2 4, .inr (4, [.ref r31, .ref b1_3, .ref b2_3, .ref (γ.2.2.2 5), .int (nI (κ 5))])), (r31, .inl (γ.2.1, wl (κ 14) (κ 5 + 1), .inl (fc32 0))), (b1_3, .inl (γ.2.1, (κ 14), .inl (fc32 1))), (b2_3, .inl (γ.2.1, (κ 14), .inl (fc32 2)))] := hD
  refine lv_aload_n hx hb dObjects_put_17 rfl (lv_at hl 0 rfl) ?_
  refine lv_aload_n hx hb dObjects_put_18 rfl (lv_at hl 0 rfl) ?_
  refine va_get (D := γ.1) (ci := 4) (v := .ref b1_3) (C := R_Objects) (T := T_Objects) (N := 5) (Ts := bs_W0) hx hb hW in_Objects hown hC.1 hP 0 rfl rfl 1 (by decide) (hW _ qw_541217fbcc) (fun _ h9 => h9) rfl dObjects_put_19 ?_
  refine lv_aload_n hx hb dObjects_put_22 rfl (lv_at hl 0 rfl) ?_
  refine va_get (D := γ.1) (ci := 4) (v := .int (nI (κ 5))) (C := R_Objects) (T := T_Objects) (N := 5) (Ts := bs_W0) hx hb hW in_Objects hown hC.1 hP 0 rfl rfl 4 (by decide) (hW _ qw_1a9a6fdaf2) (fun _ h9 => h9) rfl dObjects_put_23 ?_
  refine lv_topi (fun v33 ev33 => ?_)
  refine lv_iconst (v := 1) hx hb dObjects_put_26 (by decide) ?_
  refine lv_iadd hx hb dObjects_put_27 ?_
  refine lv_topi (fun v34 ev34 => ?_)
  have ev34 : v34 = nI (κ 5 + 1) := by rw [ev34, ev33]; exact nI_add (κ 5) (1)
  obtain rfl : v34 = nI (κ 5 + 1) := ev34
  refine mu_Tr (rest := [.ref (γ.2.2.2 4)]) S hC (fun q h => hZn q (Nat.le_trans hfz.1 h)) hZA hS (cx_withRoom l γ Z_3 b1_3 (κ 14) (κ 5 + 1) (fc32 1) _ (by omega) (by omega)) meTypeBook_withRoom (hC.2 _ qn_f0b29a9b3b rfl) ⟨Nat.le_of_ble_eq_true rfl, Nat.le_of_ble_eq_true rfl⟩ ⟨rfl, hD.2 2 _ rfl, hP 2 _ rfl⟩ rfl hl.1 rfl (Nat.le_of_ble_eq_true rfl) dObjects_put_28 ⟨(by show _ ≤ 0 + wc (κ 14) (κ 5 + 1) + wc (κ 14) (κ 5 + 1) + wc (κ 14) (κ 5 + 1) + wc (κ 8) (κ 5 + 1); omega), (by show _ ≤ 0 + wm (κ 14) (κ 5 + 1) + wm (κ 14) (κ 5 + 1) + wm (κ 14) (κ 5 + 1) + 4 * wm (κ 8) (κ 5 + 1); omega)⟩ (fun r35 Hr35 locs hPO hS _ _ => ?_)
  obtain ⟨g1r35, g2r35, g3r35, g4r35, g5r35⟩ := hPO
  have hfz := hfz.step g3r35 (fun q h _ => g4r35 q h)
  obtain ⟨hP, hD⟩ := wr_join (i := 2) hP hD rfl g4r35 g5r35 g1r35 g2r35
  obtain ⟨fc36, efc36⟩ : ∃ z : gf, z = up fc32 1 (P_wr (κ 14) (κ 5 + 1) (fc32 1)) := ⟨_, rfl⟩
  have hP : va_P γ.1 vwCl [(γ.2.2.2 4, .inr (4, [.ref r31, .ref b1_3, .ref b2_3, .ref (γ.2.2.2 5), .int (nI (κ 5))])), (r31, .inl (γ.2.1, wl (κ 14) (κ 5 + 1), .inl (fc36 0))), (r35, .inl (γ.2.1, wl (κ 14) (κ 5 + 1), .inl (fc36 1))), (b2_3, .inl (γ.2.1, (κ 14), .inl (fc36 2)))] _ := (by rw [efc36]; exact hP)
  have hD : va_D Z_3 [(γ.2.2.2 4, .inr (4, [.ref r31, .ref b1_3, .ref b2_3, .ref (γ.2.2.2 5), .int (nI (κ 5))])), (r31, .inl (γ.2.1, wl (κ 14) (κ 5 + 1), .inl (fc36 0))), (r35, .inl (γ.2.1, wl (κ 14) (κ 5 + 1), .inl (fc36 1))), (b2_3, .inl (γ.2.1, (κ 14), .inl (fc36 2)))] := (by rw [efc36]; exact hD)
  refine st_put (D := γ.1) (ci := 4) (v := .ref r35) (ty := .array .int) (C := R_Objects) (T := T_Objects) (N := 5) (Ts := bs_W0) hx hb hW in_Objects t_Objects t_Objects_ok n_Objects hown hC.1 hP hD hZA hS 0 rfl rfl 1 (by decide) (hW _ qw_541217fbcc) (fun _ h9 => h9) rfl (by decide +kernel) rfl rfl (Nat.le_of_ble_eq_true rfl) dObjects_put_31 (fun H locs hP1 hD1 hS hz ho => ?_)
  have hfz := hfz.put hz ho (hD.2 0 _ rfl)
  have hP := hP1
  have hD := hD1
  have hP : va_P γ.1 vwCl [(γ.2.2.2 4, .inr (4, [.ref r31, .ref r35, .ref b2_3, .ref (γ.2.2.2 5), .int (nI (κ 5))])), (r31, .inl (γ.2.1, wl (κ 14) (κ 5 + 1), .inl (fc36 0))), (r35, .inl (γ.2.1, wl (κ 14) (κ 5 + 1), .inl (fc36 1))), (b2_3, .inl (γ.2.1, (κ 14), .inl (fc36 2)))] _ := hP
  have hD : va_D Z_3 [(γ.2.2.2 4, .inr (4, [.ref r31, .ref r35, .ref b2_3, .ref (γ.2.2.2 5), .int (nI (κ 5))])), (r31, .inl (γ.2.1, wl (κ 14) (κ 5 + 1), .inl (fc36 0))), (r35, .inl (γ.2.1, wl (κ 14) (κ 5 + 1), .inl (fc36 1))), (b2_3, .inl (γ.2.1, (κ 14), .inl (fc36 2)))] := hD
  refine lv_aload_n hx hb dObjects_put_34 rfl (lv_at hl 0 rfl) ?_
  refine lv_aload_n hx hb dObjects_put_35 rfl (lv_at hl 0 rfl) ?_
  refine va_get (D := γ.1) (ci := 4) (v := .ref b2_3) (C := R_Objects) (T := T_Objects) (N := 5) (Ts := bs_W0) hx hb hW in_Objects hown hC.1 hP 0 rfl rfl 2 (by decide) (hW _ qw_0ed5786ef0) (fun _ h9 => h9) rfl dObjects_put_36 ?_
  refine lv_aload_n hx hb dObjects_put_39 rfl (lv_at hl 0 rfl) ?_
  refine va_get (D := γ.1) (ci := 4) (v := .int (nI (κ 5))) (C := R_Objects) (T := T_Objects) (N := 5) (Ts := bs_W0) hx hb hW in_Objects hown hC.1 hP 0 rfl rfl 4 (by decide) (hW _ qw_1a9a6fdaf2) (fun _ h9 => h9) rfl dObjects_put_40 ?_
  refine lv_topi (fun v37 ev37 => ?_)
  refine lv_iconst (v := 1) hx hb dObjects_put_43 (by decide) ?_
  refine lv_iadd hx hb dObjects_put_44 ?_
  refine lv_topi (fun v38 ev38 => ?_)
  have ev38 : v38 = nI (κ 5 + 1) := by rw [ev38, ev37]; exact nI_add (κ 5) (1)
  obtain rfl : v38 = nI (κ 5 + 1) := ev38
  refine mu_Tr (rest := [.ref (γ.2.2.2 4)]) S hC (fun q h => hZn q (Nat.le_trans hfz.1 h)) hZA hS (cx_withRoom l γ Z_3 b2_3 (κ 14) (κ 5 + 1) (fc36 2) _ (by omega) (by omega)) meTypeBook_withRoom (hC.2 _ qn_f0b29a9b3b rfl) ⟨Nat.le_of_ble_eq_true rfl, Nat.le_of_ble_eq_true rfl⟩ ⟨rfl, hD.2 3 _ rfl, hP 3 _ rfl⟩ rfl hl.1 rfl (Nat.le_of_ble_eq_true rfl) dObjects_put_45 ⟨(by show _ ≤ 0 + wc (κ 14) (κ 5 + 1) + wc (κ 14) (κ 5 + 1) + wc (κ 14) (κ 5 + 1) + wc (κ 8) (κ 5 + 1); omega), (by show _ ≤ 0 + wm (κ 14) (κ 5 + 1) + wm (κ 14) (κ 5 + 1) + wm (κ 14) (κ 5 + 1) + 4 * wm (κ 8) (κ 5 + 1); omega)⟩ (fun r39 Hr39 locs hPO hS _ _ => ?_)
  obtain ⟨g1r39, g2r39, g3r39, g4r39, g5r39⟩ := hPO
  have hfz := hfz.step g3r39 (fun q h _ => g4r39 q h)
  obtain ⟨hP, hD⟩ := wr_join (i := 3) hP hD rfl g4r39 g5r39 g1r39 g2r39
  obtain ⟨fc40, efc40⟩ : ∃ z : gf, z = up fc36 2 (P_wr (κ 14) (κ 5 + 1) (fc36 2)) := ⟨_, rfl⟩
  have hP : va_P γ.1 vwCl [(γ.2.2.2 4, .inr (4, [.ref r31, .ref r35, .ref b2_3, .ref (γ.2.2.2 5), .int (nI (κ 5))])), (r31, .inl (γ.2.1, wl (κ 14) (κ 5 + 1), .inl (fc40 0))), (r35, .inl (γ.2.1, wl (κ 14) (κ 5 + 1), .inl (fc40 1))), (r39, .inl (γ.2.1, wl (κ 14) (κ 5 + 1), .inl (fc40 2)))] _ := (by rw [efc40]; exact hP)
  have hD : va_D Z_3 [(γ.2.2.2 4, .inr (4, [.ref r31, .ref r35, .ref b2_3, .ref (γ.2.2.2 5), .int (nI (κ 5))])), (r31, .inl (γ.2.1, wl (κ 14) (κ 5 + 1), .inl (fc40 0))), (r35, .inl (γ.2.1, wl (κ 14) (κ 5 + 1), .inl (fc40 1))), (r39, .inl (γ.2.1, wl (κ 14) (κ 5 + 1), .inl (fc40 2)))] := (by rw [efc40]; exact hD)
  refine st_put (D := γ.1) (ci := 4) (v := .ref r39) (ty := .array .int) (C := R_Objects) (T := T_Objects) (N := 5) (Ts := bs_W0) hx hb hW in_Objects t_Objects t_Objects_ok n_Objects hown hC.1 hP hD hZA hS 0 rfl rfl 2 (by decide) (hW _ qw_0ed5786ef0) (fun _ h9 => h9) rfl (by decide +kernel) rfl rfl (Nat.le_of_ble_eq_true rfl) dObjects_put_48 (fun H locs hP1 hD1 hS hz ho => ?_)
  have hfz := hfz.put hz ho (hD.2 0 _ rfl)
  have hP := hP1
  have hD := hD1
  have hP : va_P γ.1 vwCl [(γ.2.2.2 4, .inr (4, [.ref r31, .ref r35, .ref r39, .ref (γ.2.2.2 5), .int (nI (κ 5))])), (r31, .inl (γ.2.1, wl (κ 14) (κ 5 + 1), .inl (fc40 0))), (r35, .inl (γ.2.1, wl (κ 14) (κ 5 + 1), .inl (fc40 1))), (r39, .inl (γ.2.1, wl (κ 14) (κ 5 + 1), .inl (fc40 2)))] _ := hP
  have hD : va_D Z_3 [(γ.2.2.2 4, .inr (4, [.ref r31, .ref r35, .ref r39, .ref (γ.2.2.2 5), .int (nI (κ 5))])), (r31, .inl (γ.2.1, wl (κ 14) (κ 5 + 1), .inl (fc40 0))), (r35, .inl (γ.2.1, wl (κ 14) (κ 5 + 1), .inl (fc40 1))), (r39, .inl (γ.2.1, wl (κ 14) (κ 5 + 1), .inl (fc40 2)))] := hD
  refine lv_aload_n hx hb dObjects_put_51 rfl (lv_at hl 0 rfl) ?_
  refine va_get (D := γ.1) (ci := 4) (v := .ref (γ.2.2.2 5)) (C := R_Objects) (T := T_Objects) (N := 5) (Ts := bs_W0) hx hb hW in_Objects hown hC.1 hP 0 rfl rfl 3 (by decide) (hW _ qw_f4aeeaf054) (fun _ h9 => h9) rfl dObjects_put_52 ?_
  refine lv_aload_n hx hb dObjects_put_55 rfl (lv_at hl 0 rfl) ?_
  refine va_get (D := γ.1) (ci := 4) (v := .int (nI (κ 5))) (C := R_Objects) (T := T_Objects) (N := 5) (Ts := bs_W0) hx hb hW in_Objects hown hC.1 hP 0 rfl rfl 4 (by decide) (hW _ qw_1a9a6fdaf2) (fun _ h9 => h9) rfl dObjects_put_56 ?_
  refine lv_topi (fun v41 ev41 => ?_)
  refine lv_iconst (v := 1) hx hb dObjects_put_59 (by decide) ?_
  refine lv_iadd hx hb dObjects_put_60 ?_
  refine lv_topi (fun v42 ev42 => ?_)
  have ev42 : v42 = nI (κ 5 + 1) := by rw [ev42, ev41]; exact nI_add (κ 5) (1)
  have hG : INVF γ A (ku κ 14 (wl (κ 14) (κ 5 + 1))) (up φ 5 fc40) ψ _ := (by have h9 := hback (ku κ 14 (wl (κ 14) (κ 5 + 1))) fc40 (ψ 5) _ (fun j h1 h2 h3 f g => by rcases (show j = 1 ∨ j = 2 ∨ j = 3 ∨ j = 4 ∨ j = 5 ∨ j = 6 ∨ j = 7 ∨ j = 8 ∨ j = 9 ∨ j = 10 by omega) with h | h | h | h | h | h | h | h | h | h <;> subst h <;> first | rfl | exact absurd rfl h1) ⟨_, ⟨r31, r35, r39, rfl, (show (κ 5) ≤ (wl (κ 14) (κ 5 + 1)) by omega), (show (wl (κ 14) (κ 5 + 1)) ≤ 8192 by omega), (show 16 ≤ (wl (κ 14) (κ 5 + 1)) by omega)⟩, hP, hD⟩ hfz.1 hfz.2; rw [up_id ψ 5] at h9; exact h9)
  obtain ⟨φ43, eφ43⟩ : ∃ z : gF, z = up φ 5 fc40 := ⟨_, rfl⟩
  rw [← eφ43] at hG
  have hI := inv_of hG
  obtain rfl : v42 = nI (κ 5 + 1) := ev42
  refine mu_Vv (rest := []) S hC (fun q h => hA q (Nat.le_trans hS.1 h)) (fun q h => h) hS (f5_Rows_makeRoom l γ A (ku κ 14 (wl (κ 14) (κ 5 + 1))) φ43 ψ (κ 5 + 1) (by omega)) meRows_makeRoom qw_c89579b831 ⟨Nat.le_of_ble_eq_true rfl, Nat.le_of_ble_eq_true rfl⟩ (rv_5 hC hI) hG rfl hl.1 rfl (Nat.le_of_ble_eq_true rfl) dObjects_put_61 ⟨(by show 0 + wc (κ 14) (κ 5 + 1) + wc (κ 14) (κ 5 + 1) + wc (κ 14) (κ 5 + 1) + (wc (κ 8) (κ 5 + 1)) ≤ 0 + wc (κ 14) (κ 5 + 1) + wc (κ 14) (κ 5 + 1) + wc (κ 14) (κ 5 + 1) + wc (κ 8) (κ 5 + 1); omega), (by show 0 + wm (κ 14) (κ 5 + 1) + wm (κ 14) (κ 5 + 1) + wm (κ 14) (κ 5 + 1) + (4 * wm (κ 8) (κ 5 + 1)) ≤ 0 + wm (κ 14) (κ 5 + 1) + wm (κ 14) (κ 5 + 1) + wm (κ 14) (κ 5 + 1) + 4 * wm (κ 8) (κ 5 + 1); omega)⟩ (fun H locs hG hS _ _ => ?_)
  refine W.cs (cells' := 0 + wc (κ 14) (κ 5 + 1) + wc (κ 14) (κ 5 + 1) + wc (κ 14) (κ 5 + 1) + (wc (κ 8) (κ 5 + 1))) (slots' := 0 + wm (κ 14) (κ 5 + 1) + wm (κ 14) (κ 5 + 1) + wm (κ 14) (κ 5 + 1) + (4 * wm (κ 8) (κ 5 + 1))) rfl rfl ?_
  have hG : INVF γ A (ku (ku κ 14 (wl (κ 14) (κ 5 + 1))) 8 (wl (κ 8) (κ 5 + 1))) φ43 (up ψ 6 (P_Rows_makeRoom ((κ 8)) (ψ 6) (κ 5 + 1))) _ := hG
  obtain ⟨ψ45, eψ45⟩ : ∃ z : gG, z = up ψ 6 (P_Rows_makeRoom ((κ 8)) (ψ 6) (κ 5 + 1)) := ⟨_, rfl⟩
  rw [← eψ45] at hG
  have hI := inv_of hG
  refine lv_aload_n hx hb dObjects_put_64 rfl (lv_at hl 0 rfl) ?_
  obtain ⟨Z_4, ⟨ws_4, ⟨b0_4, b1_4, b2_4, rfl, h1_4, h2_4, h3_4⟩, hP, hD⟩, hZn, hZA, hback⟩ := ing_lift hG (fun q h => hA q (Nat.le_trans hS.1 h)) 5 (by decide) (by decide)
  have hP : va_P γ.1 vwCl [(γ.2.2.2 4, .inr (4, [.ref b0_4, .ref b1_4, .ref b2_4, .ref (γ.2.2.2 5), .int (nI (κ 5))])), (b0_4, .inl (γ.2.1, (wl (κ 14) (κ 5 + 1)), .inl ((φ43 5) 0))), (b1_4, .inl (γ.2.1, (wl (κ 14) (κ 5 + 1)), .inl ((φ43 5) 1))), (b2_4, .inl (γ.2.1, (wl (κ 14) (κ 5 + 1)), .inl ((φ43 5) 2)))] _ := hP
  have hD : va_D Z_4 [(γ.2.2.2 4, .inr (4, [.ref b0_4, .ref b1_4, .ref b2_4, .ref (γ.2.2.2 5), .int (nI (κ 5))])), (b0_4, .inl (γ.2.1, (wl (κ 14) (κ 5 + 1)), .inl ((φ43 5) 0))), (b1_4, .inl (γ.2.1, (wl (κ 14) (κ 5 + 1)), .inl ((φ43 5) 1))), (b2_4, .inl (γ.2.1, (wl (κ 14) (κ 5 + 1)), .inl ((φ43 5) 2)))] := hD
  have hfz := fz.rf Z_4 (H := _) hP
  refine va_get (D := γ.1) (ci := 4) (v := .ref b0_4) (C := R_Objects) (T := T_Objects) (N := 5) (Ts := bs_W0) hx hb hW in_Objects hown hC.1 hP 0 rfl rfl 0 (by decide) (hW _ qw_bb1fa418e1) (fun _ h9 => h9) rfl dObjects_put_65 ?_
  refine lv_aload_n hx hb dObjects_put_68 rfl (lv_at hl 0 rfl) ?_
  refine va_get (D := γ.1) (ci := 4) (v := .int (nI (κ 5))) (C := R_Objects) (T := T_Objects) (N := 5) (Ts := bs_W0) hx hb hW in_Objects hown hC.1 hP 0 rfl rfl 4 (by decide) (hW _ qw_1a9a6fdaf2) (fun _ h9 => h9) rfl dObjects_put_69 ?_
  refine lv_topi (fun v46 ev46 => ?_)
  refine lv_iload_n hx hb dObjects_put_72 rfl (lv_at hl 1 rfl) ?_
  refine st_iast hx hb hC.1 hP hD hZA hS 1 0 rfl rfl (by rw [ev46]; exact in_sz (by omega) (by omega)) dObjects_put_73 (fun H locs hP1 hD1 hS hz ho => ?_)
  have hfz := hfz.put hz ho (hD.2 1 _ rfl)
  have hP := hP1
  have hD := hD1
  obtain ⟨fc47, efc47⟩ : ∃ z : gf, z = Au (φ43 5) 0 v46.toNatClampNeg x1 := ⟨_, rfl⟩
  have hP : va_P γ.1 vwCl [(γ.2.2.2 4, .inr (4, [.ref b0_4, .ref b1_4, .ref b2_4, .ref (γ.2.2.2 5), .int (nI (κ 5))])), (b0_4, .inl (γ.2.1, (wl (κ 14) (κ 5 + 1)), .inl (fc47 0))), (b1_4, .inl (γ.2.1, (wl (κ 14) (κ 5 + 1)), .inl (fc47 1))), (b2_4, .inl (γ.2.1, (wl (κ 14) (κ 5 + 1)), .inl (fc47 2)))] _ := (by rw [efc47]; exact hP)
  have hD : va_D Z_4 [(γ.2.2.2 4, .inr (4, [.ref b0_4, .ref b1_4, .ref b2_4, .ref (γ.2.2.2 5), .int (nI (κ 5))])), (b0_4, .inl (γ.2.1, (wl (κ 14) (κ 5 + 1)), .inl (fc47 0))), (b1_4, .inl (γ.2.1, (wl (κ 14) (κ 5 + 1)), .inl (fc47 1))), (b2_4, .inl (γ.2.1, (wl (κ 14) (κ 5 + 1)), .inl (fc47 2)))] := (by rw [efc47]; exact hD)
  refine lv_aload_n hx hb dObjects_put_74 rfl (lv_at hl 0 rfl) ?_
  refine va_get (D := γ.1) (ci := 4) (v := .ref b1_4) (C := R_Objects) (T := T_Objects) (N := 5) (Ts := bs_W0) hx hb hW in_Objects hown hC.1 hP 0 rfl rfl 1 (by decide) (hW _ qw_541217fbcc) (fun _ h9 => h9) rfl dObjects_put_75 ?_
  refine lv_aload_n hx hb dObjects_put_78 rfl (lv_at hl 0 rfl) ?_
  refine va_get (D := γ.1) (ci := 4) (v := .int (nI (κ 5))) (C := R_Objects) (T := T_Objects) (N := 5) (Ts := bs_W0) hx hb hW in_Objects hown hC.1 hP 0 rfl rfl 4 (by decide) (hW _ qw_1a9a6fdaf2) (fun _ h9 => h9) rfl dObjects_put_79 ?_
  refine lv_topi (fun v48 ev48 => ?_)
  refine lv_iload_n hx hb dObjects_put_82 rfl (lv_at hl 2 rfl) ?_
  refine st_iast hx hb hC.1 hP hD hZA hS 2 0 rfl rfl (by rw [ev48]; exact in_sz (by omega) (by omega)) dObjects_put_83 (fun H locs hP1 hD1 hS hz ho => ?_)
  have hfz := hfz.put hz ho (hD.2 2 _ rfl)
  have hP := hP1
  have hD := hD1
  obtain ⟨fc49, efc49⟩ : ∃ z : gf, z = Au fc47 1 v48.toNatClampNeg x2 := ⟨_, rfl⟩
  have hP : va_P γ.1 vwCl [(γ.2.2.2 4, .inr (4, [.ref b0_4, .ref b1_4, .ref b2_4, .ref (γ.2.2.2 5), .int (nI (κ 5))])), (b0_4, .inl (γ.2.1, (wl (κ 14) (κ 5 + 1)), .inl (fc49 0))), (b1_4, .inl (γ.2.1, (wl (κ 14) (κ 5 + 1)), .inl (fc49 1))), (b2_4, .inl (γ.2.1, (wl (κ 14) (κ 5 + 1)), .inl (fc49 2)))] _ := (by rw [efc49]; exact hP)
  have hD : va_D Z_4 [(γ.2.2.2 4, .inr (4, [.ref b0_4, .ref b1_4, .ref b2_4, .ref (γ.2.2.2 5), .int (nI (κ 5))])), (b0_4, .inl (γ.2.1, (wl (κ 14) (κ 5 + 1)), .inl (fc49 0))), (b1_4, .inl (γ.2.1, (wl (κ 14) (κ 5 + 1)), .inl (fc49 1))), (b2_4, .inl (γ.2.1, (wl (κ 14) (κ 5 + 1)), .inl (fc49 2)))] := (by rw [efc49]; exact hD)
  refine lv_aload_n hx hb dObjects_put_84 rfl (lv_at hl 0 rfl) ?_
  refine va_get (D := γ.1) (ci := 4) (v := .ref b2_4) (C := R_Objects) (T := T_Objects) (N := 5) (Ts := bs_W0) hx hb hW in_Objects hown hC.1 hP 0 rfl rfl 2 (by decide) (hW _ qw_0ed5786ef0) (fun _ h9 => h9) rfl dObjects_put_85 ?_
  refine lv_aload_n hx hb dObjects_put_88 rfl (lv_at hl 0 rfl) ?_
  refine va_get (D := γ.1) (ci := 4) (v := .int (nI (κ 5))) (C := R_Objects) (T := T_Objects) (N := 5) (Ts := bs_W0) hx hb hW in_Objects hown hC.1 hP 0 rfl rfl 4 (by decide) (hW _ qw_1a9a6fdaf2) (fun _ h9 => h9) rfl dObjects_put_89 ?_
  refine lv_topi (fun v50 ev50 => ?_)
  refine lv_iconst (v := 0) hx hb dObjects_put_92 (by decide) ?_
  refine st_iast hx hb hC.1 hP hD hZA hS 3 0 rfl rfl (by rw [ev50]; exact in_sz (by omega) (by omega)) dObjects_put_93 (fun H locs hP1 hD1 hS hz ho => ?_)
  have hfz := hfz.put hz ho (hD.2 3 _ rfl)
  have hP := hP1
  have hD := hD1
  obtain ⟨fc51, efc51⟩ : ∃ z : gf, z = Au fc49 2 v50.toNatClampNeg 0 := ⟨_, rfl⟩
  have hP : va_P γ.1 vwCl [(γ.2.2.2 4, .inr (4, [.ref b0_4, .ref b1_4, .ref b2_4, .ref (γ.2.2.2 5), .int (nI (κ 5))])), (b0_4, .inl (γ.2.1, (wl (κ 14) (κ 5 + 1)), .inl (fc51 0))), (b1_4, .inl (γ.2.1, (wl (κ 14) (κ 5 + 1)), .inl (fc51 1))), (b2_4, .inl (γ.2.1, (wl (κ 14) (κ 5 + 1)), .inl (fc51 2)))] _ := (by rw [efc51]; exact hP)
  have hD : va_D Z_4 [(γ.2.2.2 4, .inr (4, [.ref b0_4, .ref b1_4, .ref b2_4, .ref (γ.2.2.2 5), .int (nI (κ 5))])), (b0_4, .inl (γ.2.1, (wl (κ 14) (κ 5 + 1)), .inl (fc51 0))), (b1_4, .inl (γ.2.1, (wl (κ 14) (κ 5 + 1)), .inl (fc51 1))), (b2_4, .inl (γ.2.1, (wl (κ 14) (κ 5 + 1)), .inl (fc51 2)))] := (by rw [efc51]; exact hD)
  refine lv_aload_n hx hb dObjects_put_94 rfl (lv_at hl 0 rfl) ?_
  refine lv_dup hx hb dObjects_put_95 rfl ?_
  refine va_get (D := γ.1) (ci := 4) (v := .int (nI (κ 5))) (C := R_Objects) (T := T_Objects) (N := 5) (Ts := bs_W0) hx hb hW in_Objects hown hC.1 hP 0 rfl rfl 4 (by decide) (hW _ qw_1a9a6fdaf2) (fun _ h9 => h9) rfl dObjects_put_96 ?_
  refine lv_topi (fun v52 ev52 => ?_)
  refine lv_iconst (v := 1) hx hb dObjects_put_99 (by decide) ?_
  refine lv_iadd hx hb dObjects_put_100 ?_
  refine lv_topi (fun v53 ev53 => ?_)
  have ev53 : v53 = nI (κ 5 + 1) := by rw [ev53, ev52]; exact nI_add (κ 5) (1)
  obtain rfl : v53 = nI (κ 5 + 1) := ev53
  refine st_put (D := γ.1) (ci := 4) (v := .int (nI (κ 5 + 1))) (ty := .int) (C := R_Objects) (T := T_Objects) (N := 5) (Ts := bs_W0) hx hb hW in_Objects t_Objects t_Objects_ok n_Objects hown hC.1 hP hD hZA hS 0 rfl rfl 4 (by decide) (hW _ qw_1a9a6fdaf2) (fun _ h9 => h9) rfl (by decide +kernel) rfl rfl (Nat.le_of_ble_eq_true rfl) dObjects_put_101 (fun H locs hP1 hD1 hS hz ho => ?_)
  have hfz := hfz.put hz ho (hD.2 0 _ rfl)
  have hP := hP1
  have hD := hD1
  have hP : va_P γ.1 vwCl [(γ.2.2.2 4, .inr (4, [.ref b0_4, .ref b1_4, .ref b2_4, .ref (γ.2.2.2 5), .int (nI (κ 5 + 1))])), (b0_4, .inl (γ.2.1, (wl (κ 14) (κ 5 + 1)), .inl (fc51 0))), (b1_4, .inl (γ.2.1, (wl (κ 14) (κ 5 + 1)), .inl (fc51 1))), (b2_4, .inl (γ.2.1, (wl (κ 14) (κ 5 + 1)), .inl (fc51 2)))] _ := hP
  have hD : va_D Z_4 [(γ.2.2.2 4, .inr (4, [.ref b0_4, .ref b1_4, .ref b2_4, .ref (γ.2.2.2 5), .int (nI (κ 5 + 1))])), (b0_4, .inl (γ.2.1, (wl (κ 14) (κ 5 + 1)), .inl (fc51 0))), (b1_4, .inl (γ.2.1, (wl (κ 14) (κ 5 + 1)), .inl (fc51 1))), (b2_4, .inl (γ.2.1, (wl (κ 14) (κ 5 + 1)), .inl (fc51 2)))] := hD
  refine lv_aload_n hx hb dObjects_put_104 rfl (lv_at hl 0 rfl) ?_
  refine va_get (D := γ.1) (ci := 4) (v := .int (nI (κ 5 + 1))) (C := R_Objects) (T := T_Objects) (N := 5) (Ts := bs_W0) hx hb hW in_Objects hown hC.1 hP 0 rfl rfl 4 (by decide) (hW _ qw_1a9a6fdaf2) (fun _ h9 => h9) rfl dObjects_put_105 ?_
  refine lv_topi (fun v54 ev54 => ?_)
  refine lv_iconst (v := 1) hx hb dObjects_put_108 (by decide) ?_
  refine lv_isub hx hb dObjects_put_109 ?_
  refine lv_topi (fun v55 ev55 => ?_)
  have ev55 : v55 = nI (κ 5) := by rw [ev55, ev54]; exact nI_pred (κ 5)
  have hG : INVF γ A (ku (ku (ku (ku κ 14 (wl (κ 14) (κ 5 + 1))) 8 (wl (κ 8) (κ 5 + 1))) 5 (κ 5 + 1)) 14 ((wl (κ 14) (κ 5 + 1)))) (up φ43 5 fc51) ψ45 _ := (by have h9 := hback (ku (ku (ku (ku κ 14 (wl (κ 14) (κ 5 + 1))) 8 (wl (κ 8) (κ 5 + 1))) 5 (κ 5 + 1)) 14 ((wl (κ 14) (κ 5 + 1)))) fc51 (ψ45 5) _ (fun j h1 h2 h3 f g => by rcases (show j = 1 ∨ j = 2 ∨ j = 3 ∨ j = 4 ∨ j = 5 ∨ j = 6 ∨ j = 7 ∨ j = 8 ∨ j = 9 ∨ j = 10 by omega) with h | h | h | h | h | h | h | h | h | h <;> subst h <;> first | rfl | exact absurd rfl h1) ⟨_, ⟨b0_4, b1_4, b2_4, rfl, (show (κ 5 + 1) ≤ (wl (κ 14) (κ 5 + 1)) by omega), (show (wl (κ 14) (κ 5 + 1)) ≤ 8192 by omega), (show 16 ≤ (wl (κ 14) (κ 5 + 1)) by omega)⟩, hP, hD⟩ hfz.1 hfz.2; rw [up_id ψ45 5] at h9; exact h9)
  obtain ⟨φ56, eφ56⟩ : ∃ z : gF, z = up φ43 5 fc51 := ⟨_, rfl⟩
  rw [← eφ56] at hG
  have hI := inv_of hG
  have hG : INVF γ A (ku (ku (ku κ 14 (wl (κ 14) (κ 5 + 1))) 8 (wl (κ 8) (κ 5 + 1))) 5 (κ 5 + 1)) φ56 ψ45 _ := hG
  have hQ := hE _ _ _ 110 ls hS (by have hO2 : Oq OUT (v55, φ56, ψ45) := (by subst eφ56 ev55 ev54 ev52 efc51 ev50 efc49 ev48 efc47 ev46 eψ45 eφ43 ev41 efc40 ev37 efc36 ev33 efc32 ev29; exact hO.tr rfl); rw [hO2.eq]; exact ⟨rfl, hG⟩) dObjects_put_110
  refine W.cs (cells' := 0 + wc (κ 14) (κ 5 + 1) + wc (κ 14) (κ 5 + 1) + wc (κ 14) (κ 5 + 1) + wc (κ 8) (κ 5 + 1)) (slots' := 0 + wm (κ 14) (κ 5 + 1) + wm (κ 14) (κ 5 + 1) + wm (κ 14) (κ 5 + 1) + 4 * wm (κ 8) (κ 5 + 1)) (by omega) (by omega) ?_
  exact hQ
