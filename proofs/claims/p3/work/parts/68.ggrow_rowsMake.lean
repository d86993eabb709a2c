theorem qw_d78519f1e2 : (Cond.methodLink R_Rows 9 Lib.Math.max.name) ∈ bs_W0 := bs_in (in_tables_1_1 (List.mem_of_getElem? (i := 170) rfl)) rfl
theorem qw_04147e0ed0 : (Cond.methodLink R_Rows 21 yjArrays_copyOfL) ∈ bs_W0 := bs_in (in_tables_1_2 (List.mem_of_getElem? (i := 208) rfl)) rfl
set_option maxHeartbeats 4000000 in
set_option maxRecDepth 100000 in
theorem c_Rows_makeRoom (l : Launch) (γ : gE) (Z : Nat → Prop) (a M N : Nat) (hN : N ≤ 4096) : MU l yRows_makeRoom bRows_makeRoom 2 none 2 82 (wc M N) (4 * wm M N) [.ref a, .int (nI N)] γ Z (cmp γ (fRows γ a M) Z) (mQv (fun H => cmp γ (fRows γ a (wl M N)) Z H) Z) := by
  refine mu_openV (by decide) (Nat.le_of_ble_eq_true rfl) ?_
  intro p e s m args below meth c ls Q S hnm hC hA hI hE hl
  obtain ⟨hx, hb, hml, hown, hW⟩ := id S
  have hS : va_S Z s.heap s.heap [] := va_S.rf
  have hl : lv_has ls 2 [(0, .ref a), (1, .int (nI N))] := hl
  obtain ⟨ws, ⟨b0, g0, rfl, h1, h2⟩, hP, hD⟩ := id hI
  have hP : va_P γ.1 vwCl [(a, .inr (5, [.ref b0])), (b0, .inl (γ.2.2.1, 4 * M, .inr (.inl g0)))] s.heap := hP
  have hD : va_D Z [(a, .inr (5, [.ref b0])), (b0, .inl (γ.2.2.1, 4 * M, .inr (.inl g0)))] := hD
  have e0 : nI N * 4 = nI (4 * N) := by rw [Nat.mul_comm 4 N]; exact pk_mul N 4
  have em : (2 : Int32) * nI (4 * M) = nI (2 * (4 * M)) := pk_mul 2 (4 * M)
  refine lv_iload_n hx hb dRows_makeRoom_0 rfl (lv_at hl 1 rfl) ?_
  refine lv_iconst (v := 4) hx hb dRows_makeRoom_1 (by decide) ?_
  refine lv_imul hx hb dRows_makeRoom_2 ?_
  rw [e0]
  refine lv_aload_n hx hb dRows_makeRoom_3 rfl (lv_at hl 0 rfl) ?_
  refine va_get (D := γ.1) (ci := 5) (v := .ref b0) (C := R_Rows) (T := T_Rows) (N := 1) (Ts := bs_W0) hx hb hW in_Rows hown hC.1 hP 0 rfl rfl 0 (by decide) (hW _ qw_05e9c8a29d) (fun _ h9 => h9) rfl dRows_makeRoom_4 ?_
  refine va_alen hx hb hC.1 hP 1 1 rfl rfl (v := nI (4 * M)) rfl dRows_makeRoom_7 ?_
  refine lv_icmp_le (tgt := 35) hx hb dRows_makeRoom_8 (by decide) (fun c1 => ?_) (fun c1 => ?_)
  · have hle : N ≤ M := by have := (nI_leI (by omega) (by omega)).mp c1; omega
    have e1 : wc M N = 0 := if_pos hle
    have e2 : wm M N = 0 := if_pos hle
    have e3 : wl M N = M := if_pos hle
    rw [e1, e2] at hE ⊢
    rw [e3] at hE
    exact hE _ _ _ _ hS hI dRows_makeRoom_35
  · have hgt : M < N := by
      rcases Nat.lt_or_ge M N with h | h
      · exact h
      · exact absurd ((nI_leI (a := 4 * N) (b := 4 * M) (by omega) (by omega)).mpr (by omega)) c1
    have e1 : wc M N = 1 := if_neg (by omega)
    have e2 : wm M N = max N (2 * M) := if_neg (by omega)
    have e3 : wl M N = max N (2 * M) := if_neg (by omega)
    rw [e1, e2] at hE ⊢
    rw [e3] at hE
    refine lv_aload_n hx hb dRows_makeRoom_11 rfl (lv_at hl 0 rfl) ?_
    refine lv_aload_n hx hb dRows_makeRoom_12 rfl (lv_at hl 0 rfl) ?_
    refine va_get (D := γ.1) (ci := 5) (v := .ref b0) (C := R_Rows) (T := T_Rows) (N := 1) (Ts := bs_W0) hx hb hW in_Rows hown hC.1 hP 0 rfl rfl 0 (by decide) (hW _ qw_05e9c8a29d) (fun _ h9 => h9) rfl dRows_makeRoom_13 ?_
    refine lv_iload_n hx hb dRows_makeRoom_16 rfl (lv_at hl 1 rfl) ?_
    refine lv_iconst (v := 4) hx hb dRows_makeRoom_17 (by decide) ?_
    refine lv_imul hx hb dRows_makeRoom_18 ?_
    rw [e0]
    refine lv_iconst (v := 2) hx hb dRows_makeRoom_19 (by decide) ?_
    refine lv_aload_n hx hb dRows_makeRoom_20 rfl (lv_at hl 0 rfl) ?_
    refine va_get (D := γ.1) (ci := 5) (v := .ref b0) (C := R_Rows) (T := T_Rows) (N := 1) (Ts := bs_W0) hx hb hW in_Rows hown hC.1 hP 0 rfl rfl 0 (by decide) (hW _ qw_05e9c8a29d) (fun _ h9 => h9) rfl dRows_makeRoom_21 ?_
    refine va_alen hx hb hC.1 hP 1 1 rfl rfl (v := nI (4 * M)) rfl dRows_makeRoom_24 ?_
    refine lv_imul hx hb dRows_makeRoom_25 ?_
    rw [em]
    refine va_mmax (rest := [.ref b0, .ref a]) hx hb (hml.trans hl.1.symm) hown (hW _ qw_d78519f1e2) (hW _ qw_7cc87a9f9b) (hW _ qw_0001fcaade) (hW _ qw_6b973c1ba4) (Nat.le_of_ble_eq_true rfl) (Nat.le_of_ble_eq_true rfl) (Nat.zero_le _) (Nat.zero_le _) dRows_makeRoom_26 ?_
    have ek : (if nI (4 * N) < nI (2 * (4 * M)) then nI (2 * (4 * M)) else nI (4 * N)) = nI (4 * max N (2 * M)) := by
      by_cases h : 4 * N < 2 * (4 * M)
      · rw [if_pos (nI_lt h (by omega))]
        congr 1
        omega
      · rw [if_neg (nI_nlt (by omega) (by omega))]
        congr 1
        omega
    rw [ek]
    refine mu_Sr (rest := [.ref a]) S hC (fun q h => hA q h) (fun q h => h) hS (c_copyOfL l γ Z b0 (4 * M) (4 * max N (2 * M)) g0 s.heap (by omega) (by omega)) mejArrays_copyOfL qw_04147e0ed0 ⟨Nat.le_of_ble_eq_true rfl, Nat.le_of_ble_eq_true rfl⟩ ⟨rfl, hD.2 1 _ rfl, hP 1 _ rfl⟩ rfl hl.1 rfl (Nat.le_of_ble_eq_true rfl) dRows_makeRoom_29 ⟨Nat.le_refl _, Nat.le_of_eq (Nat.zero_add _)⟩ (fun r H1 locs hPO hS _ _ => ?_)
    obtain ⟨q1, q2, q3, f', q4, q5⟩ := hPO
    obtain ⟨hP, hD⟩ := wr_join (i := 1) hP hD rfl q3 q4 (Or.inr (Nat.le_of_eq q1.symm)) (hA _ (Nat.le_of_eq q1.symm))
    have hP : va_P γ.1 vwCl [(a, .inr (5, [.ref b0])), (r, .inl (γ.2.2.1, 4 * max N (2 * M), .inr (.inl f')))] H1 := hP
    have hD : va_D Z [(a, .inr (5, [.ref b0])), (r, .inl (γ.2.2.1, 4 * max N (2 * M), .inr (.inl f')))] := hD
    refine va_put (D := γ.1) (ci := 5) (v := .ref r) (ty := .array .long) (C := R_Rows) (T := T_Rows) (N := 1) (Ts := bs_W0) hx hb hW in_Rows t_Rows t_Rows_ok n_Rows hown hC.1 hP hD hS 0 rfl rfl 0 (by decide) (hW _ qw_05e9c8a29d) (fun _ h9 => h9) rfl (by decide +kernel) rfl rfl (Nat.le_of_ble_eq_true rfl) dRows_makeRoom_32 (fun H locs hP hD hS => ?_)
    have hQ := hE _ _ 35 ls hS ⟨_, ⟨r, f', rfl, (by omega), (by omega)⟩, hP, hD⟩ dRows_makeRoom_35
    refine W.cs (cells' := 1) (slots' := 4 * max N (2 * M)) (by omega) (by omega) ?_
    exact hQ
