theorem qw_d6d88c6903 : (Cond.methodLink R_Rows 3 Lib.objectInit) ∈ bs_W0 := bs_in (in_tables_1_1 (List.mem_of_getElem? (i := 169) rfl)) rfl
set_option maxHeartbeats 4000000 in
set_option maxRecDepth 100000 in
theorem i_Rows (l : Launch) (γ : gE) (s0 : State) (hw0 : SW s0) (a : Nat) (H0 : Heap) (N : Nat) (hN : 16 ≤ N ∧ N ≤ 8192) : MS l yRows_init bRows_init 2 none 1 14 1 (4 * N) [.ref a, .int (nI N)] γ (fun q => a ≤ q) (ct_P s0 a H0 γ [(a, .inr (5, [.null]))]) (mQv (fun H => cmp γ (fRows γ a N) (iv a (a + 2)) H ∧ H.size = a + 2) (fun q => a ≤ q)) := by
  refine ms_openV (by decide) (Nat.le_of_ble_eq_true rfl) ?_
  intro p e s m args below meth c ls Q S hnm hC hA hPS hE hl
  obtain ⟨⟨hF0, hA1⟩, hH0, hz, hP⟩ := hPS
  subst hH0
  have hA0 : ∀ q, a ≤ q → s0.heap.size ≤ q := fun q h => Nat.le_trans hA1 h
  have hA : ∀ q, s.heap.size ≤ q → a ≤ q := hA
  obtain ⟨hx, hb, hml, hown, hW⟩ := id S
  have hS : va_S (fun q => a ≤ q) s.heap s.heap [] := va_S.rf
  have hD : va_D (fun q => a ≤ q) [(a, .inr (5, [.null]))] := one_D (Nat.le_refl a)
  have hl : lv_has ls 2 [(0, .ref a), (1, .int (nI N))] := hl
  refine lv_aload_n hx hb dRows_init_0 rfl (lv_at hl 0 rfl) ?_
  refine W.objInit hx hb hown (hW _ qw_d6d88c6903) (hW _ qw_aaa073e22d) (hW _ qc_obj) rfl (hl.1.trans hml.symm) rfl dRows_init_1 (Nat.le_of_ble_eq_true rfl) (Nat.le_of_ble_eq_true rfl) ?_
  refine lv_aload_n hx hb dRows_init_4 rfl (lv_at hl 0 rfl) ?_
  refine lv_iload_n hx hb dRows_init_5 rfl (lv_at hl 1 rfl) ?_
  refine lv_iconst (v := 1) hx hb dRows_init_6 (by decide) ?_
  refine va_mmax (rest := [.ref a]) hx hb (hml.trans hl.1.symm) hown (hW _ qw_d78519f1e2) (hW _ qw_7cc87a9f9b) (hW _ qw_0001fcaade) (hW _ qw_6b973c1ba4) (Nat.le_of_ble_eq_true rfl) (Nat.le_of_ble_eq_true rfl) (Nat.zero_le _) (Nat.zero_le _) dRows_init_7 ?_
  refine lv_topi (fun v3 ev3 => ?_)
  refine lv_iconst (v := 4) hx hb dRows_init_10 (by decide) ?_
  refine lv_imul hx hb dRows_init_11 ?_
  refine lv_topi (fun v4 ev4 => ?_)
  refine cw_newl S hC qw_6933bd775d hP hD hS hA hz (4 * N) (by rw [ev4, ev3]; exact rows_len hN.1 hN.2) (by omega) (Nat.le_of_ble_eq_true rfl) (by show 0 + (4 * N) ≤ 4 * N; omega) dRows_init_12 (fun H hP hD hS hz hk9 => ?_)
  have hz : H.size = a + 2 := hz
  have hP : va_P γ.1 vwCl [(a, .inr (5, [.null])), (a + 1, .inl (γ.2.2.1, (4 * N), .inr (.inl (fun _ => 0))))] _ := hP
  have hD : va_D _ [(a, .inr (5, [.null])), (a + 1, .inl (γ.2.2.1, (4 * N), .inr (.inl (fun _ => 0))))] := hD
  refine st_put (D := γ.1) (ci := 5) (v := .ref (a + 1)) (ty := .array .long) (C := R_Rows) (T := T_Rows) (N := 1) (Ts := bs_W0) hx hb hW in_Rows t_Rows t_Rows_ok n_Rows hown hC.1 hP hD (fun q h => h) hS 0 rfl rfl 0 (by decide) (hW _ qw_05e9c8a29d) (fun _ h9 => h9) rfl (by decide +kernel) rfl rfl (Nat.le_of_ble_eq_true rfl) dRows_init_14 (fun H locs hP hD hS hz9 ho9 => ?_)
  have hz : H.size = a + 2 := hz9.trans hz
  have hP : va_P γ.1 vwCl [(a, .inr (5, [.ref (a + 1)])), (a + 1, .inl (γ.2.2.1, (4 * N), .inr (.inl (fun _ => 0))))] _ := hP
  have hD : va_D _ [(a, .inr (5, [.ref (a + 1)])), (a + 1, .inl (γ.2.2.1, (4 * N), .inr (.inl (fun _ => 0))))] := hD
  refine hE _ _ _ _ _ _ hS (by show 0 + 1 ≤ 1; omega) (by show 0 + (4 * N) ≤ 4 * N; omega) (fun hG => ?_) dRows_init_17
  exact ⟨iv_of ⟨_, ⟨a + 1, fun _ => 0, rfl, by omega, by omega⟩, hP, hD⟩ hz, hz⟩
