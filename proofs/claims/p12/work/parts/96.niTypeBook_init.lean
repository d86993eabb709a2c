
set_option maxHeartbeats 4000000 in
set_option maxRecDepth 100000 in
theorem i_TypeBook (l : Launch) (γ : gE) (s0 : State) (hw0 : SW s0) (a : Nat) (H0 : Heap)   : MS l yTypeBook_init bTypeBook_init 1 none 5 149 44 2310 [.ref a] γ (fun q => a ≤ q) (ct_P s0 a H0 γ [(a, .inr (0, [.null, .null, .null, .null, .null, .null, .int 0]))]) (mQv (fun H => INV (γT γ a) (fun q => a ≤ q) κT H ∧ H.size = a + 45) (fun q => a ≤ q)) := by
  refine ms_openV (by decide) (Nat.le_of_ble_eq_true rfl) ?_
  intro p e s m args below meth c ls Q S hnm hC hA hPS hE hl
  obtain ⟨⟨hF0, hA1⟩, hH0, hz, hP⟩ := hPS
  subst hH0
  have hA0 : ∀ q, a ≤ q → s0.heap.size ≤ q := fun q h => Nat.le_trans hA1 h
  have hA : ∀ q, s.heap.size ≤ q → a ≤ q := hA
  obtain ⟨hx, hb, hml, hown, hW⟩ := id S
  have hS : va_S (fun q => a ≤ q) s.heap s.heap [] := va_S.rf
  have hD : va_D (fun q => a ≤ q) [(a, .inr (0, [.null, .null, .null, .null, .null, .null, .int 0]))] := one_D (Nat.le_refl a)
  have hl : lv_has ls 1 [(0, .ref a)] := hl
  refine lv_aload_n hx hb dTypeBook_init_0 rfl (lv_at hl 0 rfl) ?_
  refine W.objInit hx hb hown (hW _ qw_77ca0da9d6) (hW _ qw_aaa073e22d) (hW _ qc_obj) rfl (hl.1.trans hml.symm) rfl dTypeBook_init_1 (Nat.le_of_ble_eq_true rfl) (Nat.le_of_ble_eq_true rfl) ?_
  refine lv_aload_n hx hb dTypeBook_init_4 rfl (lv_at hl 0 rfl) ?_
  have hlw1 : ∀ (i : Nat) (x9 : Nat × va_E), ([(a, .inr (0, [.null, .null, .null, .null, .null, .null, .int 0]))] : va_W)[i]? = some x9 → x9.1 < a + 1 := fun i x9 hx9 => by rw [← hz]; exact (hP i x9 hx9).lt
  refine cw_new (fs := [.null, .null, .null, .null, .int 0, .int 0]) (C := R_Trees) (T := T_Trees) (N := 6) (ci := 1) S hC in_Trees t_Trees t_Trees_ok qw_f6e6c98d3f qw_728b969c31 qw_03679b470b rfl (fun j hj => by rcases (show j = 0 ∨ j = 1 ∨ j = 2 ∨ j = 3 ∨ j = 4 ∨ j = 5 by omega) with h | h | h | h | h | h <;> subst h <;> rfl) hP hS hA hz (Nat.le_of_ble_eq_true rfl) (Nat.le_of_ble_eq_true rfl) dTypeBook_init_5 (fun H hPn hP hS hz hk9 => ?_)
  have hz : H.size = a + 2 := hz
  refine lv_dup hx hb dTypeBook_init_8 rfl ?_
  refine ms_IN (rest := [.ref (a + 1), .ref a]) S hC (fun q h => Nat.le_trans (by omega) h) (fun q h => Nat.le_trans (by omega) h) hS (i_Trees l γ s0 hw0 (a + 1) _) ct_blind meTrees_init (hC.2 _ qn_3f7204588e rfl) ⟨(Nat.le_of_ble_eq_true rfl), (Nat.le_of_ble_eq_true rfl)⟩ (fun U hU hW9 => ⟨⟨by rw [hU]; exact (hF0.step hA0 hS.1 hS.2.1).warm hW9, by omega⟩, hU, hz, hPn⟩) rfl hl.1 rfl (Nat.le_of_ble_eq_true rfl) dTypeBook_init_9 ⟨(Nat.le_of_ble_eq_true rfl), (Nat.le_of_ble_eq_true rfl)⟩ (fun H1 locs hPO hS hz9 hk9 => ?_)
  obtain ⟨hc1, hzn⟩ := hPO
  have hc1 : cmp γ (fTrees γ (a + 1) 0 0 64) (iv (a + 1) (a + 6)) H1 := hc1
  have hz : H1.size = a + 6 := hzn
  have hP : va_P γ.1 vwCl [(a, .inr (0, [.null, .null, .null, .null, .null, .null, .int 0]))] H1 := hP.kept (fun i x9 hx9 => hk9 x9.1 (hP i x9 hx9).lt (fun h9 => absurd (hlw1 i x9 hx9) (Nat.not_lt.mpr h9)))
  refine st_putF (D := γ.1) (ci := 0) (v := .ref (a + 1)) (ty := .object "TypeBook$Trees") (C := R_TypeBook) (T := T_TypeBook) (N := 7) (Ts := bs_W0) hx hb hW in_TypeBook t_TypeBook t_TypeBook_ok n_TypeBook hown hC.1 hP hD (fun q h => h) hS 0 rfl rfl 0 (by decide) (hW _ qw_6151ee7924) (fun _ h9 => h9) rfl hnm rfl (by decide +kernel) rfl rfl (Nat.le_of_ble_eq_true rfl) dTypeBook_init_12 (fun H locs hP hD hS hz9 ho9 => ?_)
  have hz : H.size = a + 6 := hz9.trans hz
  have hP : va_P γ.1 vwCl [(a, .inr (0, [.ref (a + 1), .null, .null, .null, .null, .null, .int 0]))] _ := hP
  have hD : va_D _ [(a, .inr (0, [.ref (a + 1), .null, .null, .null, .null, .null, .int 0]))] := hD
  have hc1 : cmp γ (fTrees γ (a + 1) 0 0 64) (iv (a + 1) (a + 6)) _ := iv_kept hc1 (fun q k1 k2 k3 => ho9 q (by omega))
  refine lv_aload_n hx hb dTypeBook_init_15 rfl (lv_at hl 0 rfl) ?_
  have hlw6 : ∀ (i : Nat) (x9 : Nat × va_E), ([(a, .inr (0, [.ref (a + 1), .null, .null, .null, .null, .null, .int 0]))] : va_W)[i]? = some x9 → x9.1 < a + 6 := fun i x9 hx9 => by rw [← hz]; exact (hP i x9 hx9).lt
  refine cw_new (fs := [.null, .null, .null, .null, .null, .null, .null, .int 0, .int 0]) (C := R_Names) (T := T_Names) (N := 9) (ci := 2) S hC in_Names t_Names t_Names_ok qw_5869ee7718 qw_0fe9ef37a0 qw_59cecfe9cd rfl (fun j hj => by rcases (show j = 0 ∨ j = 1 ∨ j = 2 ∨ j = 3 ∨ j = 4 ∨ j = 5 ∨ j = 6 ∨ j = 7 ∨ j = 8 by omega) with h | h | h | h | h | h | h | h | h <;> subst h <;> rfl) hP hS hA hz (Nat.le_of_ble_eq_true rfl) (Nat.le_of_ble_eq_true rfl) dTypeBook_init_16 (fun H hPn hP hS hz hk9 => ?_)
  have hz : H.size = a + 7 := hz
  have hc1 : cmp γ (fTrees γ (a + 1) 0 0 64) (iv (a + 1) (a + 6)) _ := iv_kept hc1 (fun q k1 k2 k3 => hk9 q (by omega))
  refine lv_dup hx hb dTypeBook_init_19 rfl ?_
  refine ms_I (rest := [.ref (a + 6), .ref a]) S hC (fun q h => Nat.le_trans (by omega) h) (fun q h => Nat.le_trans (by omega) h) hS (i_Names l γ s0 hw0 (a + 6) _) ct_blind meNames_init qw_e3502542dd ⟨(Nat.le_of_ble_eq_true rfl), (Nat.le_of_ble_eq_true rfl)⟩ (fun U hU hW9 => ⟨⟨by rw [hU]; exact (hF0.step hA0 hS.1 hS.2.1).warm hW9, by omega⟩, hU, hz, hPn⟩) rfl hl.1 rfl (Nat.le_of_ble_eq_true rfl) dTypeBook_init_20 ⟨(Nat.le_of_ble_eq_true rfl), (Nat.le_of_ble_eq_true rfl)⟩ (fun H1 locs hPO hS hz9 hk9 => ?_)
  obtain ⟨hc6, hzn⟩ := hPO
  have hc6 : cmp γ (fNames γ (a + 6) 12 1 64) (iv (a + 6) (a + 14)) H1 := hc6
  have hz : H1.size = a + 14 := hzn
  have hP : va_P γ.1 vwCl [(a, .inr (0, [.ref (a + 1), .null, .null, .null, .null, .null, .int 0]))] H1 := hP.kept (fun i x9 hx9 => hk9 x9.1 (hP i x9 hx9).lt (fun h9 => absurd (hlw6 i x9 hx9) (Nat.not_lt.mpr h9)))
  have hc1 : cmp γ (fTrees γ (a + 1) 0 0 64) (iv (a + 1) (a + 6)) _ := iv_kept hc1 (fun q k1 k2 k3 => hk9 q k3 (by omega))
  refine st_putF (D := γ.1) (ci := 0) (v := .ref (a + 6)) (ty := .object "TypeBook$Names") (C := R_TypeBook) (T := T_TypeBook) (N := 7) (Ts := bs_W0) hx hb hW in_TypeBook t_TypeBook t_TypeBook_ok n_TypeBook hown hC.1 hP hD (fun q h => h) hS 0 rfl rfl 1 (by decide) (hW _ qw_a088f6ef48) (fun _ h9 => h9) rfl hnm rfl (by decide +kernel) rfl rfl (Nat.le_of_ble_eq_true rfl) dTypeBook_init_23 (fun H locs hP hD hS hz9 ho9 => ?_)
  have hz : H.size = a + 14 := hz9.trans hz
  have hP : va_P γ.1 vwCl [(a, .inr (0, [.ref (a + 1), .ref (a + 6), .null, .null, .null, .null, .int 0]))] _ := hP
  have hD : va_D _ [(a, .inr (0, [.ref (a + 1), .ref (a + 6), .null, .null, .null, .null, .int 0]))] := hD
  have hc1 : cmp γ (fTrees γ (a + 1) 0 0 64) (iv (a + 1) (a + 6)) _ := iv_kept hc1 (fun q k1 k2 k3 => ho9 q (by omega))
  have hc6 : cmp γ (fNames γ (a + 6) 12 1 64) (iv (a + 6) (a + 14)) _ := iv_kept hc6 (fun q k1 k2 k3 => ho9 q (by omega))
  refine lv_aload_n hx hb dTypeBook_init_26 rfl (lv_at hl 0 rfl) ?_
  have hlw14 : ∀ (i : Nat) (x9 : Nat × va_E), ([(a, .inr (0, [.ref (a + 1), .ref (a + 6), .null, .null, .null, .null, .int 0]))] : va_W)[i]? = some x9 → x9.1 < a + 14 := fun i x9 hx9 => by rw [← hz]; exact (hP i x9 hx9).lt
  refine cw_new (fs := [.null, .null, .null, .null, .int 0]) (C := R_Types) (T := T_Types) (N := 5) (ci := 3) S hC in_Types t_Types t_Types_ok qw_b43be4bd43 qw_3790227522 qw_bdae26afb0 rfl (fun j hj => by rcases (show j = 0 ∨ j = 1 ∨ j = 2 ∨ j = 3 ∨ j = 4 by omega) with h | h | h | h | h <;> subst h <;> rfl) hP hS hA hz (Nat.le_of_ble_eq_true rfl) (Nat.le_of_ble_eq_true rfl) dTypeBook_init_27 (fun H hPn hP hS hz hk9 => ?_)
  have hz : H.size = a + 15 := hz
  have hc1 : cmp γ (fTrees γ (a + 1) 0 0 64) (iv (a + 1) (a + 6)) _ := iv_kept hc1 (fun q k1 k2 k3 => hk9 q (by omega))
  have hc6 : cmp γ (fNames γ (a + 6) 12 1 64) (iv (a + 6) (a + 14)) _ := iv_kept hc6 (fun q k1 k2 k3 => hk9 q (by omega))
  refine lv_dup hx hb dTypeBook_init_30 rfl ?_
  refine ms_I (rest := [.ref (a + 14), .ref a]) S hC (fun q h => Nat.le_trans (by omega) h) (fun q h => Nat.le_trans (by omega) h) hS (i_Types l γ s0 hw0 (a + 14) _) ct_blind meTypes_init qw_bbc4b7e74b ⟨(Nat.le_of_ble_eq_true rfl), (Nat.le_of_ble_eq_true rfl)⟩ (fun U hU hW9 => ⟨⟨by rw [hU]; exact (hF0.step hA0 hS.1 hS.2.1).warm hW9, by omega⟩, hU, hz, hPn⟩) rfl hl.1 rfl (Nat.le_of_ble_eq_true rfl) dTypeBook_init_31 ⟨(Nat.le_of_ble_eq_true rfl), (Nat.le_of_ble_eq_true rfl)⟩ (fun H1 locs hPO hS hz9 hk9 => ?_)
  obtain ⟨hc14, hzn⟩ := hPO
  have hc14 : cmp γ (fTypes γ (a + 14) 5 16) (iv (a + 14) (a + 19)) H1 := hc14
  have hz : H1.size = a + 19 := hzn
  have hP : va_P γ.1 vwCl [(a, .inr (0, [.ref (a + 1), .ref (a + 6), .null, .null, .null, .null, .int 0]))] H1 := hP.kept (fun i x9 hx9 => hk9 x9.1 (hP i x9 hx9).lt (fun h9 => absurd (hlw14 i x9 hx9) (Nat.not_lt.mpr h9)))
  have hc1 : cmp γ (fTrees γ (a + 1) 0 0 64) (iv (a + 1) (a + 6)) _ := iv_kept hc1 (fun q k1 k2 k3 => hk9 q k3 (by omega))
  have hc6 : cmp γ (fNames γ (a + 6) 12 1 64) (iv (a + 6) (a + 14)) _ := iv_kept hc6 (fun q k1 k2 k3 => hk9 q k3 (by omega))
  refine st_putF (D := γ.1) (ci := 0) (v := .ref (a + 14)) (ty := .object "TypeBook$Types") (C := R_TypeBook) (T := T_TypeBook) (N := 7) (Ts := bs_W0) hx hb hW in_TypeBook t_TypeBook t_TypeBook_ok n_TypeBook hown hC.1 hP hD (fun q h => h) hS 0 rfl rfl 2 (by decide) (hW _ qw_393f431be6) (fun _ h9 => h9) rfl hnm rfl (by decide +kernel) rfl rfl (Nat.le_of_ble_eq_true rfl) dTypeBook_init_34 (fun H locs hP hD hS hz9 ho9 => ?_)
  have hz : H.size = a + 19 := hz9.trans hz
  have hP : va_P γ.1 vwCl [(a, .inr (0, [.ref (a + 1), .ref (a + 6), .ref (a + 14), .null, .null, .null, .int 0]))] _ := hP
  have hD : va_D _ [(a, .inr (0, [.ref (a + 1), .ref (a + 6), .ref (a + 14), .null, .null, .null, .int 0]))] := hD
  have hc1 : cmp γ (fTrees γ (a + 1) 0 0 64) (iv (a + 1) (a + 6)) _ := iv_kept hc1 (fun q k1 k2 k3 => ho9 q (by omega))
  have hc6 : cmp γ (fNames γ (a + 6) 12 1 64) (iv (a + 6) (a + 14)) _ := iv_kept hc6 (fun q k1 k2 k3 => ho9 q (by omega))
  have hc14 : cmp γ (fTypes γ (a + 14) 5 16) (iv (a + 14) (a + 19)) _ := iv_kept hc14 (fun q k1 k2 k3 => ho9 q (by omega))
  refine lv_aload_n hx hb dTypeBook_init_37 rfl (lv_at hl 0 rfl) ?_
  have hlw19 : ∀ (i : Nat) (x9 : Nat × va_E), ([(a, .inr (0, [.ref (a + 1), .ref (a + 6), .ref (a + 14), .null, .null, .null, .int 0]))] : va_W)[i]? = some x9 → x9.1 < a + 19 := fun i x9 hx9 => by rw [← hz]; exact (hP i x9 hx9).lt
  refine cw_new (fs := [.null, .null, .null, .null, .int 0]) (C := R_Objects) (T := T_Objects) (N := 5) (ci := 4) S hC in_Objects t_Objects t_Objects_ok qw_cecb0f06f4 qw_faf701598a qw_278e47cc10 rfl (fun j hj => by rcases (show j = 0 ∨ j = 1 ∨ j = 2 ∨ j = 3 ∨ j = 4 by omega) with h | h | h | h | h <;> subst h <;> rfl) hP hS hA hz (Nat.le_of_ble_eq_true rfl) (Nat.le_of_ble_eq_true rfl) dTypeBook_init_38 (fun H hPn hP hS hz hk9 => ?_)
  have hz : H.size = a + 20 := hz
  have hc1 : cmp γ (fTrees γ (a + 1) 0 0 64) (iv (a + 1) (a + 6)) _ := iv_kept hc1 (fun q k1 k2 k3 => hk9 q (by omega))
  have hc6 : cmp γ (fNames γ (a + 6) 12 1 64) (iv (a + 6) (a + 14)) _ := iv_kept hc6 (fun q k1 k2 k3 => hk9 q (by omega))
  have hc14 : cmp γ (fTypes γ (a + 14) 5 16) (iv (a + 14) (a + 19)) _ := iv_kept hc14 (fun q k1 k2 k3 => hk9 q (by omega))
  refine lv_dup hx hb dTypeBook_init_41 rfl ?_
  refine ms_IN (rest := [.ref (a + 19), .ref a]) S hC (fun q h => Nat.le_trans (by omega) h) (fun q h => Nat.le_trans (by omega) h) hS (i_Objects l γ s0 hw0 (a + 19) _) ct_blind meObjects_init (hC.2 _ qn_8cbb55c35c rfl) ⟨(Nat.le_of_ble_eq_true rfl), (Nat.le_of_ble_eq_true rfl)⟩ (fun U hU hW9 => ⟨⟨by rw [hU]; exact (hF0.step hA0 hS.1 hS.2.1).warm hW9, by omega⟩, hU, hz, hPn⟩) rfl hl.1 rfl (Nat.le_of_ble_eq_true rfl) dTypeBook_init_42 ⟨(Nat.le_of_ble_eq_true rfl), (Nat.le_of_ble_eq_true rfl)⟩ (fun H1 locs hPO hS hz9 hk9 => ?_)
  obtain ⟨⟨hc19, hr19⟩, hzn⟩ := hPO
  have hc19 : cmp γ (fObjects γ (a + 19) (a + 23) 0 16) (iv (a + 19) (a + 23)) H1 := hc19
  have hr19 : cmp γ (fRows γ (a + 23) 16) (iv (a + 23) (a + 25)) H1 := hr19
  have hz : H1.size = a + 25 := hzn
  have hP : va_P γ.1 vwCl [(a, .inr (0, [.ref (a + 1), .ref (a + 6), .ref (a + 14), .null, .null, .null, .int 0]))] H1 := hP.kept (fun i x9 hx9 => hk9 x9.1 (hP i x9 hx9).lt (fun h9 => absurd (hlw19 i x9 hx9) (Nat.not_lt.mpr h9)))
  have hc1 : cmp γ (fTrees γ (a + 1) 0 0 64) (iv (a + 1) (a + 6)) _ := iv_kept hc1 (fun q k1 k2 k3 => hk9 q k3 (by omega))
  have hc6 : cmp γ (fNames γ (a + 6) 12 1 64) (iv (a + 6) (a + 14)) _ := iv_kept hc6 (fun q k1 k2 k3 => hk9 q k3 (by omega))
  have hc14 : cmp γ (fTypes γ (a + 14) 5 16) (iv (a + 14) (a + 19)) _ := iv_kept hc14 (fun q k1 k2 k3 => hk9 q k3 (by omega))
  refine st_putF (D := γ.1) (ci := 0) (v := .ref (a + 19)) (ty := .object "TypeBook$Objects") (C := R_TypeBook) (T := T_TypeBook) (N := 7) (Ts := bs_W0) hx hb hW in_TypeBook t_TypeBook t_TypeBook_ok n_TypeBook hown hC.1 hP hD (fun q h => h) hS 0 rfl rfl 3 (by decide) (hW _ qw_ba22bdaa87) (fun _ h9 => h9) rfl hnm rfl (by decide +kernel) rfl rfl (Nat.le_of_ble_eq_true rfl) dTypeBook_init_45 (fun H locs hP hD hS hz9 ho9 => ?_)
  have hz : H.size = a + 25 := hz9.trans hz
  have hP : va_P γ.1 vwCl [(a, .inr (0, [.ref (a + 1), .ref (a + 6), .ref (a + 14), .ref (a + 19), .null, .null, .int 0]))] _ := hP
  have hD : va_D _ [(a, .inr (0, [.ref (a + 1), .ref (a + 6), .ref (a + 14), .ref (a + 19), .null, .null, .int 0]))] := hD
  have hc1 : cmp γ (fTrees γ (a + 1) 0 0 64) (iv (a + 1) (a + 6)) _ := iv_kept hc1 (fun q k1 k2 k3 => ho9 q (by omega))
  have hc6 : cmp γ (fNames γ (a + 6) 12 1 64) (iv (a + 6) (a + 14)) _ := iv_kept hc6 (fun q k1 k2 k3 => ho9 q (by omega))
  have hc14 : cmp γ (fTypes γ (a + 14) 5 16) (iv (a + 14) (a + 19)) _ := iv_kept hc14 (fun q k1 k2 k3 => ho9 q (by omega))
  have hc19 : cmp γ (fObjects γ (a + 19) (a + 23) 0 16) (iv (a + 19) (a + 23)) _ := iv_kept hc19 (fun q k1 k2 k3 => ho9 q (by omega))
  have hr19 : cmp γ (fRows γ (a + 23) 16) (iv (a + 23) (a + 25)) _ := iv_kept hr19 (fun q k1 k2 k3 => ho9 q (by omega))
  refine lv_aload_n hx hb dTypeBook_init_48 rfl (lv_at hl 0 rfl) ?_
  have hlw25 : ∀ (i : Nat) (x9 : Nat × va_E), ([(a, .inr (0, [.ref (a + 1), .ref (a + 6), .ref (a + 14), .ref (a + 19), .null, .null, .int 0]))] : va_W)[i]? = some x9 → x9.1 < a + 25 := fun i x9 hx9 => by rw [← hz]; exact (hP i x9 hx9).lt
  refine cw_new (fs := [.null, .null, .null, .null, .null, .null]) (C := R_Looks) (T := T_Looks) (N := 6) (ci := 6) S hC in_Looks t_Looks t_Looks_ok qw_b3c5038eb4 qw_a3e5b3d658 qw_358a8c4edc rfl (fun j hj => by rcases (show j = 0 ∨ j = 1 ∨ j = 2 ∨ j = 3 ∨ j = 4 ∨ j = 5 by omega) with h | h | h | h | h | h <;> subst h <;> rfl) hP hS hA hz (Nat.le_of_ble_eq_true rfl) (Nat.le_of_ble_eq_true rfl) dTypeBook_init_49 (fun H hPn hP hS hz hk9 => ?_)
  have hz : H.size = a + 26 := hz
  have hc1 : cmp γ (fTrees γ (a + 1) 0 0 64) (iv (a + 1) (a + 6)) _ := iv_kept hc1 (fun q k1 k2 k3 => hk9 q (by omega))
  have hc6 : cmp γ (fNames γ (a + 6) 12 1 64) (iv (a + 6) (a + 14)) _ := iv_kept hc6 (fun q k1 k2 k3 => hk9 q (by omega))
  have hc14 : cmp γ (fTypes γ (a + 14) 5 16) (iv (a + 14) (a + 19)) _ := iv_kept hc14 (fun q k1 k2 k3 => hk9 q (by omega))
  have hc19 : cmp γ (fObjects γ (a + 19) (a + 23) 0 16) (iv (a + 19) (a + 23)) _ := iv_kept hc19 (fun q k1 k2 k3 => hk9 q (by omega))
  have hr19 : cmp γ (fRows γ (a + 23) 16) (iv (a + 23) (a + 25)) _ := iv_kept hr19 (fun q k1 k2 k3 => hk9 q (by omega))
  refine lv_dup hx hb dTypeBook_init_52 rfl ?_
  refine ms_IN (rest := [.ref (a + 25), .ref a]) S hC (fun q h => Nat.le_trans (by omega) h) (fun q h => Nat.le_trans (by omega) h) hS (i_Looks l γ s0 hw0 (a + 25) _) ct_blind meLooks_init (hC.2 _ qn_bac56fcd2e rfl) ⟨(Nat.le_of_ble_eq_true rfl), (Nat.le_of_ble_eq_true rfl)⟩ (fun U hU hW9 => ⟨⟨by rw [hU]; exact (hF0.step hA0 hS.1 hS.2.1).warm hW9, by omega⟩, hU, hz, hPn⟩) rfl hl.1 rfl (Nat.le_of_ble_eq_true rfl) dTypeBook_init_53 ⟨(Nat.le_of_ble_eq_true rfl), (Nat.le_of_ble_eq_true rfl)⟩ (fun H1 locs hPO hS hz9 hk9 => ?_)
  obtain ⟨⟨hc25, hr25⟩, hzn⟩ := hPO
  have hc25 : cmp γ (fLooks γ (a + 25) (a + 31) 64) (iv (a + 25) (a + 31)) H1 := hc25
  have hr25 : cmp γ (fRows γ (a + 31) 64) (iv (a + 31) (a + 33)) H1 := hr25
  have hz : H1.size = a + 33 := hzn
  have hP : va_P γ.1 vwCl [(a, .inr (0, [.ref (a + 1), .ref (a + 6), .ref (a + 14), .ref (a + 19), .null, .null, .int 0]))] H1 := hP.kept (fun i x9 hx9 => hk9 x9.1 (hP i x9 hx9).lt (fun h9 => absurd (hlw25 i x9 hx9) (Nat.not_lt.mpr h9)))
  have hc1 : cmp γ (fTrees γ (a + 1) 0 0 64) (iv (a + 1) (a + 6)) _ := iv_kept hc1 (fun q k1 k2 k3 => hk9 q k3 (by omega))
  have hc6 : cmp γ (fNames γ (a + 6) 12 1 64) (iv (a + 6) (a + 14)) _ := iv_kept hc6 (fun q k1 k2 k3 => hk9 q k3 (by omega))
  have hc14 : cmp γ (fTypes γ (a + 14) 5 16) (iv (a + 14) (a + 19)) _ := iv_kept hc14 (fun q k1 k2 k3 => hk9 q k3 (by omega))
  have hc19 : cmp γ (fObjects γ (a + 19) (a + 23) 0 16) (iv (a + 19) (a + 23)) _ := iv_kept hc19 (fun q k1 k2 k3 => hk9 q k3 (by omega))
  have hr19 : cmp γ (fRows γ (a + 23) 16) (iv (a + 23) (a + 25)) _ := iv_kept hr19 (fun q k1 k2 k3 => hk9 q k3 (by omega))
  refine st_putF (D := γ.1) (ci := 0) (v := .ref (a + 25)) (ty := .object "TypeBook$Looks") (C := R_TypeBook) (T := T_TypeBook) (N := 7) (Ts := bs_W0) hx hb hW in_TypeBook t_TypeBook t_TypeBook_ok n_TypeBook hown hC.1 hP hD (fun q h => h) hS 0 rfl rfl 4 (by decide) (hW _ qw_ce6a8385d0) (fun _ h9 => h9) rfl hnm rfl (by decide +kernel) rfl rfl (Nat.le_of_ble_eq_true rfl) dTypeBook_init_56 (fun H locs hP hD hS hz9 ho9 => ?_)
  have hz : H.size = a + 33 := hz9.trans hz
  have hP : va_P γ.1 vwCl [(a, .inr (0, [.ref (a + 1), .ref (a + 6), .ref (a + 14), .ref (a + 19), .ref (a + 25), .null, .int 0]))] _ := hP
  have hD : va_D _ [(a, .inr (0, [.ref (a + 1), .ref (a + 6), .ref (a + 14), .ref (a + 19), .ref (a + 25), .null, .int 0]))] := hD
  have hc1 : cmp γ (fTrees γ (a + 1) 0 0 64) (iv (a + 1) (a + 6)) _ := iv_kept hc1 (fun q k1 k2 k3 => ho9 q (by omega))
  have hc6 : cmp γ (fNames γ (a + 6) 12 1 64) (iv (a + 6) (a + 14)) _ := iv_kept hc6 (fun q k1 k2 k3 => ho9 q (by omega))
  have hc14 : cmp γ (fTypes γ (a + 14) 5 16) (iv (a + 14) (a + 19)) _ := iv_kept hc14 (fun q k1 k2 k3 => ho9 q (by omega))
  have hc19 : cmp γ (fObjects γ (a + 19) (a + 23) 0 16) (iv (a + 19) (a + 23)) _ := iv_kept hc19 (fun q k1 k2 k3 => ho9 q (by omega))
  have hr19 : cmp γ (fRows γ (a + 23) 16) (iv (a + 23) (a + 25)) _ := iv_kept hr19 (fun q k1 k2 k3 => ho9 q (by omega))
  have hc25 : cmp γ (fLooks γ (a + 25) (a + 31) 64) (iv (a + 25) (a + 31)) _ := iv_kept hc25 (fun q k1 k2 k3 => ho9 q (by omega))
  have hr25 : cmp γ (fRows γ (a + 31) 64) (iv (a + 31) (a + 33)) _ := iv_kept hr25 (fun q k1 k2 k3 => ho9 q (by omega))
  exact W.up (k := 32) (n := 1649) (Nat.le_of_ble_eq_true rfl) (Nat.le_of_ble_eq_true rfl) (i_TypeBook2 l γ s0 hw0 a S hnm hC hF0 hA1 hA hE hl hS hz hP hD hc1 hc6 hc14 hc19 hr19 hc25 hr25)
