theorem qw_2b2a75b8f6 : (Cond.methodLink R_Looker 3 Lib.objectInit) ∈ bs_W0 := bs_in (in_tables_1_1 (List.mem_of_getElem? (i := 231) rfl)) rfl
theorem qw_454db93798 : (Cond.classLink R_Looker 9 R_Looks) ∈ bs_W0 := bs_in (in_tables_1_1 (List.mem_of_getElem? (i := 232) rfl)) rfl
theorem qw_a3e5b3d658 : (Cond.instantiable R_Looks 6) ∈ bs_W0 := bs_in (in_tables_1_1 (List.mem_of_getElem? (i := 195) rfl)) rfl
theorem qw_358a8c4edc : (Cond.initialized R_Looks) ∈ bs_W0 := bs_in (in_tables_1_1 (List.mem_of_getElem? (i := 10) rfl)) rfl
theorem qn_fdd2c78d82 : (Cond.methodLinkNest R_Looker 11 yLooks_init "TypeBook") ∈ lw_tbl := in_tables_1_1 (List.mem_of_getElem? (i := 233) rfl)
theorem qw_9ce793e6ad : (Cond.classLink R_Looker 18 R_Operators) ∈ bs_W0 := bs_in (in_tables_1_1 (List.mem_of_getElem? (i := 234) rfl)) rfl
theorem qw_cfbc759d95 : (Cond.instantiable R_Operators 1) ∈ bs_W0 := bs_in (in_tables_1_1 (List.mem_of_getElem? (i := 235) rfl)) rfl
theorem qw_0a13a6b91e : (Cond.initialized R_Operators) ∈ bs_W0 := bs_in (in_tables_1_1 (List.mem_of_getElem? (i := 12) rfl)) rfl
theorem qw_7b20a5654d : (Cond.methodLink R_Looker 20 yOperators_init) ∈ bs_W0 := bs_in (in_tables_1_1 (List.mem_of_getElem? (i := 236) rfl)) rfl
theorem qw_fa988d42dd : (Cond.classLink R_Looker 47 R_Meanings) ∈ bs_W0 := bs_in (in_tables_1_2 (List.mem_of_getElem? (i := 4) rfl)) rfl
theorem qw_61012f5007 : (Cond.instantiable R_Meanings 5) ∈ bs_W0 := bs_in (in_tables_1_2 (List.mem_of_getElem? (i := 5) rfl)) rfl
theorem qw_72455b084c : (Cond.initialized R_Meanings) ∈ bs_W0 := bs_in (in_tables_1_1 (List.mem_of_getElem? (i := 13) rfl)) rfl
theorem qw_bb1f1c5b2b : (Cond.methodLink R_Looker 49 yMeanings_init) ∈ bs_W0 := bs_in (in_tables_1_2 (List.mem_of_getElem? (i := 6) rfl)) rfl
set_option maxHeartbeats 4000000 in
set_option maxRecDepth 100000 in
theorem i_Looker (l : Launch) (γ : gE) (s0 : State) (hw0 : SW s0) (a : Nat) (H0 : Heap) (t1 : Nat) (t2 : Nat) (t3 : Nat) (t4 : Nat)  : MS l yLooker_init bLooker_init 5 none 3 55 11 653 [.ref a, .ref t1, .ref t2, .ref t3, .ref t4] γ (fun q => a ≤ q) (ct_P s0 a H0 γ [(a, .inr (7, [.null, .null, .null, .null, .null, .null, .null, .int 0]))]) (mQv (fun H => (cmp γ (fun ws => ws = [(a, .inr (7, [.ref t1, .ref t2, .ref t3, .ref (a + 1), .ref (a + 9), .ref (a + 11), .ref (a + 10), .int (-1)]))]) (iv a (a + 1)) H ∧ cmp γ (fLooks γ (a + 1) (a + 7) 64) (iv (a + 1) (a + 7)) H ∧ cmp γ (fRows γ (a + 7) 64) (iv (a + 7) (a + 9)) H ∧ cmp γ (fun ws => ws = [(a + 9, .inr (8, [.ref (a + 1)]))]) (iv (a + 9) (a + 10)) H ∧ cmp γ (fun ws => ws = [(a + 10, .inl (γ.2.1, 64, .inl (fun _ => 0)))]) (iv (a + 10) (a + 11)) H ∧ cmp γ (fun ws => ws = [(a + 11, .inr (9, [.ref t1, .ref t2, .ref t3, .ref t4, .ref (a + 1)]))]) (iv (a + 11) (a + 12)) H) ∧ H.size = a + 12) (fun q => a ≤ q)) := by
  refine ms_openV (by decide) (Nat.le_of_ble_eq_true rfl) ?_
  intro p e s m args below meth c ls Q S hnm hC hA hPS hE hl
  obtain ⟨⟨hF0, hA1⟩, hH0, hz, hP⟩ := hPS
  subst hH0
  have hA0 : ∀ q, a ≤ q → s0.heap.size ≤ q := fun q h => Nat.le_trans hA1 h
  have hA : ∀ q, s.heap.size ≤ q → a ≤ q := hA
  obtain ⟨hx, hb, hml, hown, hW⟩ := id S
  have hS : va_S (fun q => a ≤ q) s.heap s.heap [] := va_S.rf
  have hD : va_D (fun q => a ≤ q) [(a, .inr (7, [.null, .null, .null, .null, .null, .null, .null, .int 0]))] := one_D (Nat.le_refl a)
  have hl : lv_has ls 5 [(0, .ref a), (1, .ref t1), (2, .ref t2), (3, .ref t3), (4, .ref t4)] := hl
  refine lv_aload_n hx hb dLooker_init_0 rfl (lv_at hl 0 rfl) ?_
  refine W.objInit hx hb hown (hW _ qw_2b2a75b8f6) (hW _ qw_aaa073e22d) (hW _ qc_obj) rfl (hl.1.trans hml.symm) rfl dLooker_init_1 (Nat.le_of_ble_eq_true rfl) (Nat.le_of_ble_eq_true rfl) ?_
  refine lv_aload_n hx hb dLooker_init_4 rfl (lv_at hl 0 rfl) ?_
  have hlw1 : ∀ (i : Nat) (x9 : Nat × va_E), ([(a, .inr (7, [.null, .null, .null, .null, .null, .null, .null, .int 0]))] : va_W)[i]? = some x9 → x9.1 < a + 1 := fun i x9 hx9 => by rw [← hz]; exact (hP i x9 hx9).lt
  refine cw_new (fs := [.null, .null, .null, .null, .null, .null]) (C := R_Looks) (T := T_Looks) (N := 6) (ci := 6) S hC in_Looks t_Looks t_Looks_ok qw_454db93798 qw_a3e5b3d658 qw_358a8c4edc rfl (fun j hj => by rcases (show j = 0 ∨ j = 1 ∨ j = 2 ∨ j = 3 ∨ j = 4 ∨ j = 5 by omega) with h | h | h | h | h | h <;> subst h <;> rfl) hP hS hA hz (Nat.le_of_ble_eq_true rfl) (Nat.le_of_ble_eq_true rfl) dLooker_init_5 (fun H hPn hP hS hz hk9 => ?_)
  have hz : H.size = a + 2 := hz
  refine lv_dup hx hb dLooker_init_8 rfl ?_
  refine ms_IN (rest := [.ref (a + 1), .ref a]) S hC (fun q h => Nat.le_trans (by omega) h) (fun q h => Nat.le_trans (by omega) h) hS (i_Looks l γ s0 hw0 (a + 1) _) ct_blind meLooks_init (hC.2 _ qn_fdd2c78d82 rfl) ⟨(Nat.le_of_ble_eq_true rfl), (Nat.le_of_ble_eq_true rfl)⟩ (fun U hU hW9 => ⟨⟨by rw [hU]; exact (hF0.step hA0 hS.1 hS.2.1).warm hW9, by omega⟩, hU, hz, hPn⟩) rfl hl.1 rfl (Nat.le_of_ble_eq_true rfl) dLooker_init_9 ⟨(Nat.le_of_ble_eq_true rfl), (Nat.le_of_ble_eq_true rfl)⟩ (fun H1 locs hPO hS hz9 hk9 => ?_)
  obtain ⟨⟨hc1, hr1⟩, hzn⟩ := hPO
  have hc1 : cmp γ (fLooks γ (a + 1) (a + 7) 64) (iv (a + 1) (a + 7)) H1 := hc1
  have hr1 : cmp γ (fRows γ (a + 7) 64) (iv (a + 7) (a + 9)) H1 := hr1
  have hz : H1.size = a + 9 := hzn
  have hP : va_P γ.1 vwCl [(a, .inr (7, [.null, .null, .null, .null, .null, .null, .null, .int 0]))] H1 := hP.kept (fun i x9 hx9 => hk9 x9.1 (hP i x9 hx9).lt (fun h9 => absurd (hlw1 i x9 hx9) (Nat.not_lt.mpr h9)))
  refine st_putF (D := γ.1) (ci := 7) (v := .ref (a + 1)) (ty := .object "TypeBook$Looks") (C := R_Looker) (T := T_Looker) (N := 8) (Ts := bs_W0) hx hb hW in_Looker t_Looker t_Looker_ok n_Looker hown hC.1 hP hD (fun q h => h) hS 0 rfl rfl 3 (by decide) (hW _ qw_77aeadf252) (fun _ h9 => h9) rfl hnm rfl (by decide +kernel) rfl rfl (Nat.le_of_ble_eq_true rfl) dLooker_init_12 (fun H locs hP hD hS hz9 ho9 => ?_)
  have hz : H.size = a + 9 := hz9.trans hz
  have hP : va_P γ.1 vwCl [(a, .inr (7, [.null, .null, .null, .ref (a + 1), .null, .null, .null, .int 0]))] _ := hP
  have hD : va_D _ [(a, .inr (7, [.null, .null, .null, .ref (a + 1), .null, .null, .null, .int 0]))] := hD
  have hc1 : cmp γ (fLooks γ (a + 1) (a + 7) 64) (iv (a + 1) (a + 7)) _ := iv_kept hc1 (fun q k1 k2 k3 => ho9 q (by omega))
  have hr1 : cmp γ (fRows γ (a + 7) 64) (iv (a + 7) (a + 9)) _ := iv_kept hr1 (fun q k1 k2 k3 => ho9 q (by omega))
  refine lv_aload_n hx hb dLooker_init_15 rfl (lv_at hl 0 rfl) ?_
  have hlw9 : ∀ (i : Nat) (x9 : Nat × va_E), ([(a, .inr (7, [.null, .null, .null, .ref (a + 1), .null, .null, .null, .int 0]))] : va_W)[i]? = some x9 → x9.1 < a + 9 := fun i x9 hx9 => by rw [← hz]; exact (hP i x9 hx9).lt
  refine cw_new (fs := [.null]) (C := R_Operators) (T := T_Operators) (N := 1) (ci := 8) S hC in_Operators t_Operators t_Operators_ok qw_9ce793e6ad qw_cfbc759d95 qw_0a13a6b91e rfl (fun j hj => by obtain rfl : j = 0 := (by omega); rfl) hP hS hA hz (Nat.le_of_ble_eq_true rfl) (Nat.le_of_ble_eq_true rfl) dLooker_init_16 (fun H hPn hP hS hz hk9 => ?_)
  have hz : H.size = a + 10 := hz
  have hc1 : cmp γ (fLooks γ (a + 1) (a + 7) 64) (iv (a + 1) (a + 7)) _ := iv_kept hc1 (fun q k1 k2 k3 => hk9 q (by omega))
  have hr1 : cmp γ (fRows γ (a + 7) 64) (iv (a + 7) (a + 9)) _ := iv_kept hr1 (fun q k1 k2 k3 => hk9 q (by omega))
  refine lv_dup hx hb dLooker_init_19 rfl ?_
  refine lv_aload_n hx hb dLooker_init_20 rfl (lv_at hl 0 rfl) ?_
  refine va_get (D := γ.1) (ci := 7) (v := .ref (a + 1)) (C := R_Looker) (T := T_Looker) (N := 8) (Ts := bs_W0) hx hb hW in_Looker hown hC.1 hP 0 rfl rfl 3 (by decide) (hW _ qw_77aeadf252) (fun _ h9 => h9) rfl dLooker_init_21 ?_
  refine ms_I (rest := [.ref (a + 9), .ref a]) S hC (fun q h => Nat.le_trans (by omega) h) (fun q h => Nat.le_trans (by omega) h) hS (i_Operators l γ s0 hw0 (a + 9) _ (a + 1)) ct_blind meOperators_init qw_7b20a5654d ⟨(Nat.le_of_ble_eq_true rfl), (Nat.le_of_ble_eq_true rfl)⟩ (fun U hU hW9 => ⟨⟨by rw [hU]; exact (hF0.step hA0 hS.1 hS.2.1).warm hW9, by omega⟩, hU, hz, hPn⟩) rfl hl.1 rfl (Nat.le_of_ble_eq_true rfl) dLooker_init_24 ⟨(Nat.le_of_ble_eq_true rfl), (Nat.le_of_ble_eq_true rfl)⟩ (fun H1 locs hPO hS hz9 hk9 => ?_)
  obtain ⟨hc9, hzn⟩ := hPO
  have hc9 : cmp γ (fun ws => ws = [(a + 9, .inr (8, [.ref (a + 1)]))]) (iv (a + 9) (a + 10)) H1 := hc9
  have hz : H1.size = a + 10 := hzn
  have hP : va_P γ.1 vwCl [(a, .inr (7, [.null, .null, .null, .ref (a + 1), .null, .null, .null, .int 0]))] H1 := hP.kept (fun i x9 hx9 => hk9 x9.1 (hP i x9 hx9).lt (fun h9 => absurd (hlw9 i x9 hx9) (Nat.not_lt.mpr h9)))
  have hc1 : cmp γ (fLooks γ (a + 1) (a + 7) 64) (iv (a + 1) (a + 7)) _ := iv_kept hc1 (fun q k1 k2 k3 => hk9 q k3 (by omega))
  have hr1 : cmp γ (fRows γ (a + 7) 64) (iv (a + 7) (a + 9)) _ := iv_kept hr1 (fun q k1 k2 k3 => hk9 q k3 (by omega))
  refine st_putF (D := γ.1) (ci := 7) (v := .ref (a + 9)) (ty := .object "TypeBook$Operators") (C := R_Looker) (T := T_Looker) (N := 8) (Ts := bs_W0) hx hb hW in_Looker t_Looker t_Looker_ok n_Looker hown hC.1 hP hD (fun q h => h) hS 0 rfl rfl 4 (by decide) (hW _ qw_859ddf9a22) (fun _ h9 => h9) rfl hnm rfl (by decide +kernel) rfl rfl (Nat.le_of_ble_eq_true rfl) dLooker_init_27 (fun H locs hP hD hS hz9 ho9 => ?_)
  have hz : H.size = a + 10 := hz9.trans hz
  have hP : va_P γ.1 vwCl [(a, .inr (7, [.null, .null, .null, .ref (a + 1), .ref (a + 9), .null, .null, .int 0]))] _ := hP
  have hD : va_D _ [(a, .inr (7, [.null, .null, .null, .ref (a + 1), .ref (a + 9), .null, .null, .int 0]))] := hD
  have hc1 : cmp γ (fLooks γ (a + 1) (a + 7) 64) (iv (a + 1) (a + 7)) _ := iv_kept hc1 (fun q k1 k2 k3 => ho9 q (by omega))
  have hr1 : cmp γ (fRows γ (a + 7) 64) (iv (a + 7) (a + 9)) _ := iv_kept hr1 (fun q k1 k2 k3 => ho9 q (by omega))
  have hc9 : cmp γ (fun ws => ws = [(a + 9, .inr (8, [.ref (a + 1)]))]) (iv (a + 9) (a + 10)) _ := iv_kept hc9 (fun q k1 k2 k3 => ho9 q (by omega))
  refine lv_aload_n hx hb dLooker_init_30 rfl (lv_at hl 0 rfl) ?_
  refine lv_bipush (v := 64) hx hb dLooker_init_31 (by decide) ?_
  refine cw_newa S hC qw_8e969fb20a hP hD hS hA hz 64 rfl (by omega) (Nat.le_of_ble_eq_true rfl) (Nat.le_of_ble_eq_true rfl) dLooker_init_33 (fun H hP hD hS hz hk9 => ?_)
  have hz : H.size = a + 11 := hz
  have hP : va_P γ.1 vwCl [(a, .inr (7, [.null, .null, .null, .ref (a + 1), .ref (a + 9), .null, .null, .int 0])), (a + 10, .inl (γ.2.1, 64, .inl (fun _ => 0)))] _ := hP
  have hD : va_D _ [(a, .inr (7, [.null, .null, .null, .ref (a + 1), .ref (a + 9), .null, .null, .int 0])), (a + 10, .inl (γ.2.1, 64, .inl (fun _ => 0)))] := hD
  have hc1 : cmp γ (fLooks γ (a + 1) (a + 7) 64) (iv (a + 1) (a + 7)) _ := iv_kept hc1 (fun q k1 k2 k3 => hk9 q (by omega))
  have hr1 : cmp γ (fRows γ (a + 7) 64) (iv (a + 7) (a + 9)) _ := iv_kept hr1 (fun q k1 k2 k3 => hk9 q (by omega))
  have hc9 : cmp γ (fun ws => ws = [(a + 9, .inr (8, [.ref (a + 1)]))]) (iv (a + 9) (a + 10)) _ := iv_kept hc9 (fun q k1 k2 k3 => hk9 q (by omega))
  refine st_put (D := γ.1) (ci := 7) (v := .ref (a + 10)) (ty := .array .int) (C := R_Looker) (T := T_Looker) (N := 8) (Ts := bs_W0) hx hb hW in_Looker t_Looker t_Looker_ok n_Looker hown hC.1 hP hD (fun q h => h) hS 0 rfl rfl 6 (by decide) (hW _ qw_899a0812ea) (fun _ h9 => h9) rfl (by decide +kernel) rfl rfl (Nat.le_of_ble_eq_true rfl) dLooker_init_35 (fun H locs hP hD hS hz9 ho9 => ?_)
  have hz : H.size = a + 11 := hz9.trans hz
  have hP : va_P γ.1 vwCl [(a, .inr (7, [.null, .null, .null, .ref (a + 1), .ref (a + 9), .null, .ref (a + 10), .int 0])), (a + 10, .inl (γ.2.1, 64, .inl (fun _ => 0)))] _ := hP
  have hD : va_D _ [(a, .inr (7, [.null, .null, .null, .ref (a + 1), .ref (a + 9), .null, .ref (a + 10), .int 0])), (a + 10, .inl (γ.2.1, 64, .inl (fun _ => 0)))] := hD
  have hc1 : cmp γ (fLooks γ (a + 1) (a + 7) 64) (iv (a + 1) (a + 7)) _ := iv_kept hc1 (fun q k1 k2 k3 => ho9 q (by omega))
  have hr1 : cmp γ (fRows γ (a + 7) 64) (iv (a + 7) (a + 9)) _ := iv_kept hr1 (fun q k1 k2 k3 => ho9 q (by omega))
  have hc9 : cmp γ (fun ws => ws = [(a + 9, .inr (8, [.ref (a + 1)]))]) (iv (a + 9) (a + 10)) _ := iv_kept hc9 (fun q k1 k2 k3 => ho9 q (by omega))
  refine lv_aload_n hx hb dLooker_init_38 rfl (lv_at hl 0 rfl) ?_
  refine lv_iconst (v := (-1)) hx hb dLooker_init_39 (by decide) ?_
  refine st_put (D := γ.1) (ci := 7) (v := .int (-1)) (ty := .int) (C := R_Looker) (T := T_Looker) (N := 8) (Ts := bs_W0) hx hb hW in_Looker t_Looker t_Looker_ok n_Looker hown hC.1 hP hD (fun q h => h) hS 0 rfl rfl 7 (by decide) (hW _ qw_a0a252684f) (fun _ h9 => h9) rfl (by decide +kernel) rfl rfl (Nat.le_of_ble_eq_true rfl) dLooker_init_40 (fun H locs hP hD hS hz9 ho9 => ?_)
  have hz : H.size = a + 11 := hz9.trans hz
  have hP : va_P γ.1 vwCl [(a, .inr (7, [.null, .null, .null, .ref (a + 1), .ref (a + 9), .null, .ref (a + 10), .int (-1)])), (a + 10, .inl (γ.2.1, 64, .inl (fun _ => 0)))] _ := hP
  have hD : va_D _ [(a, .inr (7, [.null, .null, .null, .ref (a + 1), .ref (a + 9), .null, .ref (a + 10), .int (-1)])), (a + 10, .inl (γ.2.1, 64, .inl (fun _ => 0)))] := hD
  have hc1 : cmp γ (fLooks γ (a + 1) (a + 7) 64) (iv (a + 1) (a + 7)) _ := iv_kept hc1 (fun q k1 k2 k3 => ho9 q (by omega))
  have hr1 : cmp γ (fRows γ (a + 7) 64) (iv (a + 7) (a + 9)) _ := iv_kept hr1 (fun q k1 k2 k3 => ho9 q (by omega))
  have hc9 : cmp γ (fun ws => ws = [(a + 9, .inr (8, [.ref (a + 1)]))]) (iv (a + 9) (a + 10)) _ := iv_kept hc9 (fun q k1 k2 k3 => ho9 q (by omega))
  refine lv_aload_n hx hb dLooker_init_43 rfl (lv_at hl 0 rfl) ?_
  refine lv_aload_n hx hb dLooker_init_44 rfl (lv_at hl 1 rfl) ?_
  refine st_putF (D := γ.1) (ci := 7) (v := .ref t1) (ty := .object "TypeBook$Trees") (C := R_Looker) (T := T_Looker) (N := 8) (Ts := bs_W0) hx hb hW in_Looker t_Looker t_Looker_ok n_Looker hown hC.1 hP hD (fun q h => h) hS 0 rfl rfl 0 (by decide) (hW _ qw_22d2793f25) (fun _ h9 => h9) rfl hnm rfl (by decide +kernel) rfl rfl (Nat.le_of_ble_eq_true rfl) dLooker_init_45 (fun H locs hP hD hS hz9 ho9 => ?_)
  have hz : H.size = a + 11 := hz9.trans hz
  have hP : va_P γ.1 vwCl [(a, .inr (7, [.ref t1, .null, .null, .ref (a + 1), .ref (a + 9), .null, .ref (a + 10), .int (-1)])), (a + 10, .inl (γ.2.1, 64, .inl (fun _ => 0)))] _ := hP
  have hD : va_D _ [(a, .inr (7, [.ref t1, .null, .null, .ref (a + 1), .ref (a + 9), .null, .ref (a + 10), .int (-1)])), (a + 10, .inl (γ.2.1, 64, .inl (fun _ => 0)))] := hD
  have hc1 : cmp γ (fLooks γ (a + 1) (a + 7) 64) (iv (a + 1) (a + 7)) _ := iv_kept hc1 (fun q k1 k2 k3 => ho9 q (by omega))
  have hr1 : cmp γ (fRows γ (a + 7) 64) (iv (a + 7) (a + 9)) _ := iv_kept hr1 (fun q k1 k2 k3 => ho9 q (by omega))
  have hc9 : cmp γ (fun ws => ws = [(a + 9, .inr (8, [.ref (a + 1)]))]) (iv (a + 9) (a + 10)) _ := iv_kept hc9 (fun q k1 k2 k3 => ho9 q (by omega))
  refine lv_aload_n hx hb dLooker_init_48 rfl (lv_at hl 0 rfl) ?_
  refine lv_aload_n hx hb dLooker_init_49 rfl (lv_at hl 2 rfl) ?_
  refine st_putF (D := γ.1) (ci := 7) (v := .ref t2) (ty := .object "TypeBook$Names") (C := R_Looker) (T := T_Looker) (N := 8) (Ts := bs_W0) hx hb hW in_Looker t_Looker t_Looker_ok n_Looker hown hC.1 hP hD (fun q h => h) hS 0 rfl rfl 1 (by decide) (hW _ qw_213d2bb2ac) (fun _ h9 => h9) rfl hnm rfl (by decide +kernel) rfl rfl (Nat.le_of_ble_eq_true rfl) dLooker_init_50 (fun H locs hP hD hS hz9 ho9 => ?_)
  have hz : H.size = a + 11 := hz9.trans hz
  have hP : va_P γ.1 vwCl [(a, .inr (7, [.ref t1, .ref t2, .null, .ref (a + 1), .ref (a + 9), .null, .ref (a + 10), .int (-1)])), (a + 10, .inl (γ.2.1, 64, .inl (fun _ => 0)))] _ := hP
  have hD : va_D _ [(a, .inr (7, [.ref t1, .ref t2, .null, .ref (a + 1), .ref (a + 9), .null, .ref (a + 10), .int (-1)])), (a + 10, .inl (γ.2.1, 64, .inl (fun _ => 0)))] := hD
  have hc1 : cmp γ (fLooks γ (a + 1) (a + 7) 64) (iv (a + 1) (a + 7)) _ := iv_kept hc1 (fun q k1 k2 k3 => ho9 q (by omega))
  have hr1 : cmp γ (fRows γ (a + 7) 64) (iv (a + 7) (a + 9)) _ := iv_kept hr1 (fun q k1 k2 k3 => ho9 q (by omega))
  have hc9 : cmp γ (fun ws => ws = [(a + 9, .inr (8, [.ref (a + 1)]))]) (iv (a + 9) (a + 10)) _ := iv_kept hc9 (fun q k1 k2 k3 => ho9 q (by omega))
  refine lv_aload_n hx hb dLooker_init_53 rfl (lv_at hl 0 rfl) ?_
  refine lv_aload_n hx hb dLooker_init_54 rfl (lv_at hl 3 rfl) ?_
  refine st_putF (D := γ.1) (ci := 7) (v := .ref t3) (ty := .object "TypeBook$Types") (C := R_Looker) (T := T_Looker) (N := 8) (Ts := bs_W0) hx hb hW in_Looker t_Looker t_Looker_ok n_Looker hown hC.1 hP hD (fun q h => h) hS 0 rfl rfl 2 (by decide) (hW _ qw_abb87946e7) (fun _ h9 => h9) rfl hnm rfl (by decide +kernel) rfl rfl (Nat.le_of_ble_eq_true rfl) dLooker_init_55 (fun H locs hP hD hS hz9 ho9 => ?_)
  have hz : H.size = a + 11 := hz9.trans hz
  have hP : va_P γ.1 vwCl [(a, .inr (7, [.ref t1, .ref t2, .ref t3, .ref (a + 1), .ref (a + 9), .null, .ref (a + 10), .int (-1)])), (a + 10, .inl (γ.2.1, 64, .inl (fun _ => 0)))] _ := hP
  have hD : va_D _ [(a, .inr (7, [.ref t1, .ref t2, .ref t3, .ref (a + 1), .ref (a + 9), .null, .ref (a + 10), .int (-1)])), (a + 10, .inl (γ.2.1, 64, .inl (fun _ => 0)))] := hD
  have hc1 : cmp γ (fLooks γ (a + 1) (a + 7) 64) (iv (a + 1) (a + 7)) _ := iv_kept hc1 (fun q k1 k2 k3 => ho9 q (by omega))
  have hr1 : cmp γ (fRows γ (a + 7) 64) (iv (a + 7) (a + 9)) _ := iv_kept hr1 (fun q k1 k2 k3 => ho9 q (by omega))
  have hc9 : cmp γ (fun ws => ws = [(a + 9, .inr (8, [.ref (a + 1)]))]) (iv (a + 9) (a + 10)) _ := iv_kept hc9 (fun q k1 k2 k3 => ho9 q (by omega))
  refine lv_aload_n hx hb dLooker_init_58 rfl (lv_at hl 0 rfl) ?_
  have hlw11 : ∀ (i : Nat) (x9 : Nat × va_E), ([(a, .inr (7, [.ref t1, .ref t2, .ref t3, .ref (a + 1), .ref (a + 9), .null, .ref (a + 10), .int (-1)])), (a + 10, .inl (γ.2.1, 64, .inl (fun _ => 0)))] : va_W)[i]? = some x9 → x9.1 < a + 11 := fun i x9 hx9 => by rw [← hz]; exact (hP i x9 hx9).lt
  refine cw_new (fs := [.null, .null, .null, .null, .null]) (C := R_Meanings) (T := T_Meanings) (N := 5) (ci := 9) S hC in_Meanings t_Meanings t_Meanings_ok qw_fa988d42dd qw_61012f5007 qw_72455b084c rfl (fun j hj => by rcases (show j = 0 ∨ j = 1 ∨ j = 2 ∨ j = 3 ∨ j = 4 by omega) with h | h | h | h | h <;> subst h <;> rfl) hP hS hA hz (Nat.le_of_ble_eq_true rfl) (Nat.le_of_ble_eq_true rfl) dLooker_init_59 (fun H hPn hP hS hz hk9 => ?_)
  have hz : H.size = a + 12 := hz
  have hc1 : cmp γ (fLooks γ (a + 1) (a + 7) 64) (iv (a + 1) (a + 7)) _ := iv_kept hc1 (fun q k1 k2 k3 => hk9 q (by omega))
  have hr1 : cmp γ (fRows γ (a + 7) 64) (iv (a + 7) (a + 9)) _ := iv_kept hr1 (fun q k1 k2 k3 => hk9 q (by omega))
  have hc9 : cmp γ (fun ws => ws = [(a + 9, .inr (8, [.ref (a + 1)]))]) (iv (a + 9) (a + 10)) _ := iv_kept hc9 (fun q k1 k2 k3 => hk9 q (by omega))
  refine lv_dup hx hb dLooker_init_62 rfl ?_
  refine lv_aload_n hx hb dLooker_init_63 rfl (lv_at hl 1 rfl) ?_
  refine lv_aload_n hx hb dLooker_init_64 rfl (lv_at hl 2 rfl) ?_
  refine lv_aload_n hx hb dLooker_init_65 rfl (lv_at hl 3 rfl) ?_
  refine lv_aload hx hb dLooker_init_66 (lv_at hl 4 rfl) ?_
  refine lv_aload_n hx hb dLooker_init_68 rfl (lv_at hl 0 rfl) ?_
  refine va_get (D := γ.1) (ci := 7) (v := .ref (a + 1)) (C := R_Looker) (T := T_Looker) (N := 8) (Ts := bs_W0) hx hb hW in_Looker hown hC.1 hP 0 rfl rfl 3 (by decide) (hW _ qw_77aeadf252) (fun _ h9 => h9) rfl dLooker_init_69 ?_
  refine ms_I (rest := [.ref (a + 11), .ref a]) S hC (fun q h => Nat.le_trans (by omega) h) (fun q h => Nat.le_trans (by omega) h) hS (i_Meanings l γ s0 hw0 (a + 11) _ t1 t2 t3 t4 (a + 1)) ct_blind meMeanings_init qw_bb1f1c5b2b ⟨(Nat.le_of_ble_eq_true rfl), (Nat.le_of_ble_eq_true rfl)⟩ (fun U hU hW9 => ⟨⟨by rw [hU]; exact (hF0.step hA0 hS.1 hS.2.1).warm hW9, by omega⟩, hU, hz, hPn⟩) rfl hl.1 rfl (Nat.le_of_ble_eq_true rfl) dLooker_init_72 ⟨(Nat.le_of_ble_eq_true rfl), (Nat.le_of_ble_eq_true rfl)⟩ (fun H1 locs hPO hS hz9 hk9 => ?_)
  obtain ⟨hc11, hzn⟩ := hPO
  have hc11 : cmp γ (fun ws => ws = [(a + 11, .inr (9, [.ref t1, .ref t2, .ref t3, .ref t4, .ref (a + 1)]))]) (iv (a + 11) (a + 12)) H1 := hc11
  have hz : H1.size = a + 12 := hzn
  have hP : va_P γ.1 vwCl [(a, .inr (7, [.ref t1, .ref t2, .ref t3, .ref (a + 1), .ref (a + 9), .null, .ref (a + 10), .int (-1)])), (a + 10, .inl (γ.2.1, 64, .inl (fun _ => 0)))] H1 := hP.kept (fun i x9 hx9 => hk9 x9.1 (hP i x9 hx9).lt (fun h9 => absurd (hlw11 i x9 hx9) (Nat.not_lt.mpr h9)))
  have hc1 : cmp γ (fLooks γ (a + 1) (a + 7) 64) (iv (a + 1) (a + 7)) _ := iv_kept hc1 (fun q k1 k2 k3 => hk9 q k3 (by omega))
  have hr1 : cmp γ (fRows γ (a + 7) 64) (iv (a + 7) (a + 9)) _ := iv_kept hr1 (fun q k1 k2 k3 => hk9 q k3 (by omega))
  have hc9 : cmp γ (fun ws => ws = [(a + 9, .inr (8, [.ref (a + 1)]))]) (iv (a + 9) (a + 10)) _ := iv_kept hc9 (fun q k1 k2 k3 => hk9 q k3 (by omega))
  refine st_putF (D := γ.1) (ci := 7) (v := .ref (a + 11)) (ty := .object "TypeBook$Meanings") (C := R_Looker) (T := T_Looker) (N := 8) (Ts := bs_W0) hx hb hW in_Looker t_Looker t_Looker_ok n_Looker hown hC.1 hP hD (fun q h => h) hS 0 rfl rfl 5 (by decide) (hW _ qw_3b1b00c0af) (fun _ h9 => h9) rfl hnm rfl (by decide +kernel) rfl rfl (Nat.le_of_ble_eq_true rfl) dLooker_init_75 (fun H locs hP hD hS hz9 ho9 => ?_)
  have hz : H.size = a + 12 := hz9.trans hz
  have hP : va_P γ.1 vwCl [(a, .inr (7, [.ref t1, .ref t2, .ref t3, .ref (a + 1), .ref (a + 9), .ref (a + 11), .ref (a + 10), .int (-1)])), (a + 10, .inl (γ.2.1, 64, .inl (fun _ => 0)))] _ := hP
  have hD : va_D _ [(a, .inr (7, [.ref t1, .ref t2, .ref t3, .ref (a + 1), .ref (a + 9), .ref (a + 11), .ref (a + 10), .int (-1)])), (a + 10, .inl (γ.2.1, 64, .inl (fun _ => 0)))] := hD
  have hc1 : cmp γ (fLooks γ (a + 1) (a + 7) 64) (iv (a + 1) (a + 7)) _ := iv_kept hc1 (fun q k1 k2 k3 => ho9 q (by omega))
  have hr1 : cmp γ (fRows γ (a + 7) 64) (iv (a + 7) (a + 9)) _ := iv_kept hr1 (fun q k1 k2 k3 => ho9 q (by omega))
  have hc9 : cmp γ (fun ws => ws = [(a + 9, .inr (8, [.ref (a + 1)]))]) (iv (a + 9) (a + 10)) _ := iv_kept hc9 (fun q k1 k2 k3 => ho9 q (by omega))
  have hc11 : cmp γ (fun ws => ws = [(a + 11, .inr (9, [.ref t1, .ref t2, .ref t3, .ref t4, .ref (a + 1)]))]) (iv (a + 11) (a + 12)) _ := iv_kept hc11 (fun q k1 k2 k3 => ho9 q (by omega))
  refine hE _ _ _ _ _ _ hS (Nat.le_of_ble_eq_true rfl) (Nat.le_of_ble_eq_true rfl) (fun hG => ?_) dLooker_init_78
  exact ⟨⟨cmp_one hP 0 rfl ⟨Nat.le_refl _, Nat.lt_succ_self _⟩, hc1, hr1, hc9, cmp_one hP 1 rfl ⟨Nat.le_refl _, Nat.lt_succ_self _⟩, hc11⟩, hz⟩
