
theorem tb_skel {γ : gE} {a : Nat} {H : Heap} (hP : va_P γ.1 vwCl [(a, .inr (0, [.ref (a + 1), .ref (a + 6), .ref (a + 14), .ref (a + 19), .ref (a + 25), .ref (a + 33), .int (-1)]))] H)
    (hPo : va_P γ.1 vwCl [(a + 33, .inr (7, [.ref (a + 1), .ref (a + 6), .ref (a + 14), .ref (a + 34), .ref (a + 42), .ref (a + 44), .ref (a + 43), .int (-1)]))] H) (hPm : va_P γ.1 vwCl [(a + 44, .inr (9, [.ref (a + 1), .ref (a + 6), .ref (a + 14), .ref (a + 19), .ref (a + 34)]))] H) (hPp : va_P γ.1 vwCl [(a + 42, .inr (8, [.ref (a + 34)]))] H) (hPh : va_P γ.1 vwCl [(a + 43, .inl (γ.2.1, 64, .inl (fun _ => 0)))] H) : cmp (γT γ a) (fSkel (γT γ a) (oT γ a) 64) (fun q => rhoT a q = 1) H := by
  refine ⟨_, ⟨a + 43, fun _ => 0, -1, -1, rfl, (Nat.le_of_ble_eq_true rfl), (Nat.le_of_ble_eq_true rfl)⟩, ?_, ?_⟩
  · exact va_P_cons (va_P_cons (va_P_cons (va_P_cons hPh (hPm 0 _ rfl)) (hPp 0 _ rfl)) (hPo 0 _ rfl)) (hP 0 _ rfl)
  · refine va_D_cons (va_D_cons (va_D_cons (va_D_cons (one_D (rho_42 ⟨by show a + 42 ≤ a + 43; omega, by show a + 43 < a + 45; omega⟩)) (rho_42 ⟨by show a + 42 ≤ a + 44; omega, by show a + 44 < a + 45; omega⟩) ?_) (rho_42 ⟨by show a + 42 ≤ a + 42; omega, by show a + 42 < a + 45; omega⟩) ?_) (rho_33 ⟨by show a + 33 ≤ a + 33; omega, by show a + 33 < a + 34; omega⟩) ?_) (rho_0 ⟨by show a + 0 ≤ a; omega, by show a < a + 1; omega⟩) ?_ <;> (intro x9 h9; simp only [List.mem_cons, List.not_mem_nil, or_false] at h9)
    · subst h9; show a + 43 ≠ a + 44; omega
    · rcases h9 with rfl | rfl
      · show a + 44 ≠ a + 42; omega
      · show a + 43 ≠ a + 42; omega
    · rcases h9 with rfl | rfl | rfl
      · show a + 42 ≠ a + 33; omega
      · show a + 44 ≠ a + 33; omega
      · show a + 43 ≠ a + 33; omega
    · rcases h9 with rfl | rfl | rfl | rfl
      · show a + 33 ≠ a; omega
      · show a + 42 ≠ a; omega
      · show a + 44 ≠ a; omega
      · show a + 43 ≠ a; omega
theorem qw_2b2a75b8f6 : (Cond.methodLink R_Looker 3 Lib.objectInit) ∈ bs_W0 := bs_in (in_tables_1_1 (List.mem_of_getElem? (i := 231) rfl)) rfl
theorem qw_454db93798 : (Cond.classLink R_Looker 9 R_Looks) ∈ bs_W0 := bs_in (in_tables_1_1 (List.mem_of_getElem? (i := 232) rfl)) rfl
theorem qw_a3e5b3d658 : (Cond.instantiable R_Looks 6) ∈ bs_W0 := bs_in (in_tables_1_1 (List.mem_of_getElem? (i := 195) rfl)) rfl
theorem qw_358a8c4edc : (Cond.initialized R_Looks) ∈ bs_W0 := bs_in (in_tables_1_1 (List.mem_of_getElem? (i := 10) rfl)) rfl
theorem qn_fdd2c78d82 : (Cond.methodLinkNest R_Looker 11 yLooks_init "TypeBook") ∈ lw_tbl := in_tables_1_1 (List.mem_of_getElem? (i := 233) rfl)
theorem qw_9ce793e6ad : (Cond.classLink R_Looker 18 R_Operators) ∈ bs_W0 := bs_in (in_tables_1_1 (List.mem_of_getElem? (i := 234) rfl)) rfl
theorem qw_cfbc759d95 : (Cond.instantiable R_Operators 1) ∈ bs_W0 := bs_in (in_tables_1_1 (List.mem_of_getElem? (i := 235) rfl)) rfl
theorem qw_0a13a6b91e : (Cond.initialized R_Operators) ∈ bs_W0 := bs_in (in_tables_1_1 (List.mem_of_getElem? (i := 12) rfl)) rfl
theorem qw_7b20a5654d : (Cond.methodLink R_Looker 20 yOperators_init) ∈ bs_W0 := bs_in (in_tables_1_1 (List.mem_of_getElem? (i := 236) rfl)) rfl
theorem qw_fa988d42dd : (Cond.classLink R_Looker 47 R_Meanings) ∈ bs_W0 := bs_in (in_tables_1_2 (List.mem_of_getElem? (i := 4) rfl)) rfl
theorem qw_61012f5007 : (Cond.instantiable R_Meanings 5) ∈ bs_W0 := bs_in (in_tables_1_2 (List.mem_of_getElem? (i := 5) rfl)) rfl
theorem qw_72455b084c : (Cond.initialized R_Meanings) ∈ bs_W0 := bs_in (in_tables_1_1 (List.mem_of_getElem? (i := 13) rfl)) rfl
theorem qw_bb1f1c5b2b : (Cond.methodLink R_Looker 49 yMeanings_init) ∈ bs_W0 := bs_in (in_tables_1_2 (List.mem_of_getElem? (i := 6) rfl)) rfl
set_option maxHeartbeats 4000000 in
set_option maxRecDepth 100000 in
theorem i_Looker (l : Launch) (γ : gE) (s0 : State) (hw0 : SW s0) (a : Nat) (H0 : Heap) (t1 : Nat) (t2 : Nat) (t3 : Nat) (t4 : Nat)  : MS l yLooker_init bLooker_init 5 none 3 55 11 653 [.ref a, .ref t1, .ref t2, .ref t3, .ref t4] γ (fun q => a ≤ q) (ct_P s0 a H0 γ [(a, .inr (7, [.null, .null, .null, .null, .null, .null, .null, .int 0]))]) (mQv (fun H => (cmp γ (fun ws => ws = [(a, .inr (7, [.ref t1, .ref t2, .ref t3, .ref (a + 1), .ref (a + 9), .ref (a + 11), .ref (a + 10), .int (-1)]))]) (iv a (a + 1)) H ∧ cmp γ (fLooks γ (a + 1) (a + 7) 64) (iv (a + 1) (a + 7)) H ∧ cmp γ (fRows γ (a + 7) 64) (iv (a + 7) (a + 9)) H ∧ cmp γ (fun ws => ws = [(a + 9, .inr (8, [.ref (a + 1)]))]) (iv (a + 9) (a + 10)) H ∧ cmp γ (fun ws => ws = [(a + 10, .inl (γ.2.1, 64, .inl (fun _ => 0)))]) (iv (a + 10) (a + 11)) H ∧ cmp γ (fun ws => ws = [(a + 11, .inr (9, [.ref t1, .ref t2, .ref t3, .ref t4, .ref (a + 1)]))]) (iv (a + 11) (a + 12)) H) ∧ H.size = a + 12) (fun q => a ≤ q)) := by
  refine ms_openV (by decide) (Nat.le_of_ble_eq_true rfl) ?_
  intro p e s m args below meth c ls Q S hnm hC hA hPS hE hl
  obtain ⟨⟨hF0, hA1⟩, hH0, hz, hP⟩ := hPS
  subst hH0
  have hA0 : ∀ q, a ≤ q → s0.heap.size ≤ q := fun q h => Nat.le_trans hA1 h
  have hA : ∀ q, s.heap.size ≤ q → a ≤ q := hA
  obtain ⟨hx, hb, hml, hown, hW⟩ := id S
  have hS : va_S (fun q => a ≤ q) s.heap s.heap [] := va_S.rf
  have hD : va_D (fun q => a ≤ q) [(a, .inr (7, [.null, .null, .null, .null, .null, .null, .null, .int 0]))] := one_D (Nat.le_refl a)
  have hl : lv_has ls 5 [(0, .ref a), (1, .ref t1), (2, .ref t2), (3, .ref t3), (4, .ref t4)] := hl
  refine lv_aload_n hx hb dLooker_init_0 rfl (lv_at hl 0 rfl) ?_
  refine W.objInit hx hb hown (hW _ qw_2b2a75b8f6) (hW _ qw_aaa073e22d) (hW _ qc_obj) rfl (hl.1.trans hml.symm) rfl dLooker_init_1 (Nat.le_of_ble_eq_true rfl) (Nat.le_of_ble_eq_true rfl) ?_
  refine lv_aload_n hx hb dLooker_init_4 rfl (lv_at hl 0 rfl) ?_
  have hlw1 : ∀ (i : Nat) (x9 : Nat × va_E), ([(a, .inr (7, [.null, .null, .null, .null, .null, .null, .null, .int 0]))] : va_W)[i]? = some x9 → x9.1 < a + 1 := fun i x9 hx9 => by rw [← hz]; exact (hP i x9 hx9).lt
  refine cw_new (fs := [.null, .null, .null, .null, .null, .null]) (C := R_Looks) (T := T_Looks) (N := 6) (ci := 6) S hC in_Looks t_Looks t_Looks_ok qw_454db93798 qw_a3e5b3d658 qw_358a8c4edc rfl (fun j hj => by rcases (show j = 0 ∨ j = 1 ∨ j = 2 ∨ j = 3 ∨ j = 4 ∨ j = 5 by omega) with h | h | h | h | h | h <;> subst h <;> rfl) hP hS hA hz (Nat.le_of_ble_eq_true rfl) (Nat.le_of_ble_eq_true rfl) dLooker_init_5 (fun H hPn hP hS hz hk9 => ?_)
  have hz : H.size = a + 2 := hz
  refine lv_dup hx hb dLooker_init_8 rfl ?_
  refine ms_IN (rest := [.ref (a + 1), .ref a]) S hC (fun q h => Nat.le_trans (by omega) h) (fun q h => Nat.le_trans (by omega) h) hS (i_Looks l γ s0 hw0 (a + 1) _) ct_blind meLooks_init (hC.2 _ qn_fdd2c78d82 rfl) ⟨(Nat.le_of_ble_eq_true rfl), (Nat.le_of_ble_eq_true rfl)⟩ (fun U hU hW9 => ⟨⟨by rw [hU]; exact (hF0.step hA0 hS.1 hS.2.1).warm hW9, by omega⟩, hU, hz, hPn⟩) rfl hl.1 rfl (Nat.le_of_ble_eq_true rfl) dLooker_init_9 ⟨(Nat.le_of_ble_eq_true rfl), (Nat.le_of_ble_eq_true rfl)⟩ (fun H1 locs hPO hS hz9 hk9 => ?_)
  obtain ⟨⟨hc1, hr1⟩, hzn⟩ := hPO
  have hc1 : cmp γ (fLooks γ (a + 1) (a + 7) 64) (iv (a + 1) (a + 7)) H1 := hc1
  have hr1 : cmp γ (fRows γ (a + 7) 64) (iv (a + 7) (a + 9)) H1 := hr1
  have hz : H1.size = a + 9 := hzn
  have hP : va_P γ.1 vwCl [(a, .inr (7, [.null, .null, .null, .null, .null, .null, .null, .int 0]))] H1 := hP.kept (fun i x9 hx9 => hk9 x9.1 (hP i x9 hx9).lt (fun h9 => absurd (hlw1 i x9 hx9) (Nat.not_lt.mpr h9)))
  refine st_putF (D := γ.1) (ci := 7) (v := .ref (a + 1)) (ty := .object "TypeBook$Looks") (C := R_Looker) (T := T_Looker) (N := 8) (Ts := bs_W0) hx hb hW in_Looker t_Looker t_Looker_ok n_Looker hown hC.1 hP hD (fun q h => h) hS 0 rfl rfl 3 (by decide) (hW _ qw_77aeadf252) (fun _ h9 => h9) rfl hnm rfl (by decide +kernel) rfl rfl (Nat.le_of_ble_eq_true rfl) dLooker_init_12 (fun H locs hP hD hS hz9 ho9 => ?_)
  have hz : H.size = a + 9 := hz9.trans hz
  have hP : va_P γ.1 vwCl [(a, .inr (7, [.null, .null, .null, .ref (a + 1), .null, .null, .null, .int 0]))] _ := hP
  have hD : va_D _ [(a, .inr (7, [.null, .null, .null, .ref (a + 1), .null, .null, .null, .int 0]))] := hD
  have hc1 : cmp γ (fLooks γ (a + 1) (a + 7) 64) (iv (a + 1) (a + 7)) _ := iv_kept hc1 (fun q k1 k2 k3 => ho9 q (by omega))
  have hr1 : cmp γ (fRows γ (a + 7) 64) (iv (a + 7) (a + 9)) _ := iv_kept hr1 (fun q k1 k2 k3 => ho9 q (by omega))
  refine lv_aload_n hx hb dLooker_init_15 rfl (lv_at hl 0 rfl) ?_
  have hlw9 : ∀ (i : Nat) (x9 : Nat × va_E), ([(a, .inr (7, [.null, .null, .null, .ref (a + 1), .null, .null, .null, .int 0]))] : va_W)[i]? = some x9 → x9.1 < a + 9 := fun i x9 hx9 => by rw [← hz]; exact (hP i x9 hx9).lt
  refine cw_new (fs := [.null]) (C := R_Operators) (T := T_Operators) (N := 1) (ci := 8) S hC in_Operators t_Operators t_Operators_ok qw_9ce793e6ad qw_cfbc759d95 qw_0a13a6b91e rfl (fun j hj => by obtain rfl : j = 0 := (by omega); rfl) hP hS hA hz (Nat.le_of_ble_eq_true rfl) (Nat.le_of_ble_eq_true rfl) dLooker_init_16 (fun H hPn hP hS hz hk9 => ?_)
  have hz : H.size = a + 10 := hz
  have hc1 : cmp γ (fLooks γ (a + 1) (a + 7) 64) (iv (a + 1) (a + 7)) _ := iv_kept hc1 (fun q k1 k2 k3 => hk9 q (by omega))
  have hr1 : cmp γ (fRows γ (a + 7) 64) (iv (a + 7) (a + 9)) _ := iv_kept hr1 (fun q k1 k2 k3 => hk9 q (by omega))
  refine lv_dup hx hb dLooker_init_19 rfl ?_
  refine lv_aload_n hx hb dLooker_init_20 rfl (lv_at hl 0 rfl) ?_
  refine va_get (D := γ.1) (ci := 7) (v := .ref (a + 1)) (C := R_Looker) (T := T_Looker) (N := 8) (Ts := bs_W0) hx hb hW in_Looker hown hC.1 hP 0 rfl rfl 3 (by decide) (hW _ qw_77aeadf252) (fun _ h9 => h9) rfl dLooker_init_21 ?_
  refine ms_I (rest := [.ref (a + 9), .ref a]) S hC (fun q h => Nat.le_trans (by omega) h) (fun q h => Nat.le_trans (by omega) h) hS (i_Operators l γ s0 hw0 (a + 9) _ (a + 1)) ct_blind meOperators_init qw_7b20a5654d ⟨(Nat.le_of_ble_eq_true rfl), (Nat.le_of_ble_eq_true rfl)⟩ (fun U hU hW9 => ⟨⟨by rw [hU]; exact (hF0.step hA0 hS.1 hS.2.1).warm hW9, by omega⟩, hU, hz, hPn⟩) rfl hl.1 rfl (Nat.le_of_ble_eq_true rfl) dLooker_init_24 ⟨(Nat.le_of_ble_eq_true rfl), (Nat.le_of_ble_eq_true rfl)⟩ (fun H1 locs hPO hS hz9 hk9 => ?_)
  obtain ⟨hc9, hzn⟩ := hPO
  have hc9 : cmp γ (fun ws => ws = [(a + 9, .inr (8, [.ref (a + 1)]))]) (iv (a + 9) (a + 10)) H1 := hc9
  have hz : H1.size = a + 10 := hzn
  have hP : va_P γ.1 vwCl [(a, .inr (7, [.null, .null, .null, .ref (a + 1), .null, .null, .null, .int 0]))] H1 := hP.kept (fun i x9 hx9 => hk9 x9.1 (hP i x9 hx9).lt (fun h9 => absurd (hlw9 i x9 hx9) (Nat.not_lt.mpr h9)))
  have hc1 : cmp γ (fLooks γ (a + 1) (a + 7) 64) (iv (a + 1) (a + 7)) _ := iv_kept hc1 (fun q k1 k2 k3 => hk9 q k3 (by omega))
  have hr1 : cmp γ (fRows γ (a + 7) 64) (iv (a + 7) (a + 9)) _ := iv_kept hr1 (fun q k1 k2 k3 => hk9 q k3 (by omega))
  refine st_putF (D := γ.1) (ci := 7) (v := .ref (a + 9)) (ty := .object "TypeBook$Operators") (C := R_Looker) (T := T_Looker) (N := 8) (Ts := bs_W0) hx hb hW in_Looker t_Looker t_Looker_ok n_Looker hown hC.1 hP hD (fun q h => h) hS 0 rfl rfl 4 (by decide) (hW _ qw_859ddf9a22) (fun _ h9 => h9) rfl hnm rfl (by decide +kernel) rfl rfl (Nat.le_of_ble_eq_true rfl) dLooker_init_27 (fun H locs hP hD hS hz9 ho9 => ?_)
  have hz : H.size = a + 10 := hz9.trans hz
  have hP : va_P γ.1 vwCl [(a, .inr (7, [.null, .null, .null, .ref (a + 1), .ref (a + 9), .null, .null, .int 0]))] _ := hP
  have hD : va_D _ [(a, .inr (7, [.null, .null, .null, .ref (a + 1), .ref (a + 9), .null, .null, .int 0]))] := hD
  have hc1 : cmp γ (fLooks γ (a + 1) (a + 7) 64) (iv (a + 1) (a + 7)) _ := iv_kept hc1 (fun q k1 k2 k3 => ho9 q (by omega))
  have hr1 : cmp γ (fRows γ (a + 7) 64) (iv (a + 7) (a + 9)) _ := iv_kept hr1 (fun q k1 k2 k3 => ho9 q (by omega))
  have hc9 : cmp γ (fun ws => ws = [(a + 9, .inr (8, [.ref (a + 1)]))]) (iv (a + 9) (a + 10)) _ := iv_kept hc9 (fun q k1 k2 k3 => ho9 q (by omega))
  refine lv_aload_n hx hb dLooker_init_30 rfl (lv_at hl 0 rfl) ?_
  refine lv_bipush (v := 64) hx hb dLooker_init_31 (by decide) ?_
  refine cw_newa S hC qw_8e969fb20a hP hD hS hA hz 64 rfl (by omega) (Nat.le_of_ble_eq_true rfl) (Nat.le_of_ble_eq_true rfl) dLooker_init_33 (fun H hP hD hS hz hk9 => ?_)
  have hz : H.size = a + 11 := hz
  have hP : va_P γ.1 vwCl [(a, .inr (7, [.null, .null, .null, .ref (a + 1), .ref (a + 9), .null, .null, .int 0])), (a + 10, .inl (γ.2.1, 64, .inl (fun _ => 0)))] _ := hP
  have hD : va_D _ [(a, .inr (7, [.null, .null, .null, .ref (a + 1), .ref (a + 9), .null, .null, .int 0])), (a + 10, .inl (γ.2.1, 64, .inl (fun _ => 0)))] := hD
  have hc1 : cmp γ (fLooks γ (a + 1) (a + 7) 64) (iv (a + 1) (a + 7)) _ := iv_kept hc1 (fun q k1 k2 k3 => hk9 q (by omega))
  have hr1 : cmp γ (fRows γ (a + 7) 64) (iv (a + 7) (a + 9)) _ := iv_kept hr1 (fun q k1 k2 k3 => hk9 q (by omega))
  have hc9 : cmp γ (fun ws => ws = [(a + 9, .inr (8, [.ref (a + 1)]))]) (iv (a + 9) (a + 10)) _ := iv_kept hc9 (fun q k1 k2 k3 => hk9 q (by omega))
  refine st_put (D := γ.1) (ci := 7) (v := .ref (a + 10)) (ty := .array .int) (C := R_Looker) (T := T_Looker) (N := 8) (Ts := bs_W0) hx hb hW in_Looker t_Looker t_Looker_ok n_Looker hown hC.1 hP hD (fun q h => h) hS 0 rfl rfl 6 (by decide) (hW _ qw_899a0812ea) (fun _ h9 => h9) rfl (by decide +kernel) rfl rfl (Nat.le_of_ble_eq_true rfl) dLooker_init_35 (fun H locs hP hD hS hz9 ho9 => ?_)
  have hz : H.size = a + 11 := hz9.trans hz
  have hP : va_P γ.1 vwCl [(a, .inr (7, [.null, .null, .null, .ref (a + 1), .ref (a + 9), .null, .ref (a + 10), .int 0])), (a + 10, .inl (γ.2.1, 64, .inl (fun _ => 0)))] _ := hP
  have hD : va_D _ [(a, .inr (7, [.null, .null, .null, .ref (a + 1), .ref (a + 9), .null, .ref (a + 10), .int 0])), (a + 10, .inl (γ.2.1, 64, .inl (fun _ => 0)))] := hD
  have hc1 : cmp γ (fLooks γ (a + 1) (a + 7) 64) (iv (a + 1) (a + 7)) _ := iv_kept hc1 (fun q k1 k2 k3 => ho9 q (by omega))
  have hr1 : cmp γ (fRows γ (a + 7) 64) (iv (a + 7) (a + 9)) _ := iv_kept hr1 (fun q k1 k2 k3 => ho9 q (by omega))
  have hc9 : cmp γ (fun ws => ws = [(a + 9, .inr (8, [.ref (a + 1)]))]) (iv (a + 9) (a + 10)) _ := iv_kept hc9 (fun q k1 k2 k3 => ho9 q (by omega))
  refine lv_aload_n hx hb dLooker_init_38 rfl (lv_at hl 0 rfl) ?_
  refine lv_iconst (v := (-1)) hx hb dLooker_init_39 (by decide) ?_
  refine st_put (D := γ.1) (ci := 7) (v := .int (-1)) (ty := .int) (C := R_Looker) (T := T_Looker) (N := 8) (Ts := bs_W0) hx hb hW in_Looker t_Looker t_Looker_ok n_Looker hown hC.1 hP hD (fun q h => h) hS 0 rfl rfl 7 (by decide) (hW _ qw_a0a252684f) (fun _ h9 => h9) rfl (by decide +kernel) rfl rfl (Nat.le_of_ble_eq_true rfl) dLooker_init_40 (fun H locs hP hD hS hz9 ho9 => ?_)
  have hz : H.size = a + 11 := hz9.trans hz
  have hP : va_P γ.1 vwCl [(a, .inr (7, [.null, .null, .null, .ref (a + 1), .ref (a + 9), .null, .ref (a + 10), .int (-1)])), (a + 10, .inl (γ.2.1, 64, .inl (fun _ => 0)))] _ := hP
  have hD : va_D _ [(a, .inr (7, [.null, .null, .null, .ref (a + 1), .ref (a + 9), .null, .ref (a + 10), .int (-1)])), (a + 10, .inl (γ.2.1, 64, .inl (fun _ => 0)))] := hD
  have hc1 : cmp γ (fLooks γ (a + 1) (a + 7) 64) (iv (a + 1) (a + 7)) _ := iv_kept hc1 (fun q k1 k2 k3 => ho9 q (by omega))
  have hr1 : cmp γ (fRows γ (a + 7) 64) (iv (a + 7) (a + 9)) _ := iv_kept hr1 (fun q k1 k2 k3 => ho9 q (by omega))
  have hc9 : cmp γ (fun ws => ws = [(a + 9, .inr (8, [.ref (a + 1)]))]) (iv (a + 9) (a + 10)) _ := iv_kept hc9 (fun q k1 k2 k3 => ho9 q (by omega))
  refine lv_aload_n hx hb dLooker_init_43 rfl (lv_at hl 0 rfl) ?_
  refine lv_aload_n hx hb dLooker_init_44 rfl (lv_at hl 1 rfl) ?_
  refine st_putF (D := γ.1) (ci := 7) (v := .ref t1) (ty := .object "TypeBook$Trees") (C := R_Looker) (T := T_Looker) (N := 8) (Ts := bs_W0) hx hb hW in_Looker t_Looker t_Looker_ok n_Looker hown hC.1 hP hD (fun q h => h) hS 0 rfl rfl 0 (by decide) (hW _ qw_22d2793f25) (fun _ h9 => h9) rfl hnm rfl (by decide +kernel) rfl rfl (Nat.le_of_ble_eq_true rfl) dLooker_init_45 (fun H locs hP hD hS hz9 ho9 => ?_)
  have hz : H.size = a + 11 := hz9.trans hz
  have hP : va_P γ.1 vwCl [(a, .inr (7, [.ref t1, .null, .null, .ref (a + 1), .ref (a + 9), .null, .ref (a + 10), .int (-1)])), (a + 10, .inl (γ.2.1, 64, .inl (fun _ => 0)))] _ := hP
  have hD : va_D _ [(a, .inr (7, [.ref t1, .null, .null, .ref (a + 1), .ref (a + 9), .null, .ref (a + 10), .int (-1)])), (a + 10, .inl (γ.2.1, 64, .inl (fun _ => 0)))] := hD
  have hc1 : cmp γ (fLooks γ (a + 1) (a + 7) 64) (iv (a + 1) (a + 7)) _ := iv_kept hc1 (fun q k1 k2 k3 => ho9 q (by omega))
  have hr1 : cmp γ (fRows γ (a + 7) 64) (iv (a + 7) (a + 9)) _ := iv_kept hr1 (fun q k1 k2 k3 => ho9 q (by omega))
  have hc9 : cmp γ (fun ws => ws = [(a + 9, .inr (8, [.ref (a + 1)]))]) (iv (a + 9) (a + 10)) _ := iv_kept hc9 (fun q k1 k2 k3 => ho9 q (by omega))
  refine lv_aload_n hx hb dLooker_init_48 rfl (lv_at hl 0 rfl) ?_
  refine lv_aload_n hx hb dLooker_init_49 rfl (lv_at hl 2 rfl) ?_
  refine st_putF (D := γ.1) (ci := 7) (v := .ref t2) (ty := .object "TypeBook$Names") (C := R_Looker) (T := T_Looker) (N := 8) (Ts := bs_W0) hx hb hW in_Looker t_Looker t_Looker_ok n_Looker hown hC.1 hP hD (fun q h => h) hS 0 rfl rfl 1 (by decide) (hW _ qw_213d2bb2ac) (fun _ h9 => h9) rfl hnm rfl (by decide +kernel) rfl rfl (Nat.le_of_ble_eq_true rfl) dLooker_init_50 (fun H locs hP hD hS hz9 ho9 => ?_)
  have hz : H.size = a + 11 := hz9.trans hz
  have hP : va_P γ.1 vwCl [(a, .inr (7, [.ref t1, .ref t2, .null, .ref (a + 1), .ref (a + 9), .null, .ref (a + 10), .int (-1)])), (a + 10, .inl (γ.2.1, 64, .inl (fun _ => 0)))] _ := hP
  have hD : va_D _ [(a, .inr (7, [.ref t1, .ref t2, .null, .ref (a + 1), .ref (a + 9), .null, .ref (a + 10), .int (-1)])), (a + 10, .inl (γ.2.1, 64, .inl (fun _ => 0)))] := hD
  have hc1 : cmp γ (fLooks γ (a + 1) (a + 7) 64) (iv (a + 1) (a + 7)) _ := iv_kept hc1 (fun q k1 k2 k3 => ho9 q (by omega))
  have hr1 : cmp γ (fRows γ (a + 7) 64) (iv (a + 7) (a + 9)) _ := iv_kept hr1 (fun q k1 k2 k3 => ho9 q (by omega))
  have hc9 : cmp γ (fun ws => ws = [(a + 9, .inr (8, [.ref (a + 1)]))]) (iv (a + 9) (a + 10)) _ := iv_kept hc9 (fun q k1 k2 k3 => ho9 q (by omega))
  refine lv_aload_n hx hb dLooker_init_53 rfl (lv_at hl 0 rfl) ?_
  refine lv_aload_n hx hb dLooker_init_54 rfl (lv_at hl 3 rfl) ?_
  refine st_putF (D := γ.1) (ci := 7) (v := .ref t3) (ty := .object "TypeBook$Types") (C := R_Looker) (T := T_Looker) (N := 8) (Ts := bs_W0) hx hb hW in_Looker t_Looker t_Looker_ok n_Looker hown hC.1 hP hD (fun q h => h) hS 0 rfl rfl 2 (by decide) (hW _ qw_abb87946e7) (fun _ h9 => h9) rfl hnm rfl (by decide +kernel) rfl rfl (Nat.le_of_ble_eq_true rfl) dLooker_init_55 (fun H locs hP hD hS hz9 ho9 => ?_)
  have hz : H.size = a + 11 := hz9.trans hz
  have hP : va_P γ.1 vwCl [(a, .inr (7, [.ref t1, .ref t2, .ref t3, .ref (a + 1), .ref (a + 9), .null, .ref (a + 10), .int (-1)])), (a + 10, .inl (γ.2.1, 64, .inl (fun _ => 0)))] _ := hP
  have hD : va_D _ [(a, .inr (7, [.ref t1, .ref t2, .ref t3, .ref (a + 1), .ref (a + 9), .null, .ref (a + 10), .int (-1)])), (a + 10, .inl (γ.2.1, 64, .inl (fun _ => 0)))] := hD
  have hc1 : cmp γ (fLooks γ (a + 1) (a + 7) 64) (iv (a + 1) (a + 7)) _ := iv_kept hc1 (fun q k1 k2 k3 => ho9 q (by omega))
  have hr1 : cmp γ (fRows γ (a + 7) 64) (iv (a + 7) (a + 9)) _ := iv_kept hr1 (fun q k1 k2 k3 => ho9 q (by omega))
  have hc9 : cmp γ (fun ws => ws = [(a + 9, .inr (8, [.ref (a + 1)]))]) (iv (a + 9) (a + 10)) _ := iv_kept hc9 (fun q k1 k2 k3 => ho9 q (by omega))
  refine lv_aload_n hx hb dLooker_init_58 rfl (lv_at hl 0 rfl) ?_
  have hlw11 : ∀ (i : Nat) (x9 : Nat × va_E), ([(a, .inr (7, [.ref t1, .ref t2, .ref t3, .ref (a + 1), .ref (a + 9), .null, .ref (a + 10), .int (-1)])), (a + 10, .inl (γ.2.1, 64, .inl (fun _ => 0)))] : va_W)[i]? = some x9 → x9.1 < a + 11 := fun i x9 hx9 => by rw [← hz]; exact (hP i x9 hx9).lt
  refine cw_new (fs := [.null, .null, .null, .null, .null]) (C := R_Meanings) (T := T_Meanings) (N := 5) (ci := 9) S hC in_Meanings t_Meanings t_Meanings_ok qw_fa988d42dd qw_61012f5007 qw_72455b084c rfl (fun j hj => by rcases (show j = 0 ∨ j = 1 ∨ j = 2 ∨ j = 3 ∨ j = 4 by omega) with h | h | h | h | h <;> subst h <;> rfl) hP hS hA hz (Nat.le_of_ble_eq_true rfl) (Nat.le_of_ble_eq_true rfl) dLooker_init_59 (fun H hPn hP hS hz hk9 => ?_)
  have hz : H.size = a + 12 := hz
  have hc1 : cmp γ (fLooks γ (a + 1) (a + 7) 64) (iv (a + 1) (a + 7)) _ := iv_kept hc1 (fun q k1 k2 k3 => hk9 q (by omega))
  have hr1 : cmp γ (fRows γ (a + 7) 64) (iv (a + 7) (a + 9)) _ := iv_kept hr1 (fun q k1 k2 k3 => hk9 q (by omega))
  have hc9 : cmp γ (fun ws => ws = [(a + 9, .inr (8, [.ref (a + 1)]))]) (iv (a + 9) (a + 10)) _ := iv_kept hc9 (fun q k1 k2 k3 => hk9 q (by omega))
  refine lv_dup hx hb dLooker_init_62 rfl ?_
  refine lv_aload_n hx hb dLooker_init_63 rfl (lv_at hl 1 rfl) ?_
  refine lv_aload_n hx hb dLooker_init_64 rfl (lv_at hl 2 rfl) ?_
  refine lv_aload_n hx hb dLooker_init_65 rfl (lv_at hl 3 rfl) ?_
  refine lv_aload hx hb dLooker_init_66 (lv_at hl 4 rfl) ?_
  refine lv_aload_n hx hb dLooker_init_68 rfl (lv_at hl 0 rfl) ?_
  refine va_get (D := γ.1) (ci := 7) (v := .ref (a + 1)) (C := R_Looker) (T := T_Looker) (N := 8) (Ts := bs_W0) hx hb hW in_Looker hown hC.1 hP 0 rfl rfl 3 (by decide) (hW _ qw_77aeadf252) (fun _ h9 => h9) rfl dLooker_init_69 ?_
  refine ms_I (rest := [.ref (a + 11), .ref a]) S hC (fun q h => Nat.le_trans (by omega) h) (fun q h => Nat.le_trans (by omega) h) hS (i_Meanings l γ s0 hw0 (a + 11) _ t1 t2 t3 t4 (a + 1)) ct_blind meMeanings_init qw_bb1f1c5b2b ⟨(Nat.le_of_ble_eq_true rfl), (Nat.le_of_ble_eq_true rfl)⟩ (fun U hU hW9 => ⟨⟨by rw [hU]; exact (hF0.step hA0 hS.1 hS.2.1).warm hW9, by omega⟩, hU, hz, hPn⟩) rfl hl.1 rfl (Nat.le_of_ble_eq_true rfl) dLooker_init_72 ⟨(Nat.le_of_ble_eq_true rfl), (Nat.le_of_ble_eq_true rfl)⟩ (fun H1 locs hPO hS hz9 hk9 => ?_)
  obtain ⟨hc11, hzn⟩ := hPO
  have hc11 : cmp γ (fun ws => ws = [(a + 11, .inr (9, [.ref t1, .ref t2, .ref t3, .ref t4, .ref (a + 1)]))]) (iv (a + 11) (a + 12)) H1 := hc11
  have hz : H1.size = a + 12 := hzn
  have hP : va_P γ.1 vwCl [(a, .inr (7, [.ref t1, .ref t2, .ref t3, .ref (a + 1), .ref (a + 9), .null, .ref (a + 10), .int (-1)])), (a + 10, .inl (γ.2.1, 64, .inl (fun _ => 0)))] H1 := hP.kept (fun i x9 hx9 => hk9 x9.1 (hP i x9 hx9).lt (fun h9 => absurd (hlw11 i x9 hx9) (Nat.not_lt.mpr h9)))
  have hc1 : cmp γ (fLooks γ (a + 1) (a + 7) 64) (iv (a + 1) (a + 7)) _ := iv_kept hc1 (fun q k1 k2 k3 => hk9 q k3 (by omega))
  have hr1 : cmp γ (fRows γ (a + 7) 64) (iv (a + 7) (a + 9)) _ := iv_kept hr1 (fun q k1 k2 k3 => hk9 q k3 (by omega))
  have hc9 : cmp γ (fun ws => ws = [(a + 9, .inr (8, [.ref (a + 1)]))]) (iv (a + 9) (a + 10)) _ := iv_kept hc9 (fun q k1 k2 k3 => hk9 q k3 (by omega))
  refine st_putF (D := γ.1) (ci := 7) (v := .ref (a + 11)) (ty := .object "TypeBook$Meanings") (C := R_Looker) (T := T_Looker) (N := 8) (Ts := bs_W0) hx hb hW in_Looker t_Looker t_Looker_ok n_Looker hown hC.1 hP hD (fun q h => h) hS 0 rfl rfl 5 (by decide) (hW _ qw_3b1b00c0af) (fun _ h9 => h9) rfl hnm rfl (by decide +kernel) rfl rfl (Nat.le_of_ble_eq_true rfl) dLooker_init_75 (fun H locs hP hD hS hz9 ho9 => ?_)
  have hz : H.size = a + 12 := hz9.trans hz
  have hP : va_P γ.1 vwCl [(a, .inr (7, [.ref t1, .ref t2, .ref t3, .ref (a + 1), .ref (a + 9), .ref (a + 11), .ref (a + 10), .int (-1)])), (a + 10, .inl (γ.2.1, 64, .inl (fun _ => 0)))] _ := hP
  have hD : va_D _ [(a, .inr (7, [.ref t1, .ref t2, .ref t3, .ref (a + 1), .ref (a + 9), .ref (a + 11), .ref (a + 10), .int (-1)])), (a + 10, .inl (γ.2.1, 64, .inl (fun _ => 0)))] := hD
  have hc1 : cmp γ (fLooks γ (a + 1) (a + 7) 64) (iv (a + 1) (a + 7)) _ := iv_kept hc1 (fun q k1 k2 k3 => ho9 q (by omega))
  have hr1 : cmp γ (fRows γ (a + 7) 64) (iv (a + 7) (a + 9)) _ := iv_kept hr1 (fun q k1 k2 k3 => ho9 q (by omega))
  have hc9 : cmp γ (fun ws => ws = [(a + 9, .inr (8, [.ref (a + 1)]))]) (iv (a + 9) (a + 10)) _ := iv_kept hc9 (fun q k1 k2 k3 => ho9 q (by omega))
  have hc11 : cmp γ (fun ws => ws = [(a + 11, .inr (9, [.ref t1, .ref t2, .ref t3, .ref t4, .ref (a + 1)]))]) (iv (a + 11) (a + 12)) _ := iv_kept hc11 (fun q k1 k2 k3 => ho9 q (by omega))
  refine hE _ _ _ _ _ _ hS (Nat.le_of_ble_eq_true rfl) (Nat.le_of_ble_eq_true rfl) (fun hG => ?_) dLooker_init_78
  exact ⟨⟨cmp_one hP 0 rfl ⟨Nat.le_refl _, Nat.lt_succ_self _⟩, hc1, hr1, hc9, cmp_one hP 1 rfl ⟨Nat.le_refl _, Nat.lt_succ_self _⟩, hc11⟩, hz⟩
theorem qw_77ca0da9d6 : (Cond.methodLink R_TypeBook 1 Lib.objectInit) ∈ bs_W0 := bs_in (in_tables_1_1 (List.mem_of_getElem? (i := 29) rfl)) rfl
theorem qw_f6e6c98d3f : (Cond.classLink R_TypeBook 7 R_Trees) ∈ bs_W0 := bs_in (in_tables_1_1 (List.mem_of_getElem? (i := 32) rfl)) rfl
theorem qw_728b969c31 : (Cond.instantiable R_Trees 6) ∈ bs_W0 := bs_in (in_tables_1_1 (List.mem_of_getElem? (i := 33) rfl)) rfl
theorem qw_03679b470b : (Cond.initialized R_Trees) ∈ bs_W0 := bs_in (in_tables_1_1 (List.mem_of_getElem? (i := 2) rfl)) rfl
theorem qn_3f7204588e : (Cond.methodLinkNest R_TypeBook 9 yTrees_init "TypeBook") ∈ lw_tbl := in_tables_1_1 (List.mem_of_getElem? (i := 34) rfl)
theorem qw_5869ee7718 : (Cond.classLink R_TypeBook 16 R_Names) ∈ bs_W0 := bs_in (in_tables_1_1 (List.mem_of_getElem? (i := 60) rfl)) rfl
theorem qw_0fe9ef37a0 : (Cond.instantiable R_Names 9) ∈ bs_W0 := bs_in (in_tables_1_1 (List.mem_of_getElem? (i := 61) rfl)) rfl
theorem qw_59cecfe9cd : (Cond.initialized R_Names) ∈ bs_W0 := bs_in (in_tables_1_1 (List.mem_of_getElem? (i := 3) rfl)) rfl
theorem qw_e3502542dd : (Cond.methodLink R_TypeBook 18 yNames_init) ∈ bs_W0 := bs_in (in_tables_1_1 (List.mem_of_getElem? (i := 62) rfl)) rfl
theorem qw_b43be4bd43 : (Cond.classLink R_TypeBook 23 R_Types) ∈ bs_W0 := bs_in (in_tables_1_1 (List.mem_of_getElem? (i := 128) rfl)) rfl
theorem qw_3790227522 : (Cond.instantiable R_Types 5) ∈ bs_W0 := bs_in (in_tables_1_1 (List.mem_of_getElem? (i := 129) rfl)) rfl
theorem qw_bdae26afb0 : (Cond.initialized R_Types) ∈ bs_W0 := bs_in (in_tables_1_1 (List.mem_of_getElem? (i := 7) rfl)) rfl
theorem qw_bbc4b7e74b : (Cond.methodLink R_TypeBook 25 yTypes_init) ∈ bs_W0 := bs_in (in_tables_1_1 (List.mem_of_getElem? (i := 130) rfl)) rfl
theorem qw_cecb0f06f4 : (Cond.classLink R_TypeBook 30 R_Objects) ∈ bs_W0 := bs_in (in_tables_1_1 (List.mem_of_getElem? (i := 158) rfl)) rfl
theorem qw_faf701598a : (Cond.instantiable R_Objects 5) ∈ bs_W0 := bs_in (in_tables_1_1 (List.mem_of_getElem? (i := 159) rfl)) rfl
theorem qw_278e47cc10 : (Cond.initialized R_Objects) ∈ bs_W0 := bs_in (in_tables_1_1 (List.mem_of_getElem? (i := 8) rfl)) rfl
theorem qn_8cbb55c35c : (Cond.methodLinkNest R_TypeBook 32 yObjects_init "TypeBook") ∈ lw_tbl := in_tables_1_1 (List.mem_of_getElem? (i := 160) rfl)
theorem qw_b3c5038eb4 : (Cond.classLink R_TypeBook 37 R_Looks) ∈ bs_W0 := bs_in (in_tables_1_1 (List.mem_of_getElem? (i := 194) rfl)) rfl
theorem qn_bac56fcd2e : (Cond.methodLinkNest R_TypeBook 39 yLooks_init "TypeBook") ∈ lw_tbl := in_tables_1_1 (List.mem_of_getElem? (i := 196) rfl)
theorem qw_923158a9c5 : (Cond.classLink R_TypeBook 44 R_Looker) ∈ bs_W0 := bs_in (in_tables_1_1 (List.mem_of_getElem? (i := 226) rfl)) rfl
theorem qw_8c7395766b : (Cond.instantiable R_Looker 8) ∈ bs_W0 := bs_in (in_tables_1_1 (List.mem_of_getElem? (i := 227) rfl)) rfl
theorem qw_72ac24d81b : (Cond.initialized R_Looker) ∈ bs_W0 := bs_in (in_tables_1_1 (List.mem_of_getElem? (i := 11) rfl)) rfl
theorem qw_95d519e819 : (Cond.methodLink R_TypeBook 46 yLooker_init) ∈ bs_W0 := bs_in (in_tables_1_1 (List.mem_of_getElem? (i := 228) rfl)) rfl
abbrev bModel_init : ByteArray := prog_13_method_1_code
def yModel_init : MethodName := ⟨R_Model, "<init>", "()V"⟩
abbrev bModel_thrown : ByteArray := prog_13_method_2_code
def yModel_thrown : MethodName := ⟨R_Model, "thrown", "()I"⟩
abbrev bModel_newType : ByteArray := prog_13_method_3_code
def yModel_newType : MethodName := ⟨R_Model, "newType", "(IIIIZ)I"⟩
abbrev bModel_goodName : ByteArray := prog_13_method_4_code
def yModel_goodName : MethodName := ⟨R_Model, "goodName", "(I)Z"⟩
abbrev bModel_noNode : ByteArray := prog_13_method_5_code
def yModel_noNode : MethodName := ⟨R_Model, "noNode", "(I)Z"⟩
abbrev bModel_noType : ByteArray := prog_13_method_6_code
def yModel_noType : MethodName := ⟨R_Model, "noType", "(I)Z"⟩
abbrev bModel_add : ByteArray := prog_13_method_7_code
def yModel_add : MethodName := ⟨R_Model, "add", "(III)I"⟩
abbrev bModel_clear : ByteArray := prog_13_method_8_code
def yModel_clear : MethodName := ⟨R_Model, "clear", "()I"⟩
abbrev bModel_child : ByteArray := prog_13_method_9_code
def yModel_child : MethodName := ⟨R_Model, "child", "(II)I"⟩
abbrev bModel_enter : ByteArray := prog_13_method_10_code
def yModel_enter : MethodName := ⟨R_Model, "enter", "()I"⟩
abbrev bModel_leave : ByteArray := prog_13_method_11_code
def yModel_leave : MethodName := ⟨R_Model, "leave", "()I"⟩
abbrev bModel_hasHere : ByteArray := prog_13_method_12_code
def yModel_hasHere : MethodName := ⟨R_Model, "hasHere", "(I)Z"⟩
abbrev bModel_find : ByteArray := prog_13_method_13_code
def yModel_find : MethodName := ⟨R_Model, "find", "(I)V"⟩
abbrev bModel_name : ByteArray := prog_13_method_14_code
def yModel_name : MethodName := ⟨R_Model, "name", "(IIII)V"⟩
abbrev bModel_element : ByteArray := prog_13_method_15_code
def yModel_element : MethodName := ⟨R_Model, "element", "(II)I"⟩
abbrev bModel_setElement : ByteArray := prog_13_method_16_code
def yModel_setElement : MethodName := ⟨R_Model, "setElement", "(III)V"⟩
abbrev bModel_fact : ByteArray := prog_13_method_17_code
def yModel_fact : MethodName := ⟨R_Model, "fact", "(IIIZ)V"⟩
abbrev bModel_copy : ByteArray := prog_13_method_18_code
def yModel_copy : MethodName := ⟨R_Model, "copy", "(II)V"⟩
abbrev bModel_isLow : ByteArray := prog_13_method_19_code
def yModel_isLow : MethodName := ⟨R_Model, "isLow", "(I)Z"⟩
abbrev bModel_isHigh : ByteArray := prog_13_method_20_code
def yModel_isHigh : MethodName := ⟨R_Model, "isHigh", "(I)Z"⟩
abbrev bModel_isClear : ByteArray := prog_13_method_21_code
def yModel_isClear : MethodName := ⟨R_Model, "isClear", "(I)Z"⟩
abbrev bModel_numberOf : ByteArray := prog_13_method_22_code
def yModel_numberOf : MethodName := ⟨R_Model, "numberOf", "(I)J"⟩
abbrev bModel_bits : ByteArray := prog_13_method_23_code
def yModel_bits : MethodName := ⟨R_Model, "bits", "(IJ)V"⟩
abbrev bModel_look : ByteArray := prog_13_method_24_code
def yModel_look : MethodName := ⟨R_Model, "look", "(I)I"⟩
abbrev bModel_factOfType : ByteArray := prog_13_method_25_code
def yModel_factOfType : MethodName := ⟨R_Model, "factOfType", "(II)V"⟩
abbrev bModel_lookName : ByteArray := prog_13_method_26_code
def yModel_lookName : MethodName := ⟨R_Model, "lookName", "(I)I"⟩
abbrev bModel_lookRow : ByteArray := prog_13_method_27_code
def yModel_lookRow : MethodName := ⟨R_Model, "lookRow", "(I)I"⟩
abbrev bModel_not : ByteArray := prog_13_method_28_code
def yModel_not : MethodName := ⟨R_Model, "not", "(I)I"⟩
abbrev bModel_join : ByteArray := prog_13_method_29_code
def yModel_join : MethodName := ⟨R_Model, "join", "(III)I"⟩
abbrev bModel_logic : ByteArray := prog_13_method_30_code
def yModel_logic : MethodName := ⟨R_Model, "logic", "(III)I"⟩
abbrev bModel_truth : ByteArray := prog_13_method_31_code
def yModel_truth : MethodName := ⟨R_Model, "truth", "(IZZ)Z"⟩
abbrev bModel_known : ByteArray := prog_13_method_32_code
def yModel_known : MethodName := ⟨R_Model, "known", "(I)I"⟩
abbrev bModel_lookUnary : ByteArray := prog_13_method_33_code
def yModel_lookUnary : MethodName := ⟨R_Model, "lookUnary", "(II)I"⟩
abbrev bModel_lookBinary : ByteArray := prog_13_method_34_code
def yModel_lookBinary : MethodName := ⟨R_Model, "lookBinary", "(III)I"⟩
abbrev bModel_lookLogic : ByteArray := prog_13_method_35_code
def yModel_lookLogic : MethodName := ⟨R_Model, "lookLogic", "(IIII)I"⟩
abbrev bModel_lookOrder : ByteArray := prog_13_method_36_code
def yModel_lookOrder : MethodName := ⟨R_Model, "lookOrder", "(IIII)I"⟩
abbrev bModel_integer : ByteArray := prog_13_method_37_code
def yModel_integer : MethodName := ⟨R_Model, "integer", "(IZJ)I"⟩
abbrev bModel_lookSum : ByteArray := prog_13_method_38_code
def yModel_lookSum : MethodName := ⟨R_Model, "lookSum", "(IZII)I"⟩
abbrev bModel_lookJoined : ByteArray := prog_13_method_39_code
def yModel_lookJoined : MethodName := ⟨R_Model, "lookJoined", "(III)I"⟩
abbrev bModel_lookNumbers : ByteArray := prog_13_method_40_code
def yModel_lookNumbers : MethodName := ⟨R_Model, "lookNumbers", "(IIII)I"⟩
abbrev bModel_lookShift : ByteArray := prog_13_method_41_code
def yModel_lookShift : MethodName := ⟨R_Model, "lookShift", "(IZII)I"⟩
abbrev bModel_within : ByteArray := prog_13_method_42_code
def yModel_within : MethodName := ⟨R_Model, "within", "(IJ)Z"⟩
abbrev bModel_rowObject : ByteArray := prog_13_method_43_code
def yModel_rowObject : MethodName := ⟨R_Model, "rowObject", "(I)I"⟩
abbrev bModel_lookApply : ByteArray := prog_13_method_44_code
def yModel_lookApply : MethodName := ⟨R_Model, "lookApply", "(I)I"⟩
abbrev bModel_lookFunction : ByteArray := prog_13_method_45_code
def yModel_lookFunction : MethodName := ⟨R_Model, "lookFunction", "(II)I"⟩
abbrev bModel_lookSlice : ByteArray := prog_13_method_46_code
def yModel_lookSlice : MethodName := ⟨R_Model, "lookSlice", "(III)I"⟩
abbrev bModel_lookAttribute : ByteArray := prog_13_method_47_code
def yModel_lookAttribute : MethodName := ⟨R_Model, "lookAttribute", "(I)I"⟩
abbrev bModel_below : ByteArray := prog_13_method_48_code
def yModel_below : MethodName := ⟨R_Model, "below", "(II)Z"⟩
abbrev bModel_goThrough : ByteArray := prog_13_method_49_code
def yModel_goThrough : MethodName := ⟨R_Model, "goThrough", "(II)I"⟩
abbrev bModel_keep : ByteArray := prog_13_method_50_code
def yModel_keep : MethodName := ⟨R_Model, "keep", "(II)V"⟩
abbrev bModel_wrong : ByteArray := prog_13_method_51_code
def yModel_wrong : MethodName := ⟨R_Model, "wrong", "(II)I"⟩
abbrev bModel_type : ByteArray := prog_13_method_52_code
def yModel_type : MethodName := ⟨R_Model, "type", "(I)I"⟩
abbrev bModel_constantFault : ByteArray := prog_13_method_53_code
def yModel_constantFault : MethodName := ⟨R_Model, "constantFault", "(I)I"⟩
abbrev bModel_enumeration : ByteArray := prog_13_method_54_code
def yModel_enumeration : MethodName := ⟨R_Model, "enumeration", "(I)I"⟩
abbrev bModel_subtype : ByteArray := prog_13_method_55_code
def yModel_subtype : MethodName := ⟨R_Model, "subtype", "(II)I"⟩
abbrev bModel_fits : ByteArray := prog_13_method_56_code
def yModel_fits : MethodName := ⟨R_Model, "fits", "(II)I"⟩
abbrev bModel_declare : ByteArray := prog_13_method_57_code
def yModel_declare : MethodName := ⟨R_Model, "declare", "(IIII)I"⟩
abbrev bModel_check : ByteArray := prog_13_method_58_code
def yModel_check : MethodName := ⟨R_Model, "check", "(II)I"⟩
abbrev bModel_place : ByteArray := prog_13_method_59_code
def yModel_place : MethodName := ⟨R_Model, "place", "()I"⟩
abbrev bModel_typeOf : ByteArray := prog_13_method_60_code
def yModel_typeOf : MethodName := ⟨R_Model, "typeOf", "(II)I"⟩
abbrev bModel_about : ByteArray := prog_13_method_61_code
def yModel_about : MethodName := ⟨R_Model, "about", "(II)I"⟩
abbrev bModel_value : ByteArray := prog_13_method_62_code
def yModel_value : MethodName := ⟨R_Model, "value", "(II)I"⟩
theorem meModel_init : bs_Mc yModel_init bModel_init 1 0 := ⟨bs_in (in_tables_1_5 (List.mem_of_getElem? (i := 143) rfl)) rfl, bs_in (in_tables_1_1 (List.mem_of_getElem? (i := 14) rfl)) rfl, bs_in (in_tables_1_5 (List.mem_of_getElem? (i := 144) rfl)) rfl, ⟨by decide, by decide, by decide +kernel⟩, rfl⟩
theorem meModel_thrown : bs_Mi yModel_thrown bModel_thrown 1 (some .int) 0 := ⟨bs_in (in_tables_1_6 (List.mem_of_getElem? (i := 21) rfl)) rfl, bs_in (in_tables_1_6 (List.mem_of_getElem? (i := 22) rfl)) rfl, bs_in (in_tables_1_1 (List.mem_of_getElem? (i := 14) rfl)) rfl, bs_in (in_tables_1_6 (List.mem_of_getElem? (i := 23) rfl)) rfl, by decide, by decide, by decide +kernel⟩
theorem meModel_newType : bs_Mi yModel_newType bModel_newType 6 (some .int) 5 := ⟨bs_in (in_tables_1_5 (List.mem_of_getElem? (i := 149) rfl)) rfl, bs_in (sel_priv (q := ((yModel_newType), 35)) (List.mem_of_getElem? (i := 47) rfl)) rfl, bs_in (in_tables_1_1 (List.mem_of_getElem? (i := 14) rfl)) rfl, bs_in (in_tables_1_5 (List.mem_of_getElem? (i := 150) rfl)) rfl, by decide, by decide, by decide +kernel⟩
theorem meModel_goodName : bs_Ms yModel_goodName bModel_goodName 1 (some .boolean) 1 := ⟨bs_in (in_tables_1_6 (List.mem_of_getElem? (i := 29) rfl)) rfl, bs_in (in_tables_1_1 (List.mem_of_getElem? (i := 14) rfl)) rfl, bs_in (in_tables_1_6 (List.mem_of_getElem? (i := 30) rfl)) rfl, by decide, by decide, by decide +kernel⟩
theorem meModel_noNode : bs_Mi yModel_noNode bModel_noNode 2 (some .boolean) 1 := ⟨bs_in (in_tables_1_6 (List.mem_of_getElem? (i := 49) rfl)) rfl, bs_in (sel_priv (q := ((yModel_noNode), 35)) (List.mem_of_getElem? (i := 48) rfl)) rfl, bs_in (in_tables_1_1 (List.mem_of_getElem? (i := 14) rfl)) rfl, bs_in (in_tables_1_6 (List.mem_of_getElem? (i := 50) rfl)) rfl, by decide, by decide, by decide +kernel⟩
theorem meModel_noType : bs_Mi yModel_noType bModel_noType 2 (some .boolean) 1 := ⟨bs_in (in_tables_1_6 (List.mem_of_getElem? (i := 229) rfl)) rfl, bs_in (sel_priv (q := ((yModel_noType), 35)) (List.mem_of_getElem? (i := 85) rfl)) rfl, bs_in (in_tables_1_1 (List.mem_of_getElem? (i := 14) rfl)) rfl, bs_in (in_tables_1_6 (List.mem_of_getElem? (i := 230) rfl)) rfl, by decide, by decide, by decide +kernel⟩
theorem meModel_add : bs_Mi yModel_add bModel_add 5 (some .int) 3 := ⟨bs_in (in_tables_1_6 (List.mem_of_getElem? (i := 25) rfl)) rfl, bs_in (in_tables_1_6 (List.mem_of_getElem? (i := 26) rfl)) rfl, bs_in (in_tables_1_1 (List.mem_of_getElem? (i := 14) rfl)) rfl, bs_in (in_tables_1_6 (List.mem_of_getElem? (i := 27) rfl)) rfl, by decide, by decide, by decide +kernel⟩
theorem meModel_clear : bs_Mi yModel_clear bModel_clear 2 (some .int) 0 := ⟨bs_in (in_tables_1_6 (List.mem_of_getElem? (i := 32) rfl)) rfl, bs_in (in_tables_1_6 (List.mem_of_getElem? (i := 33) rfl)) rfl, bs_in (in_tables_1_1 (List.mem_of_getElem? (i := 14) rfl)) rfl, bs_in (in_tables_1_6 (List.mem_of_getElem? (i := 34) rfl)) rfl, by decide, by decide, by decide +kernel⟩
theorem meModel_child : bs_Mi yModel_child bModel_child 5 (some .int) 2 := ⟨bs_in (in_tables_1_6 (List.mem_of_getElem? (i := 97) rfl)) rfl, bs_in (sel_priv (q := ((yModel_child), 35)) (List.mem_of_getElem? (i := 60) rfl)) rfl, bs_in (in_tables_1_1 (List.mem_of_getElem? (i := 14) rfl)) rfl, bs_in (in_tables_1_6 (List.mem_of_getElem? (i := 98) rfl)) rfl, by decide, by decide, by decide +kernel⟩
theorem meModel_enter : bs_Mi yModel_enter bModel_enter 1 (some .int) 0 := ⟨bs_in (in_tables_1_6 (List.mem_of_getElem? (i := 36) rfl)) rfl, bs_in (in_tables_1_6 (List.mem_of_getElem? (i := 37) rfl)) rfl, bs_in (in_tables_1_1 (List.mem_of_getElem? (i := 14) rfl)) rfl, bs_in (in_tables_1_6 (List.mem_of_getElem? (i := 38) rfl)) rfl, by decide, by decide, by decide +kernel⟩
theorem meModel_leave : bs_Mi yModel_leave bModel_leave 1 (some .int) 0 := ⟨bs_in (in_tables_1_6 (List.mem_of_getElem? (i := 40) rfl)) rfl, bs_in (in_tables_1_6 (List.mem_of_getElem? (i := 41) rfl)) rfl, bs_in (in_tables_1_1 (List.mem_of_getElem? (i := 14) rfl)) rfl, bs_in (in_tables_1_6 (List.mem_of_getElem? (i := 42) rfl)) rfl, by decide, by decide, by decide +kernel⟩
theorem meModel_hasHere : bs_Mi yModel_hasHere bModel_hasHere 4 (some .boolean) 1 := ⟨bs_in (in_tables_1_6 (List.mem_of_getElem? (i := 217) rfl)) rfl, bs_in (sel_priv (q := ((yModel_hasHere), 35)) (List.mem_of_getElem? (i := 83) rfl)) rfl, bs_in (in_tables_1_1 (List.mem_of_getElem? (i := 14) rfl)) rfl, bs_in (in_tables_1_6 (List.mem_of_getElem? (i := 218) rfl)) rfl, by decide, by decide, by decide +kernel⟩
theorem meModel_find : bs_Mi yModel_find bModel_find 3 none 1 := ⟨bs_in (in_tables_1_6 (List.mem_of_getElem? (i := 69) rfl)) rfl, bs_in (sel_priv (q := ((yModel_find), 35)) (List.mem_of_getElem? (i := 53) rfl)) rfl, bs_in (in_tables_1_1 (List.mem_of_getElem? (i := 14) rfl)) rfl, bs_in (in_tables_1_6 (List.mem_of_getElem? (i := 70) rfl)) rfl, by decide, by decide, by decide +kernel⟩
theorem meModel_name : bs_Mi yModel_name bModel_name 5 none 4 := ⟨bs_in (in_tables_1_6 (List.mem_of_getElem? (i := 221) rfl)) rfl, bs_in (sel_priv (q := ((yModel_name), 35)) (List.mem_of_getElem? (i := 84) rfl)) rfl, bs_in (in_tables_1_1 (List.mem_of_getElem? (i := 14) rfl)) rfl, bs_in (in_tables_1_6 (List.mem_of_getElem? (i := 222) rfl)) rfl, by decide, by decide, by decide +kernel⟩
theorem meModel_element : bs_Mi yModel_element bModel_element 3 (some .int) 2 := ⟨bs_in (in_tables_1_6 (List.mem_of_getElem? (i := 77) rfl)) rfl, bs_in (sel_priv (q := ((yModel_element), 35)) (List.mem_of_getElem? (i := 55) rfl)) rfl, bs_in (in_tables_1_1 (List.mem_of_getElem? (i := 14) rfl)) rfl, bs_in (in_tables_1_6 (List.mem_of_getElem? (i := 78) rfl)) rfl, by decide, by decide, by decide +kernel⟩
theorem meModel_setElement : bs_Mi yModel_setElement bModel_setElement 4 none 3 := ⟨bs_in (in_tables_1_6 (List.mem_of_getElem? (i := 81) rfl)) rfl, bs_in (sel_priv (q := ((yModel_setElement), 35)) (List.mem_of_getElem? (i := 56) rfl)) rfl, bs_in (in_tables_1_1 (List.mem_of_getElem? (i := 14) rfl)) rfl, bs_in (in_tables_1_6 (List.mem_of_getElem? (i := 82) rfl)) rfl, by decide, by decide, by decide +kernel⟩
theorem meModel_fact : bs_Mi yModel_fact bModel_fact 6 none 4 := ⟨bs_in (in_tables_1_6 (List.mem_of_getElem? (i := 89) rfl)) rfl, bs_in (sel_priv (q := ((yModel_fact), 35)) (List.mem_of_getElem? (i := 58) rfl)) rfl, bs_in (in_tables_1_1 (List.mem_of_getElem? (i := 14) rfl)) rfl, bs_in (in_tables_1_6 (List.mem_of_getElem? (i := 90) rfl)) rfl, by decide, by decide, by decide +kernel⟩
theorem meModel_copy : bs_Mi yModel_copy bModel_copy 4 none 2 := ⟨bs_in (in_tables_1_6 (List.mem_of_getElem? (i := 73) rfl)) rfl, bs_in (sel_priv (q := ((yModel_copy), 35)) (List.mem_of_getElem? (i := 54) rfl)) rfl, bs_in (in_tables_1_1 (List.mem_of_getElem? (i := 14) rfl)) rfl, bs_in (in_tables_1_6 (List.mem_of_getElem? (i := 74) rfl)) rfl, by decide, by decide, by decide +kernel⟩
theorem meModel_isLow : bs_Ms yModel_isLow bModel_isLow 1 (some .boolean) 1 := ⟨bs_in (in_tables_1_6 (List.mem_of_getElem? (i := 111) rfl)) rfl, bs_in (in_tables_1_1 (List.mem_of_getElem? (i := 14) rfl)) rfl, bs_in (in_tables_1_6 (List.mem_of_getElem? (i := 112) rfl)) rfl, by decide, by decide, by decide +kernel⟩
theorem meModel_isHigh : bs_Ms yModel_isHigh bModel_isHigh 1 (some .boolean) 1 := ⟨bs_in (in_tables_1_6 (List.mem_of_getElem? (i := 114) rfl)) rfl, bs_in (in_tables_1_1 (List.mem_of_getElem? (i := 14) rfl)) rfl, bs_in (in_tables_1_6 (List.mem_of_getElem? (i := 115) rfl)) rfl, by decide, by decide, by decide +kernel⟩
theorem meModel_isClear : bs_Mi yModel_isClear bModel_isClear 4 (some .boolean) 1 := ⟨bs_in (in_tables_1_6 (List.mem_of_getElem? (i := 139) rfl)) rfl, bs_in (sel_priv (q := ((yModel_isClear), 35)) (List.mem_of_getElem? (i := 66) rfl)) rfl, bs_in (in_tables_1_1 (List.mem_of_getElem? (i := 14) rfl)) rfl, bs_in (in_tables_1_6 (List.mem_of_getElem? (i := 140) rfl)) rfl, by decide, by decide, by decide +kernel⟩
theorem meModel_numberOf : bs_Mi yModel_numberOf bModel_numberOf 5 (some .long) 1 := ⟨bs_in (in_tables_1_6 (List.mem_of_getElem? (i := 153) rfl)) rfl, bs_in (sel_priv (q := ((yModel_numberOf), 35)) (List.mem_of_getElem? (i := 69) rfl)) rfl, bs_in (in_tables_1_1 (List.mem_of_getElem? (i := 14) rfl)) rfl, bs_in (in_tables_1_6 (List.mem_of_getElem? (i := 154) rfl)) rfl, by decide, by decide, by decide +kernel⟩
theorem meModel_bits : bs_Mi yModel_bits bModel_bits 5 none 2 := ⟨bs_in (in_tables_1_6 (List.mem_of_getElem? (i := 158) rfl)) rfl, bs_in (sel_priv (q := ((yModel_bits), 35)) (List.mem_of_getElem? (i := 70) rfl)) rfl, bs_in (in_tables_1_1 (List.mem_of_getElem? (i := 14) rfl)) rfl, bs_in (in_tables_1_6 (List.mem_of_getElem? (i := 159) rfl)) rfl, by decide, by decide, by decide +kernel⟩
theorem meModel_look : bs_Mi yModel_look bModel_look 3 (some .int) 1 := ⟨bs_in (in_tables_1_6 (List.mem_of_getElem? (i := 61) rfl)) rfl, bs_in (sel_priv (q := ((yModel_look), 35)) (List.mem_of_getElem? (i := 51) rfl)) rfl, bs_in (in_tables_1_1 (List.mem_of_getElem? (i := 14) rfl)) rfl, bs_in (in_tables_1_6 (List.mem_of_getElem? (i := 62) rfl)) rfl, by decide, by decide, by decide +kernel⟩
theorem meModel_factOfType : bs_Mi yModel_factOfType bModel_factOfType 3 none 2 := ⟨bs_in (in_tables_1_6 (List.mem_of_getElem? (i := 85) rfl)) rfl, bs_in (sel_priv (q := ((yModel_factOfType), 35)) (List.mem_of_getElem? (i := 57) rfl)) rfl, bs_in (in_tables_1_1 (List.mem_of_getElem? (i := 14) rfl)) rfl, bs_in (in_tables_1_6 (List.mem_of_getElem? (i := 86) rfl)) rfl, by decide, by decide, by decide +kernel⟩
theorem meModel_lookName : bs_Mi yModel_lookName bModel_lookName 3 (some .int) 1 := ⟨bs_in (in_tables_1_6 (List.mem_of_getElem? (i := 65) rfl)) rfl, bs_in (sel_priv (q := ((yModel_lookName), 35)) (List.mem_of_getElem? (i := 52) rfl)) rfl, bs_in (in_tables_1_1 (List.mem_of_getElem? (i := 14) rfl)) rfl, bs_in (in_tables_1_6 (List.mem_of_getElem? (i := 66) rfl)) rfl, by decide, by decide, by decide +kernel⟩
theorem meModel_lookRow : bs_Mi yModel_lookRow bModel_lookRow 5 (some .int) 1 := ⟨bs_in (in_tables_1_6 (List.mem_of_getElem? (i := 93) rfl)) rfl, bs_in (sel_priv (q := ((yModel_lookRow), 35)) (List.mem_of_getElem? (i := 59) rfl)) rfl, bs_in (in_tables_1_1 (List.mem_of_getElem? (i := 14) rfl)) rfl, bs_in (in_tables_1_6 (List.mem_of_getElem? (i := 94) rfl)) rfl, by decide, by decide, by decide +kernel⟩
theorem meModel_not : bs_Ms yModel_not bModel_not 1 (some .int) 1 := ⟨bs_in (in_tables_1_6 (List.mem_of_getElem? (i := 108) rfl)) rfl, bs_in (in_tables_1_1 (List.mem_of_getElem? (i := 14) rfl)) rfl, bs_in (in_tables_1_6 (List.mem_of_getElem? (i := 109) rfl)) rfl, by decide, by decide, by decide +kernel⟩
theorem meModel_join : bs_Ms yModel_join bModel_join 4 (some .int) 3 := ⟨bs_in (in_tables_1_6 (List.mem_of_getElem? (i := 131) rfl)) rfl, bs_in (in_tables_1_1 (List.mem_of_getElem? (i := 14) rfl)) rfl, bs_in (in_tables_1_6 (List.mem_of_getElem? (i := 132) rfl)) rfl, by decide, by decide, by decide +kernel⟩
theorem meModel_logic : bs_Ms yModel_logic bModel_logic 4 (some .int) 3 := ⟨bs_in (in_tables_1_6 (List.mem_of_getElem? (i := 128) rfl)) rfl, bs_in (in_tables_1_1 (List.mem_of_getElem? (i := 14) rfl)) rfl, bs_in (in_tables_1_6 (List.mem_of_getElem? (i := 129) rfl)) rfl, by decide, by decide, by decide +kernel⟩
theorem meModel_truth : bs_Ms yModel_truth bModel_truth 4 (some .boolean) 3 := ⟨bs_in (in_tables_1_6 (List.mem_of_getElem? (i := 125) rfl)) rfl, bs_in (in_tables_1_1 (List.mem_of_getElem? (i := 14) rfl)) rfl, bs_in (in_tables_1_6 (List.mem_of_getElem? (i := 126) rfl)) rfl, by decide, by decide, by decide +kernel⟩
theorem meModel_known : bs_Mi yModel_known bModel_known 3 (some .int) 1 := ⟨bs_in (in_tables_1_6 (List.mem_of_getElem? (i := 105) rfl)) rfl, bs_in (sel_priv (q := ((yModel_known), 35)) (List.mem_of_getElem? (i := 62) rfl)) rfl, bs_in (in_tables_1_1 (List.mem_of_getElem? (i := 14) rfl)) rfl, bs_in (in_tables_1_6 (List.mem_of_getElem? (i := 106) rfl)) rfl, by decide, by decide, by decide +kernel⟩
theorem meModel_lookUnary : bs_Mi yModel_lookUnary bModel_lookUnary 5 (some .int) 2 := ⟨bs_in (in_tables_1_6 (List.mem_of_getElem? (i := 101) rfl)) rfl, bs_in (sel_priv (q := ((yModel_lookUnary), 35)) (List.mem_of_getElem? (i := 61) rfl)) rfl, bs_in (in_tables_1_1 (List.mem_of_getElem? (i := 14) rfl)) rfl, bs_in (in_tables_1_6 (List.mem_of_getElem? (i := 102) rfl)) rfl, by decide, by decide, by decide +kernel⟩
theorem meModel_lookBinary : bs_Mi yModel_lookBinary bModel_lookBinary 5 (some .int) 3 := ⟨bs_in (in_tables_1_6 (List.mem_of_getElem? (i := 118) rfl)) rfl, bs_in (sel_priv (q := ((yModel_lookBinary), 35)) (List.mem_of_getElem? (i := 63) rfl)) rfl, bs_in (in_tables_1_1 (List.mem_of_getElem? (i := 14) rfl)) rfl, bs_in (in_tables_1_6 (List.mem_of_getElem? (i := 119) rfl)) rfl, by decide, by decide, by decide +kernel⟩
theorem meModel_lookLogic : bs_Mi yModel_lookLogic bModel_lookLogic 6 (some .int) 4 := ⟨bs_in (in_tables_1_6 (List.mem_of_getElem? (i := 122) rfl)) rfl, bs_in (sel_priv (q := ((yModel_lookLogic), 35)) (List.mem_of_getElem? (i := 64) rfl)) rfl, bs_in (in_tables_1_1 (List.mem_of_getElem? (i := 14) rfl)) rfl, bs_in (in_tables_1_6 (List.mem_of_getElem? (i := 123) rfl)) rfl, by decide, by decide, by decide +kernel⟩
theorem meModel_lookOrder : bs_Mi yModel_lookOrder bModel_lookOrder 10 (some .int) 4 := ⟨bs_in (in_tables_1_6 (List.mem_of_getElem? (i := 135) rfl)) rfl, bs_in (sel_priv (q := ((yModel_lookOrder), 35)) (List.mem_of_getElem? (i := 65) rfl)) rfl, bs_in (in_tables_1_1 (List.mem_of_getElem? (i := 14) rfl)) rfl, bs_in (in_tables_1_6 (List.mem_of_getElem? (i := 136) rfl)) rfl, by decide, by decide, by decide +kernel⟩
theorem meModel_integer : bs_Mi yModel_integer bModel_integer 5 (some .int) 3 := ⟨bs_in (in_tables_1_6 (List.mem_of_getElem? (i := 147) rfl)) rfl, bs_in (sel_priv (q := ((yModel_integer), 35)) (List.mem_of_getElem? (i := 68) rfl)) rfl, bs_in (in_tables_1_1 (List.mem_of_getElem? (i := 14) rfl)) rfl, bs_in (in_tables_1_6 (List.mem_of_getElem? (i := 148) rfl)) rfl, by decide, by decide, by decide +kernel⟩
theorem meModel_lookSum : bs_Mi yModel_lookSum bModel_lookSum 14 (some .int) 4 := ⟨bs_in (in_tables_1_6 (List.mem_of_getElem? (i := 143) rfl)) rfl, bs_in (sel_priv (q := ((yModel_lookSum), 35)) (List.mem_of_getElem? (i := 67) rfl)) rfl, bs_in (in_tables_1_1 (List.mem_of_getElem? (i := 14) rfl)) rfl, bs_in (in_tables_1_6 (List.mem_of_getElem? (i := 144) rfl)) rfl, by decide, by decide, by decide +kernel⟩
theorem meModel_lookJoined : bs_Mi yModel_lookJoined bModel_lookJoined 7 (some .int) 3 := ⟨bs_in (in_tables_1_6 (List.mem_of_getElem? (i := 162) rfl)) rfl, bs_in (sel_priv (q := ((yModel_lookJoined), 35)) (List.mem_of_getElem? (i := 71) rfl)) rfl, bs_in (in_tables_1_1 (List.mem_of_getElem? (i := 14) rfl)) rfl, bs_in (in_tables_1_6 (List.mem_of_getElem? (i := 163) rfl)) rfl, by decide, by decide, by decide +kernel⟩
theorem meModel_lookNumbers : bs_Mi yModel_lookNumbers bModel_lookNumbers 16 (some .int) 4 := ⟨bs_in (in_tables_1_6 (List.mem_of_getElem? (i := 166) rfl)) rfl, bs_in (sel_priv (q := ((yModel_lookNumbers), 35)) (List.mem_of_getElem? (i := 72) rfl)) rfl, bs_in (in_tables_1_1 (List.mem_of_getElem? (i := 14) rfl)) rfl, bs_in (in_tables_1_6 (List.mem_of_getElem? (i := 167) rfl)) rfl, by decide, by decide, by decide +kernel⟩
theorem meModel_lookShift : bs_Mi yModel_lookShift bModel_lookShift 10 (some .int) 4 := ⟨bs_in (in_tables_1_6 (List.mem_of_getElem? (i := 170) rfl)) rfl, bs_in (sel_priv (q := ((yModel_lookShift), 35)) (List.mem_of_getElem? (i := 73) rfl)) rfl, bs_in (in_tables_1_1 (List.mem_of_getElem? (i := 14) rfl)) rfl, bs_in (in_tables_1_6 (List.mem_of_getElem? (i := 171) rfl)) rfl, by decide, by decide, by decide +kernel⟩
theorem meModel_within : bs_Mi yModel_within bModel_within 4 (some .boolean) 2 := ⟨bs_in (in_tables_1_6 (List.mem_of_getElem? (i := 187) rfl)) rfl, bs_in (sel_priv (q := ((yModel_within), 35)) (List.mem_of_getElem? (i := 77) rfl)) rfl, bs_in (in_tables_1_1 (List.mem_of_getElem? (i := 14) rfl)) rfl, bs_in (in_tables_1_6 (List.mem_of_getElem? (i := 188) rfl)) rfl, by decide, by decide, by decide +kernel⟩
theorem meModel_rowObject : bs_Mi yModel_rowObject bModel_rowObject 2 (some .int) 1 := ⟨bs_in (in_tables_1_6 (List.mem_of_getElem? (i := 183) rfl)) rfl, bs_in (sel_priv (q := ((yModel_rowObject), 35)) (List.mem_of_getElem? (i := 76) rfl)) rfl, bs_in (in_tables_1_1 (List.mem_of_getElem? (i := 14) rfl)) rfl, bs_in (in_tables_1_6 (List.mem_of_getElem? (i := 184) rfl)) rfl, by decide, by decide, by decide +kernel⟩
theorem meModel_lookApply : bs_Mi yModel_lookApply bModel_lookApply 6 (some .int) 1 := ⟨bs_in (in_tables_1_6 (List.mem_of_getElem? (i := 174) rfl)) rfl, bs_in (sel_priv (q := ((yModel_lookApply), 35)) (List.mem_of_getElem? (i := 74) rfl)) rfl, bs_in (in_tables_1_1 (List.mem_of_getElem? (i := 14) rfl)) rfl, bs_in (in_tables_1_6 (List.mem_of_getElem? (i := 175) rfl)) rfl, by decide, by decide, by decide +kernel⟩
theorem meModel_lookFunction : bs_Mi yModel_lookFunction bModel_lookFunction 6 (some .int) 2 := ⟨bs_in (in_tables_1_6 (List.mem_of_getElem? (i := 178) rfl)) rfl, bs_in (sel_priv (q := ((yModel_lookFunction), 35)) (List.mem_of_getElem? (i := 75) rfl)) rfl, bs_in (in_tables_1_1 (List.mem_of_getElem? (i := 14) rfl)) rfl, bs_in (in_tables_1_6 (List.mem_of_getElem? (i := 179) rfl)) rfl, by decide, by decide, by decide +kernel⟩
theorem meModel_lookSlice : bs_Mi yModel_lookSlice bModel_lookSlice 12 (some .int) 3 := ⟨bs_in (in_tables_1_6 (List.mem_of_getElem? (i := 193) rfl)) rfl, bs_in (sel_priv (q := ((yModel_lookSlice), 35)) (List.mem_of_getElem? (i := 78) rfl)) rfl, bs_in (in_tables_1_1 (List.mem_of_getElem? (i := 14) rfl)) rfl, bs_in (in_tables_1_6 (List.mem_of_getElem? (i := 194) rfl)) rfl, by decide, by decide, by decide +kernel⟩
theorem meModel_lookAttribute : bs_Mi yModel_lookAttribute bModel_lookAttribute 5 (some .int) 1 := ⟨bs_in (in_tables_1_6 (List.mem_of_getElem? (i := 197) rfl)) rfl, bs_in (sel_priv (q := ((yModel_lookAttribute), 35)) (List.mem_of_getElem? (i := 79) rfl)) rfl, bs_in (in_tables_1_1 (List.mem_of_getElem? (i := 14) rfl)) rfl, bs_in (in_tables_1_6 (List.mem_of_getElem? (i := 198) rfl)) rfl, by decide, by decide, by decide +kernel⟩
theorem meModel_below : bs_Mi yModel_below bModel_below 5 (some .boolean) 2 := ⟨bs_in (in_tables_1_6 (List.mem_of_getElem? (i := 57) rfl)) rfl, bs_in (sel_priv (q := ((yModel_below), 35)) (List.mem_of_getElem? (i := 50) rfl)) rfl, bs_in (in_tables_1_1 (List.mem_of_getElem? (i := 14) rfl)) rfl, bs_in (in_tables_1_6 (List.mem_of_getElem? (i := 58) rfl)) rfl, by decide, by decide, by decide +kernel⟩
theorem meModel_goThrough : bs_Mi yModel_goThrough bModel_goThrough 5 (some .int) 2 := ⟨bs_in (in_tables_1_6 (List.mem_of_getElem? (i := 53) rfl)) rfl, bs_in (sel_priv (q := ((yModel_goThrough), 35)) (List.mem_of_getElem? (i := 49) rfl)) rfl, bs_in (in_tables_1_1 (List.mem_of_getElem? (i := 14) rfl)) rfl, bs_in (in_tables_1_6 (List.mem_of_getElem? (i := 54) rfl)) rfl, by decide, by decide, by decide +kernel⟩
theorem meModel_keep : bs_Mi yModel_keep bModel_keep 4 none 2 := ⟨bs_in (in_tables_1_6 (List.mem_of_getElem? (i := 209) rfl)) rfl, bs_in (sel_priv (q := ((yModel_keep), 35)) (List.mem_of_getElem? (i := 82) rfl)) rfl, bs_in (in_tables_1_1 (List.mem_of_getElem? (i := 14) rfl)) rfl, bs_in (in_tables_1_6 (List.mem_of_getElem? (i := 210) rfl)) rfl, by decide, by decide, by decide +kernel⟩
theorem meModel_wrong : bs_Mi yModel_wrong bModel_wrong 3 (some .int) 2 := ⟨bs_in (in_tables_1_6 (List.mem_of_getElem? (i := 201) rfl)) rfl, bs_in (sel_priv (q := ((yModel_wrong), 35)) (List.mem_of_getElem? (i := 80) rfl)) rfl, bs_in (in_tables_1_1 (List.mem_of_getElem? (i := 14) rfl)) rfl, bs_in (in_tables_1_6 (List.mem_of_getElem? (i := 202) rfl)) rfl, by decide, by decide, by decide +kernel⟩
theorem meModel_type : bs_Mi yModel_type bModel_type 13 (some .int) 1 := ⟨bs_in (in_tables_1_6 (List.mem_of_getElem? (i := 44) rfl)) rfl, bs_in (in_tables_1_6 (List.mem_of_getElem? (i := 45) rfl)) rfl, bs_in (in_tables_1_1 (List.mem_of_getElem? (i := 14) rfl)) rfl, bs_in (in_tables_1_6 (List.mem_of_getElem? (i := 46) rfl)) rfl, by decide, by decide, by decide +kernel⟩
theorem meModel_constantFault : bs_Mi yModel_constantFault bModel_constantFault 2 (some .int) 1 := ⟨bs_in (in_tables_1_6 (List.mem_of_getElem? (i := 205) rfl)) rfl, bs_in (sel_priv (q := ((yModel_constantFault), 35)) (List.mem_of_getElem? (i := 81) rfl)) rfl, bs_in (in_tables_1_1 (List.mem_of_getElem? (i := 14) rfl)) rfl, bs_in (in_tables_1_6 (List.mem_of_getElem? (i := 206) rfl)) rfl, by decide, by decide, by decide +kernel⟩
theorem meModel_enumeration : bs_Mi yModel_enumeration bModel_enumeration 7 (some .int) 1 := ⟨bs_in (in_tables_1_6 (List.mem_of_getElem? (i := 212) rfl)) rfl, bs_in (in_tables_1_6 (List.mem_of_getElem? (i := 213) rfl)) rfl, bs_in (in_tables_1_1 (List.mem_of_getElem? (i := 14) rfl)) rfl, bs_in (in_tables_1_6 (List.mem_of_getElem? (i := 214) rfl)) rfl, by decide, by decide, by decide +kernel⟩
theorem meModel_subtype : bs_Mi yModel_subtype bModel_subtype 3 (some .int) 2 := ⟨bs_in (in_tables_1_6 (List.mem_of_getElem? (i := 224) rfl)) rfl, bs_in (in_tables_1_6 (List.mem_of_getElem? (i := 225) rfl)) rfl, bs_in (in_tables_1_1 (List.mem_of_getElem? (i := 14) rfl)) rfl, bs_in (in_tables_1_6 (List.mem_of_getElem? (i := 226) rfl)) rfl, by decide, by decide, by decide +kernel⟩
theorem meModel_fits : bs_Mi yModel_fits bModel_fits 3 (some .int) 2 := ⟨bs_in (in_tables_1_6 (List.mem_of_getElem? (i := 237) rfl)) rfl, bs_in (sel_priv (q := ((yModel_fits), 35)) (List.mem_of_getElem? (i := 86) rfl)) rfl, bs_in (in_tables_1_1 (List.mem_of_getElem? (i := 14) rfl)) rfl, bs_in (in_tables_1_6 (List.mem_of_getElem? (i := 238) rfl)) rfl, by decide, by decide, by decide +kernel⟩
theorem meModel_declare : bs_Mi yModel_declare bModel_declare 7 (some .int) 4 := ⟨bs_in (in_tables_1_6 (List.mem_of_getElem? (i := 232) rfl)) rfl, bs_in (in_tables_1_6 (List.mem_of_getElem? (i := 233) rfl)) rfl, bs_in (in_tables_1_1 (List.mem_of_getElem? (i := 14) rfl)) rfl, bs_in (in_tables_1_6 (List.mem_of_getElem? (i := 234) rfl)) rfl, by decide, by decide, by decide +kernel⟩
theorem meModel_check : bs_Mi yModel_check bModel_check 4 (some .int) 2 := ⟨bs_in (in_tables_1_7 (List.mem_of_getElem? (i := 0) rfl)) rfl, bs_in (in_tables_1_7 (List.mem_of_getElem? (i := 1) rfl)) rfl, bs_in (in_tables_1_1 (List.mem_of_getElem? (i := 14) rfl)) rfl, bs_in (in_tables_1_7 (List.mem_of_getElem? (i := 2) rfl)) rfl, by decide, by decide, by decide +kernel⟩
theorem meModel_place : bs_Mi yModel_place bModel_place 1 (some .int) 0 := ⟨bs_in (in_tables_1_7 (List.mem_of_getElem? (i := 4) rfl)) rfl, bs_in (in_tables_1_7 (List.mem_of_getElem? (i := 5) rfl)) rfl, bs_in (in_tables_1_1 (List.mem_of_getElem? (i := 14) rfl)) rfl, bs_in (in_tables_1_7 (List.mem_of_getElem? (i := 6) rfl)) rfl, by decide, by decide, by decide +kernel⟩
theorem meModel_typeOf : bs_Mi yModel_typeOf bModel_typeOf 3 (some .int) 2 := ⟨bs_in (in_tables_1_7 (List.mem_of_getElem? (i := 8) rfl)) rfl, bs_in (in_tables_1_7 (List.mem_of_getElem? (i := 9) rfl)) rfl, bs_in (in_tables_1_1 (List.mem_of_getElem? (i := 14) rfl)) rfl, bs_in (in_tables_1_7 (List.mem_of_getElem? (i := 10) rfl)) rfl, by decide, by decide, by decide +kernel⟩
theorem meModel_about : bs_Mi yModel_about bModel_about 4 (some .int) 2 := ⟨bs_in (in_tables_1_7 (List.mem_of_getElem? (i := 12) rfl)) rfl, bs_in (in_tables_1_7 (List.mem_of_getElem? (i := 13) rfl)) rfl, bs_in (in_tables_1_1 (List.mem_of_getElem? (i := 14) rfl)) rfl, bs_in (in_tables_1_7 (List.mem_of_getElem? (i := 14) rfl)) rfl, by decide, by decide, by decide +kernel⟩
theorem meModel_value : bs_Mi yModel_value bModel_value 5 (some .int) 2 := ⟨bs_in (in_tables_1_7 (List.mem_of_getElem? (i := 16) rfl)) rfl, bs_in (in_tables_1_7 (List.mem_of_getElem? (i := 17) rfl)) rfl, bs_in (in_tables_1_1 (List.mem_of_getElem? (i := 14) rfl)) rfl, bs_in (in_tables_1_7 (List.mem_of_getElem? (i := 18) rfl)) rfl, by decide, by decide, by decide +kernel⟩
theorem dModel_init_0 : decode bModel_init 0 = .ok (.aload_n 0, 1) := by decide +kernel
theorem dModel_init_1 : decode bModel_init 1 = .ok (.invokespecial 1, 3) := by decide +kernel
theorem dModel_init_4 : decode bModel_init 4 = .ok (.aload_n 0, 1) := by decide +kernel
theorem dModel_init_5 : decode bModel_init 5 = .ok (.iconst (-1), 1) := by decide +kernel
theorem dModel_init_6 : decode bModel_init 6 = .ok (.putfield 9, 3) := by decide +kernel
theorem dModel_init_9 : decode bModel_init 9 = .ok (.aload_n 0, 1) := by decide +kernel
theorem dModel_init_10 : decode bModel_init 10 = .ok (.sipush 4000, 3) := by decide +kernel
theorem dModel_init_13 : decode bModel_init 13 = .ok (.newarray .int, 2) := by decide +kernel
theorem dModel_init_15 : decode bModel_init 15 = .ok (.putfield 13, 3) := by decide +kernel
theorem dModel_init_18 : decode bModel_init 18 = .ok (.aload_n 0, 1) := by decide +kernel
theorem dModel_init_19 : decode bModel_init 19 = .ok (.sipush 4000, 3) := by decide +kernel
theorem dModel_init_22 : decode bModel_init 22 = .ok (.newarray .int, 2) := by decide +kernel
theorem dModel_init_24 : decode bModel_init 24 = .ok (.putfield 17, 3) := by decide +kernel
theorem dModel_init_27 : decode bModel_init 27 = .ok (.aload_n 0, 1) := by decide +kernel
theorem dModel_init_28 : decode bModel_init 28 = .ok (.sipush 4000, 3) := by decide +kernel
theorem dModel_init_31 : decode bModel_init 31 = .ok (.newarray .int, 2) := by decide +kernel
theorem dModel_init_33 : decode bModel_init 33 = .ok (.putfield 20, 3) := by decide +kernel
theorem dModel_init_36 : decode bModel_init 36 = .ok (.aload_n 0, 1) := by decide +kernel
theorem dModel_init_37 : decode bModel_init 37 = .ok (.sipush 4000, 3) := by decide +kernel
theorem dModel_init_40 : decode bModel_init 40 = .ok (.newarray .int, 2) := by decide +kernel
theorem dModel_init_42 : decode bModel_init 42 = .ok (.putfield 23, 3) := by decide +kernel
theorem dModel_init_45 : decode bModel_init 45 = .ok (.aload_n 0, 1) := by decide +kernel
theorem dModel_init_46 : decode bModel_init 46 = .ok (.sipush 4000, 3) := by decide +kernel
theorem dModel_init_49 : decode bModel_init 49 = .ok (.newarray .int, 2) := by decide +kernel
theorem dModel_init_51 : decode bModel_init 51 = .ok (.putfield 26, 3) := by decide +kernel
theorem dModel_init_54 : decode bModel_init 54 = .ok (.aload_n 0, 1) := by decide +kernel
theorem dModel_init_55 : decode bModel_init 55 = .ok (.sipush 10000, 3) := by decide +kernel
theorem dModel_init_58 : decode bModel_init 58 = .ok (.newarray .int, 2) := by decide +kernel
theorem dModel_init_60 : decode bModel_init 60 = .ok (.putfield 29, 3) := by decide +kernel
theorem dModel_init_63 : decode bModel_init 63 = .ok (.aload_n 0, 1) := by decide +kernel
theorem dModel_init_64 : decode bModel_init 64 = .ok (.sipush 10000, 3) := by decide +kernel
theorem dModel_init_67 : decode bModel_init 67 = .ok (.newarray .int, 2) := by decide +kernel
theorem dModel_init_69 : decode bModel_init 69 = .ok (.putfield 32, 3) := by decide +kernel
theorem dModel_init_72 : decode bModel_init 72 = .ok (.aload_n 0, 1) := by decide +kernel
theorem dModel_init_73 : decode bModel_init 73 = .ok (.sipush 10000, 3) := by decide +kernel
theorem dModel_init_76 : decode bModel_init 76 = .ok (.newarray .boolean, 2) := by decide +kernel
theorem dModel_init_78 : decode bModel_init 78 = .ok (.putfield 35, 3) := by decide +kernel
theorem dModel_init_81 : decode bModel_init 81 = .ok (.aload_n 0, 1) := by decide +kernel
theorem dModel_init_82 : decode bModel_init 82 = .ok (.sipush 10000, 3) := by decide +kernel
theorem dModel_init_85 : decode bModel_init 85 = .ok (.newarray .int, 2) := by decide +kernel
theorem dModel_init_87 : decode bModel_init 87 = .ok (.putfield 39, 3) := by decide +kernel
theorem dModel_init_90 : decode bModel_init 90 = .ok (.aload_n 0, 1) := by decide +kernel
theorem dModel_init_91 : decode bModel_init 91 = .ok (.sipush 10000, 3) := by decide +kernel
theorem dModel_init_94 : decode bModel_init 94 = .ok (.newarray .long, 2) := by decide +kernel
theorem dModel_init_96 : decode bModel_init 96 = .ok (.putfield 42, 3) := by decide +kernel
theorem dModel_init_99 : decode bModel_init 99 = .ok (.aload_n 0, 1) := by decide +kernel
theorem dModel_init_100 : decode bModel_init 100 = .ok (.ldc 46, 2) := by decide +kernel
theorem dModel_init_102 : decode bModel_init 102 = .ok (.newarray .byte, 2) := by decide +kernel
theorem dModel_init_104 : decode bModel_init 104 = .ok (.putfield 47, 3) := by decide +kernel
theorem dModel_init_107 : decode bModel_init 107 = .ok (.aload_n 0, 1) := by decide +kernel
theorem dModel_init_108 : decode bModel_init 108 = .ok (.sipush 4000, 3) := by decide +kernel
theorem dModel_init_111 : decode bModel_init 111 = .ok (.newarray .boolean, 2) := by decide +kernel
theorem dModel_init_113 : decode bModel_init 113 = .ok (.putfield 51, 3) := by decide +kernel
theorem dModel_init_116 : decode bModel_init 116 = .ok (.aload_n 0, 1) := by decide +kernel
theorem dModel_init_117 : decode bModel_init 117 = .ok (.sipush 1000, 3) := by decide +kernel
theorem dModel_init_120 : decode bModel_init 120 = .ok (.newarray .int, 2) := by decide +kernel
theorem dModel_init_122 : decode bModel_init 122 = .ok (.putfield 54, 3) := by decide +kernel
theorem dModel_init_125 : decode bModel_init 125 = .ok (.aload_n 0, 1) := by decide +kernel
theorem dModel_init_126 : decode bModel_init 126 = .ok (.sipush 1000, 3) := by decide +kernel
theorem dModel_init_129 : decode bModel_init 129 = .ok (.newarray .int, 2) := by decide +kernel
theorem dModel_init_131 : decode bModel_init 131 = .ok (.putfield 57, 3) := by decide +kernel
theorem dModel_init_134 : decode bModel_init 134 = .ok (.aload_n 0, 1) := by decide +kernel
theorem dModel_init_135 : decode bModel_init 135 = .ok (.sipush 1000, 3) := by decide +kernel
theorem dModel_init_138 : decode bModel_init 138 = .ok (.newarray .int, 2) := by decide +kernel
theorem dModel_init_140 : decode bModel_init 140 = .ok (.putfield 60, 3) := by decide +kernel
theorem dModel_init_143 : decode bModel_init 143 = .ok (.aload_n 0, 1) := by decide +kernel
theorem dModel_init_144 : decode bModel_init 144 = .ok (.sipush 1000, 3) := by decide +kernel
theorem dModel_init_147 : decode bModel_init 147 = .ok (.newarray .int, 2) := by decide +kernel
theorem dModel_init_149 : decode bModel_init 149 = .ok (.putfield 63, 3) := by decide +kernel
theorem dModel_init_152 : decode bModel_init 152 = .ok (.aload_n 0, 1) := by decide +kernel
theorem dModel_init_153 : decode bModel_init 153 = .ok (.sipush 1000, 3) := by decide +kernel
theorem dModel_init_156 : decode bModel_init 156 = .ok (.newarray .boolean, 2) := by decide +kernel
theorem dModel_init_158 : decode bModel_init 158 = .ok (.putfield 66, 3) := by decide +kernel
theorem dModel_init_161 : decode bModel_init 161 = .ok (.aload_n 0, 1) := by decide +kernel
theorem dModel_init_162 : decode bModel_init 162 = .ok (.sipush 2000, 3) := by decide +kernel
theorem dModel_init_165 : decode bModel_init 165 = .ok (.newarray .int, 2) := by decide +kernel
theorem dModel_init_167 : decode bModel_init 167 = .ok (.putfield 69, 3) := by decide +kernel
theorem dModel_init_170 : decode bModel_init 170 = .ok (.aload_n 0, 1) := by decide +kernel
theorem dModel_init_171 : decode bModel_init 171 = .ok (.sipush 2000, 3) := by decide +kernel
theorem dModel_init_174 : decode bModel_init 174 = .ok (.newarray .int, 2) := by decide +kernel
theorem dModel_init_176 : decode bModel_init 176 = .ok (.putfield 72, 3) := by decide +kernel
theorem dModel_init_179 : decode bModel_init 179 = .ok (.aload_n 0, 1) := by decide +kernel
theorem dModel_init_180 : decode bModel_init 180 = .ok (.sipush 3000, 3) := by decide +kernel
theorem dModel_init_183 : decode bModel_init 183 = .ok (.newarray .int, 2) := by decide +kernel
theorem dModel_init_185 : decode bModel_init 185 = .ok (.putfield 75, 3) := by decide +kernel
theorem dModel_init_188 : decode bModel_init 188 = .ok (.aload_n 0, 1) := by decide +kernel
theorem dModel_init_189 : decode bModel_init 189 = .ok (.sipush 3000, 3) := by decide +kernel
theorem dModel_init_192 : decode bModel_init 192 = .ok (.newarray .int, 2) := by decide +kernel
theorem dModel_init_194 : decode bModel_init 194 = .ok (.putfield 78, 3) := by decide +kernel
theorem dModel_init_197 : decode bModel_init 197 = .ok (.aload_n 0, 1) := by decide +kernel
theorem dModel_init_198 : decode bModel_init 198 = .ok (.sipush 3000, 3) := by decide +kernel
theorem dModel_init_201 : decode bModel_init 201 = .ok (.newarray .int, 2) := by decide +kernel
theorem dModel_init_203 : decode bModel_init 203 = .ok (.putfield 81, 3) := by decide +kernel
theorem dModel_init_206 : decode bModel_init 206 = .ok (.aload_n 0, 1) := by decide +kernel
theorem dModel_init_207 : decode bModel_init 207 = .ok (.sipush 3000, 3) := by decide +kernel
theorem dModel_init_210 : decode bModel_init 210 = .ok (.newarray .int, 2) := by decide +kernel
theorem dModel_init_212 : decode bModel_init 212 = .ok (.putfield 84, 3) := by decide +kernel
theorem dModel_init_215 : decode bModel_init 215 = .ok (.aload_n 0, 1) := by decide +kernel
theorem dModel_init_216 : decode bModel_init 216 = .ok (.sipush 3000, 3) := by decide +kernel
theorem dModel_init_219 : decode bModel_init 219 = .ok (.newarray .int, 2) := by decide +kernel
theorem dModel_init_221 : decode bModel_init 221 = .ok (.putfield 87, 3) := by decide +kernel
theorem dModel_init_224 : decode bModel_init 224 = .ok (.aload_n 0, 1) := by decide +kernel
theorem dModel_init_225 : decode bModel_init 225 = .ok (.iconst 1, 1) := by decide +kernel
theorem dModel_init_226 : decode bModel_init 226 = .ok (.putfield 90, 3) := by decide +kernel
theorem dModel_init_229 : decode bModel_init 229 = .ok (.aload_n 0, 1) := by decide +kernel
theorem dModel_init_230 : decode bModel_init 230 = .ok (.iconst 0, 1) := by decide +kernel
theorem dModel_init_231 : decode bModel_init 231 = .ok (.iconst 0, 1) := by decide +kernel
theorem dModel_init_232 : decode bModel_init 232 = .ok (.iconst 0, 1) := by decide +kernel
theorem dModel_init_233 : decode bModel_init 233 = .ok (.iconst 0, 1) := by decide +kernel
theorem dModel_init_234 : decode bModel_init 234 = .ok (.iconst 0, 1) := by decide +kernel
theorem dModel_init_235 : decode bModel_init 235 = .ok (.invokevirtual 93, 3) := by decide +kernel
theorem dModel_init_238 : decode bModel_init 238 = .ok (.pop, 1) := by decide +kernel
theorem dModel_init_239 : decode bModel_init 239 = .ok (.aload_n 0, 1) := by decide +kernel
theorem dModel_init_240 : decode bModel_init 240 = .ok (.iconst 1, 1) := by decide +kernel
theorem dModel_init_241 : decode bModel_init 241 = .ok (.iconst 0, 1) := by decide +kernel
theorem dModel_init_242 : decode bModel_init 242 = .ok (.iconst 0, 1) := by decide +kernel
theorem dModel_init_243 : decode bModel_init 243 = .ok (.iconst 0, 1) := by decide +kernel
theorem dModel_init_244 : decode bModel_init 244 = .ok (.iconst 0, 1) := by decide +kernel
theorem dModel_init_245 : decode bModel_init 245 = .ok (.invokevirtual 93, 3) := by decide +kernel
theorem dModel_init_248 : decode bModel_init 248 = .ok (.pop, 1) := by decide +kernel
theorem dModel_init_249 : decode bModel_init 249 = .ok (.aload_n 0, 1) := by decide +kernel
theorem dModel_init_250 : decode bModel_init 250 = .ok (.iconst 2, 1) := by decide +kernel
theorem dModel_init_251 : decode bModel_init 251 = .ok (.ldc 97, 2) := by decide +kernel
theorem dModel_init_253 : decode bModel_init 253 = .ok (.ldc 98, 2) := by decide +kernel
theorem dModel_init_255 : decode bModel_init 255 = .ok (.iconst 0, 1) := by decide +kernel
theorem dModel_init_256 : decode bModel_init 256 = .ok (.iconst 0, 1) := by decide +kernel
theorem dModel_init_257 : decode bModel_init 257 = .ok (.invokevirtual 93, 3) := by decide +kernel
theorem dModel_init_260 : decode bModel_init 260 = .ok (.pop, 1) := by decide +kernel
theorem dModel_init_261 : decode bModel_init 261 = .ok (.aload_n 0, 1) := by decide +kernel
theorem dModel_init_262 : decode bModel_init 262 = .ok (.iconst 2, 1) := by decide +kernel
theorem dModel_init_263 : decode bModel_init 263 = .ok (.iconst 0, 1) := by decide +kernel
theorem dModel_init_264 : decode bModel_init 264 = .ok (.ldc 98, 2) := by decide +kernel
theorem dModel_init_266 : decode bModel_init 266 = .ok (.iconst 0, 1) := by decide +kernel
theorem dModel_init_267 : decode bModel_init 267 = .ok (.iconst 0, 1) := by decide +kernel
theorem dModel_init_268 : decode bModel_init 268 = .ok (.invokevirtual 93, 3) := by decide +kernel
theorem dModel_init_271 : decode bModel_init 271 = .ok (.pop, 1) := by decide +kernel
theorem dModel_init_272 : decode bModel_init 272 = .ok (.aload_n 0, 1) := by decide +kernel
theorem dModel_init_273 : decode bModel_init 273 = .ok (.iconst 2, 1) := by decide +kernel
theorem dModel_init_274 : decode bModel_init 274 = .ok (.iconst 1, 1) := by decide +kernel
theorem dModel_init_275 : decode bModel_init 275 = .ok (.ldc 98, 2) := by decide +kernel
theorem dModel_init_277 : decode bModel_init 277 = .ok (.iconst 0, 1) := by decide +kernel
theorem dModel_init_278 : decode bModel_init 278 = .ok (.iconst 0, 1) := by decide +kernel
theorem dModel_init_279 : decode bModel_init 279 = .ok (.invokevirtual 93, 3) := by decide +kernel
theorem dModel_init_282 : decode bModel_init 282 = .ok (.pop, 1) := by decide +kernel
theorem dModel_init_283 : decode bModel_init 283 = .ok (.return_, 1) := by decide +kernel
theorem dModel_thrown_0 : decode bModel_thrown 0 = .ok (.aload_n 0, 1) := by decide +kernel
theorem dModel_thrown_1 : decode bModel_thrown 1 = .ok (.getfield 99, 3) := by decide +kernel
theorem dModel_thrown_4 : decode bModel_thrown 4 = .ok (.ireturn, 1) := by decide +kernel
theorem dModel_newType_0 : decode bModel_newType 0 = .ok (.aload_n 0, 1) := by decide +kernel
theorem dModel_newType_1 : decode bModel_newType 1 = .ok (.getfield 54, 3) := by decide +kernel
theorem dModel_newType_4 : decode bModel_newType 4 = .ok (.aload_n 0, 1) := by decide +kernel
theorem dModel_newType_5 : decode bModel_newType 5 = .ok (.getfield 102, 3) := by decide +kernel
theorem dModel_newType_8 : decode bModel_newType 8 = .ok (.iload_n 1, 1) := by decide +kernel
theorem dModel_newType_9 : decode bModel_newType 9 = .ok (.iastore, 1) := by decide +kernel
theorem dModel_newType_10 : decode bModel_newType 10 = .ok (.aload_n 0, 1) := by decide +kernel
theorem dModel_newType_11 : decode bModel_newType 11 = .ok (.getfield 57, 3) := by decide +kernel
theorem dModel_newType_14 : decode bModel_newType 14 = .ok (.aload_n 0, 1) := by decide +kernel
theorem dModel_newType_15 : decode bModel_newType 15 = .ok (.getfield 102, 3) := by decide +kernel
theorem dModel_newType_18 : decode bModel_newType 18 = .ok (.iload_n 2, 1) := by decide +kernel
theorem dModel_newType_19 : decode bModel_newType 19 = .ok (.iastore, 1) := by decide +kernel
theorem dModel_newType_20 : decode bModel_newType 20 = .ok (.aload_n 0, 1) := by decide +kernel
theorem dModel_newType_21 : decode bModel_newType 21 = .ok (.getfield 60, 3) := by decide +kernel
theorem dModel_newType_24 : decode bModel_newType 24 = .ok (.aload_n 0, 1) := by decide +kernel
theorem dModel_newType_25 : decode bModel_newType 25 = .ok (.getfield 102, 3) := by decide +kernel
theorem dModel_newType_28 : decode bModel_newType 28 = .ok (.iload_n 3, 1) := by decide +kernel
theorem dModel_newType_29 : decode bModel_newType 29 = .ok (.iastore, 1) := by decide +kernel
theorem dModel_newType_30 : decode bModel_newType 30 = .ok (.aload_n 0, 1) := by decide +kernel
theorem dModel_newType_31 : decode bModel_newType 31 = .ok (.getfield 63, 3) := by decide +kernel
theorem dModel_newType_34 : decode bModel_newType 34 = .ok (.aload_n 0, 1) := by decide +kernel
theorem dModel_newType_35 : decode bModel_newType 35 = .ok (.getfield 102, 3) := by decide +kernel
theorem dModel_newType_38 : decode bModel_newType 38 = .ok (.iload 4, 2) := by decide +kernel
theorem dModel_newType_40 : decode bModel_newType 40 = .ok (.iastore, 1) := by decide +kernel
theorem dModel_newType_41 : decode bModel_newType 41 = .ok (.aload_n 0, 1) := by decide +kernel
theorem dModel_newType_42 : decode bModel_newType 42 = .ok (.getfield 66, 3) := by decide +kernel
theorem dModel_newType_45 : decode bModel_newType 45 = .ok (.aload_n 0, 1) := by decide +kernel
theorem dModel_newType_46 : decode bModel_newType 46 = .ok (.getfield 102, 3) := by decide +kernel
theorem dModel_newType_49 : decode bModel_newType 49 = .ok (.iload 5, 2) := by decide +kernel
theorem dModel_newType_51 : decode bModel_newType 51 = .ok (.bastore, 1) := by decide +kernel
theorem dModel_newType_52 : decode bModel_newType 52 = .ok (.aload_n 0, 1) := by decide +kernel
theorem dModel_newType_53 : decode bModel_newType 53 = .ok (.dup, 1) := by decide +kernel
theorem dModel_newType_54 : decode bModel_newType 54 = .ok (.getfield 102, 3) := by decide +kernel
theorem dModel_newType_57 : decode bModel_newType 57 = .ok (.iconst 1, 1) := by decide +kernel
theorem dModel_newType_58 : decode bModel_newType 58 = .ok (.iadd, 1) := by decide +kernel
theorem dModel_newType_59 : decode bModel_newType 59 = .ok (.putfield 102, 3) := by decide +kernel
theorem dModel_newType_62 : decode bModel_newType 62 = .ok (.aload_n 0, 1) := by decide +kernel
theorem dModel_newType_63 : decode bModel_newType 63 = .ok (.getfield 102, 3) := by decide +kernel
theorem dModel_newType_66 : decode bModel_newType 66 = .ok (.iconst 1, 1) := by decide +kernel
theorem dModel_newType_67 : decode bModel_newType 67 = .ok (.isub, 1) := by decide +kernel
theorem dModel_newType_68 : decode bModel_newType 68 = .ok (.ireturn, 1) := by decide +kernel
theorem dModel_goodName_0 : decode bModel_goodName 0 = .ok (.iload_n 0, 1) := by decide +kernel
theorem dModel_goodName_1 : decode bModel_goodName 1 = .ok (.ifCond .lt 14, 3) := by decide +kernel
theorem dModel_goodName_4 : decode bModel_goodName 4 = .ok (.iload_n 0, 1) := by decide +kernel
theorem dModel_goodName_5 : decode bModel_goodName 5 = .ok (.sipush 10000, 3) := by decide +kernel
theorem dModel_goodName_8 : decode bModel_goodName 8 = .ok (.if_icmp .ge 7, 3) := by decide +kernel
theorem dModel_goodName_11 : decode bModel_goodName 11 = .ok (.iconst 1, 1) := by decide +kernel
theorem dModel_goodName_12 : decode bModel_goodName 12 = .ok (.goto 4, 3) := by decide +kernel
theorem dModel_goodName_15 : decode bModel_goodName 15 = .ok (.iconst 0, 1) := by decide +kernel
theorem dModel_goodName_16 : decode bModel_goodName 16 = .ok (.ireturn, 1) := by decide +kernel
theorem dModel_noNode_0 : decode bModel_noNode 0 = .ok (.iload_n 1, 1) := by decide +kernel
theorem dModel_noNode_1 : decode bModel_noNode 1 = .ok (.ifCond .lt 11, 3) := by decide +kernel
theorem dModel_noNode_4 : decode bModel_noNode 4 = .ok (.iload_n 1, 1) := by decide +kernel
theorem dModel_noNode_5 : decode bModel_noNode 5 = .ok (.aload_n 0, 1) := by decide +kernel
theorem dModel_noNode_6 : decode bModel_noNode 6 = .ok (.getfield 105, 3) := by decide +kernel
theorem dModel_noNode_9 : decode bModel_noNode 9 = .ok (.if_icmp .lt 7, 3) := by decide +kernel
theorem dModel_noNode_12 : decode bModel_noNode 12 = .ok (.iconst 1, 1) := by decide +kernel
theorem dModel_noNode_13 : decode bModel_noNode 13 = .ok (.goto 4, 3) := by decide +kernel
theorem dModel_noNode_16 : decode bModel_noNode 16 = .ok (.iconst 0, 1) := by decide +kernel
theorem dModel_noNode_17 : decode bModel_noNode 17 = .ok (.ireturn, 1) := by decide +kernel
theorem dModel_noType_0 : decode bModel_noType 0 = .ok (.iload_n 1, 1) := by decide +kernel
theorem dModel_noType_1 : decode bModel_noType 1 = .ok (.ifCond .lt 11, 3) := by decide +kernel
theorem dModel_noType_4 : decode bModel_noType 4 = .ok (.iload_n 1, 1) := by decide +kernel
theorem dModel_noType_5 : decode bModel_noType 5 = .ok (.aload_n 0, 1) := by decide +kernel
theorem dModel_noType_6 : decode bModel_noType 6 = .ok (.getfield 102, 3) := by decide +kernel
theorem dModel_noType_9 : decode bModel_noType 9 = .ok (.if_icmp .lt 7, 3) := by decide +kernel
theorem dModel_noType_12 : decode bModel_noType 12 = .ok (.iconst 1, 1) := by decide +kernel
theorem dModel_noType_13 : decode bModel_noType 13 = .ok (.goto 4, 3) := by decide +kernel
theorem dModel_noType_16 : decode bModel_noType 16 = .ok (.iconst 0, 1) := by decide +kernel
theorem dModel_noType_17 : decode bModel_noType 17 = .ok (.ireturn, 1) := by decide +kernel
theorem dModel_add_0 : decode bModel_add 0 = .ok (.iload_n 1, 1) := by decide +kernel
theorem dModel_add_1 : decode bModel_add 1 = .ok (.iconst 1, 1) := by decide +kernel
theorem dModel_add_2 : decode bModel_add 2 = .ok (.if_icmp .eq 39, 3) := by decide +kernel
theorem dModel_add_5 : decode bModel_add 5 = .ok (.iload_n 1, 1) := by decide +kernel
theorem dModel_add_6 : decode bModel_add 6 = .ok (.bipush 10, 2) := by decide +kernel
theorem dModel_add_8 : decode bModel_add 8 = .ok (.if_icmp .eq 33, 3) := by decide +kernel
theorem dModel_add_11 : decode bModel_add 11 = .ok (.iload_n 1, 1) := by decide +kernel
theorem dModel_add_12 : decode bModel_add 12 = .ok (.bipush 22, 2) := by decide +kernel
theorem dModel_add_14 : decode bModel_add 14 = .ok (.if_icmp .eq 27, 3) := by decide +kernel
theorem dModel_add_17 : decode bModel_add 17 = .ok (.iload_n 1, 1) := by decide +kernel
theorem dModel_add_18 : decode bModel_add 18 = .ok (.bipush 23, 2) := by decide +kernel
theorem dModel_add_20 : decode bModel_add 20 = .ok (.if_icmp .eq 21, 3) := by decide +kernel
theorem dModel_add_23 : decode bModel_add 23 = .ok (.iload_n 1, 1) := by decide +kernel
theorem dModel_add_24 : decode bModel_add 24 = .ok (.bipush 24, 2) := by decide +kernel
theorem dModel_add_26 : decode bModel_add 26 = .ok (.if_icmp .eq 15, 3) := by decide +kernel
theorem dModel_add_29 : decode bModel_add 29 = .ok (.iload_n 1, 1) := by decide +kernel
theorem dModel_add_30 : decode bModel_add 30 = .ok (.bipush 25, 2) := by decide +kernel
theorem dModel_add_32 : decode bModel_add 32 = .ok (.if_icmp .eq 9, 3) := by decide +kernel
theorem dModel_add_35 : decode bModel_add 35 = .ok (.iload_n 1, 1) := by decide +kernel
theorem dModel_add_36 : decode bModel_add 36 = .ok (.bipush 53, 2) := by decide +kernel
theorem dModel_add_38 : decode bModel_add 38 = .ok (.if_icmp .ne 7, 3) := by decide +kernel
theorem dModel_add_41 : decode bModel_add 41 = .ok (.iconst 1, 1) := by decide +kernel
theorem dModel_add_42 : decode bModel_add 42 = .ok (.goto 4, 3) := by decide +kernel
theorem dModel_add_45 : decode bModel_add 45 = .ok (.iconst 0, 1) := by decide +kernel
theorem dModel_add_46 : decode bModel_add 46 = .ok (.istore 4, 2) := by decide +kernel
theorem dModel_add_48 : decode bModel_add 48 = .ok (.aload_n 0, 1) := by decide +kernel
theorem dModel_add_49 : decode bModel_add 49 = .ok (.iload_n 1, 1) := by decide +kernel
theorem dModel_add_50 : decode bModel_add 50 = .ok (.ifCond .lt 33, 3) := by decide +kernel
theorem dModel_add_53 : decode bModel_add 53 = .ok (.iload_n 1, 1) := by decide +kernel
theorem dModel_add_54 : decode bModel_add 54 = .ok (.bipush 99, 2) := by decide +kernel
theorem dModel_add_56 : decode bModel_add 56 = .ok (.if_icmp .gt 27, 3) := by decide +kernel
theorem dModel_add_59 : decode bModel_add 59 = .ok (.iload_n 3, 1) := by decide +kernel
theorem dModel_add_60 : decode bModel_add 60 = .ok (.ifCond .lt 23, 3) := by decide +kernel
theorem dModel_add_63 : decode bModel_add 63 = .ok (.iload_n 3, 1) := by decide +kernel
theorem dModel_add_64 : decode bModel_add 64 = .ok (.aload_n 0, 1) := by decide +kernel
theorem dModel_add_65 : decode bModel_add 65 = .ok (.getfield 108, 3) := by decide +kernel
theorem dModel_add_68 : decode bModel_add 68 = .ok (.if_icmp .gt 15, 3) := by decide +kernel
theorem dModel_add_71 : decode bModel_add 71 = .ok (.iload 4, 2) := by decide +kernel
theorem dModel_add_73 : decode bModel_add 73 = .ok (.ifCond .eq 14, 3) := by decide +kernel
theorem dModel_add_76 : decode bModel_add 76 = .ok (.iload_n 2, 1) := by decide +kernel
theorem dModel_add_77 : decode bModel_add 77 = .ok (.invokestatic 111, 3) := by decide +kernel
theorem dModel_add_80 : decode bModel_add 80 = .ok (.ifCond .ne 7, 3) := by decide +kernel
theorem dModel_add_83 : decode bModel_add 83 = .ok (.iconst 1, 1) := by decide +kernel
theorem dModel_add_84 : decode bModel_add 84 = .ok (.goto 18, 3) := by decide +kernel
theorem dModel_add_87 : decode bModel_add 87 = .ok (.aload_n 0, 1) := by decide +kernel
theorem dModel_add_88 : decode bModel_add 88 = .ok (.getfield 105, 3) := by decide +kernel
theorem dModel_add_91 : decode bModel_add 91 = .ok (.sipush 4000, 3) := by decide +kernel
theorem dModel_add_94 : decode bModel_add 94 = .ok (.if_icmp .ne 7, 3) := by decide +kernel
theorem dModel_add_97 : decode bModel_add 97 = .ok (.iconst 2, 1) := by decide +kernel
theorem dModel_add_98 : decode bModel_add 98 = .ok (.goto 4, 3) := by decide +kernel
theorem dModel_add_101 : decode bModel_add 101 = .ok (.iconst 0, 1) := by decide +kernel
theorem dModel_add_102 : decode bModel_add 102 = .ok (.putfield 99, 3) := by decide +kernel
theorem dModel_add_105 : decode bModel_add 105 = .ok (.aload_n 0, 1) := by decide +kernel
theorem dModel_add_106 : decode bModel_add 106 = .ok (.getfield 99, 3) := by decide +kernel
theorem dModel_add_109 : decode bModel_add 109 = .ok (.ifCond .le 5, 3) := by decide +kernel
theorem dModel_add_112 : decode bModel_add 112 = .ok (.iconst 0, 1) := by decide +kernel
theorem dModel_add_113 : decode bModel_add 113 = .ok (.ireturn, 1) := by decide +kernel
theorem dModel_add_114 : decode bModel_add 114 = .ok (.aload_n 0, 1) := by decide +kernel
theorem dModel_add_115 : decode bModel_add 115 = .ok (.getfield 13, 3) := by decide +kernel
theorem dModel_add_118 : decode bModel_add 118 = .ok (.aload_n 0, 1) := by decide +kernel
theorem dModel_add_119 : decode bModel_add 119 = .ok (.getfield 105, 3) := by decide +kernel
theorem dModel_add_122 : decode bModel_add 122 = .ok (.iload_n 1, 1) := by decide +kernel
theorem dModel_add_123 : decode bModel_add 123 = .ok (.iastore, 1) := by decide +kernel
theorem dModel_add_124 : decode bModel_add 124 = .ok (.aload_n 0, 1) := by decide +kernel
theorem dModel_add_125 : decode bModel_add 125 = .ok (.getfield 17, 3) := by decide +kernel
theorem dModel_add_128 : decode bModel_add 128 = .ok (.aload_n 0, 1) := by decide +kernel
theorem dModel_add_129 : decode bModel_add 129 = .ok (.getfield 105, 3) := by decide +kernel
theorem dModel_add_132 : decode bModel_add 132 = .ok (.iload_n 2, 1) := by decide +kernel
theorem dModel_add_133 : decode bModel_add 133 = .ok (.iastore, 1) := by decide +kernel
theorem dModel_add_134 : decode bModel_add 134 = .ok (.aload_n 0, 1) := by decide +kernel
theorem dModel_add_135 : decode bModel_add 135 = .ok (.getfield 20, 3) := by decide +kernel
theorem dModel_add_138 : decode bModel_add 138 = .ok (.aload_n 0, 1) := by decide +kernel
theorem dModel_add_139 : decode bModel_add 139 = .ok (.getfield 105, 3) := by decide +kernel
theorem dModel_add_142 : decode bModel_add 142 = .ok (.iload_n 3, 1) := by decide +kernel
theorem dModel_add_143 : decode bModel_add 143 = .ok (.iastore, 1) := by decide +kernel
theorem dModel_add_144 : decode bModel_add 144 = .ok (.aload_n 0, 1) := by decide +kernel
theorem dModel_add_145 : decode bModel_add 145 = .ok (.getfield 23, 3) := by decide +kernel
theorem dModel_add_148 : decode bModel_add 148 = .ok (.aload_n 0, 1) := by decide +kernel
theorem dModel_add_149 : decode bModel_add 149 = .ok (.getfield 105, 3) := by decide +kernel
theorem dModel_add_152 : decode bModel_add 152 = .ok (.iload_n 3, 1) := by decide +kernel
theorem dModel_add_153 : decode bModel_add 153 = .ok (.ifCond .ne 10, 3) := by decide +kernel
theorem dModel_add_156 : decode bModel_add 156 = .ok (.aload_n 0, 1) := by decide +kernel
theorem dModel_add_157 : decode bModel_add 157 = .ok (.getfield 105, 3) := by decide +kernel
theorem dModel_add_160 : decode bModel_add 160 = .ok (.goto 19, 3) := by decide +kernel
theorem dModel_add_163 : decode bModel_add 163 = .ok (.aload_n 0, 1) := by decide +kernel
theorem dModel_add_164 : decode bModel_add 164 = .ok (.getfield 23, 3) := by decide +kernel
theorem dModel_add_167 : decode bModel_add 167 = .ok (.aload_n 0, 1) := by decide +kernel
theorem dModel_add_168 : decode bModel_add 168 = .ok (.getfield 26, 3) := by decide +kernel
theorem dModel_add_171 : decode bModel_add 171 = .ok (.aload_n 0, 1) := by decide +kernel
theorem dModel_add_172 : decode bModel_add 172 = .ok (.getfield 108, 3) := by decide +kernel
theorem dModel_add_175 : decode bModel_add 175 = .ok (.iload_n 3, 1) := by decide +kernel
theorem dModel_add_176 : decode bModel_add 176 = .ok (.isub, 1) := by decide +kernel
theorem dModel_add_177 : decode bModel_add 177 = .ok (.iaload, 1) := by decide +kernel
theorem dModel_add_178 : decode bModel_add 178 = .ok (.iaload, 1) := by decide +kernel
theorem dModel_add_179 : decode bModel_add 179 = .ok (.iastore, 1) := by decide +kernel
theorem dModel_add_180 : decode bModel_add 180 = .ok (.aload_n 0, 1) := by decide +kernel
theorem dModel_add_181 : decode bModel_add 181 = .ok (.getfield 51, 3) := by decide +kernel
theorem dModel_add_184 : decode bModel_add 184 = .ok (.aload_n 0, 1) := by decide +kernel
theorem dModel_add_185 : decode bModel_add 185 = .ok (.getfield 105, 3) := by decide +kernel
theorem dModel_add_188 : decode bModel_add 188 = .ok (.iconst 0, 1) := by decide +kernel
theorem dModel_add_189 : decode bModel_add 189 = .ok (.bastore, 1) := by decide +kernel
theorem dModel_add_190 : decode bModel_add 190 = .ok (.aload_n 0, 1) := by decide +kernel
theorem dModel_add_191 : decode bModel_add 191 = .ok (.aload_n 0, 1) := by decide +kernel
theorem dModel_add_192 : decode bModel_add 192 = .ok (.getfield 108, 3) := by decide +kernel
theorem dModel_add_195 : decode bModel_add 195 = .ok (.iload_n 3, 1) := by decide +kernel
theorem dModel_add_196 : decode bModel_add 196 = .ok (.isub, 1) := by decide +kernel
theorem dModel_add_197 : decode bModel_add 197 = .ok (.putfield 108, 3) := by decide +kernel
theorem dModel_add_200 : decode bModel_add 200 = .ok (.aload_n 0, 1) := by decide +kernel
theorem dModel_add_201 : decode bModel_add 201 = .ok (.getfield 26, 3) := by decide +kernel
theorem dModel_add_204 : decode bModel_add 204 = .ok (.aload_n 0, 1) := by decide +kernel
theorem dModel_add_205 : decode bModel_add 205 = .ok (.getfield 108, 3) := by decide +kernel
theorem dModel_add_208 : decode bModel_add 208 = .ok (.aload_n 0, 1) := by decide +kernel
theorem dModel_add_209 : decode bModel_add 209 = .ok (.getfield 105, 3) := by decide +kernel
theorem dModel_add_212 : decode bModel_add 212 = .ok (.iastore, 1) := by decide +kernel
theorem dModel_add_213 : decode bModel_add 213 = .ok (.aload_n 0, 1) := by decide +kernel
theorem dModel_add_214 : decode bModel_add 214 = .ok (.dup, 1) := by decide +kernel
theorem dModel_add_215 : decode bModel_add 215 = .ok (.getfield 108, 3) := by decide +kernel
theorem dModel_add_218 : decode bModel_add 218 = .ok (.iconst 1, 1) := by decide +kernel
theorem dModel_add_219 : decode bModel_add 219 = .ok (.iadd, 1) := by decide +kernel
theorem dModel_add_220 : decode bModel_add 220 = .ok (.putfield 108, 3) := by decide +kernel
theorem dModel_add_223 : decode bModel_add 223 = .ok (.aload_n 0, 1) := by decide +kernel
theorem dModel_add_224 : decode bModel_add 224 = .ok (.dup, 1) := by decide +kernel
theorem dModel_add_225 : decode bModel_add 225 = .ok (.getfield 105, 3) := by decide +kernel
theorem dModel_add_228 : decode bModel_add 228 = .ok (.iconst 1, 1) := by decide +kernel
theorem dModel_add_229 : decode bModel_add 229 = .ok (.iadd, 1) := by decide +kernel
theorem dModel_add_230 : decode bModel_add 230 = .ok (.putfield 105, 3) := by decide +kernel
theorem dModel_add_233 : decode bModel_add 233 = .ok (.aload_n 0, 1) := by decide +kernel
theorem dModel_add_234 : decode bModel_add 234 = .ok (.getfield 105, 3) := by decide +kernel
theorem dModel_add_237 : decode bModel_add 237 = .ok (.iconst 1, 1) := by decide +kernel
theorem dModel_add_238 : decode bModel_add 238 = .ok (.isub, 1) := by decide +kernel
theorem dModel_add_239 : decode bModel_add 239 = .ok (.ireturn, 1) := by decide +kernel
theorem dModel_clear_0 : decode bModel_clear 0 = .ok (.aload_n 0, 1) := by decide +kernel
theorem dModel_clear_1 : decode bModel_clear 1 = .ok (.iconst 0, 1) := by decide +kernel
theorem dModel_clear_2 : decode bModel_clear 2 = .ok (.putfield 99, 3) := by decide +kernel
theorem dModel_clear_5 : decode bModel_clear 5 = .ok (.aload_n 0, 1) := by decide +kernel
theorem dModel_clear_6 : decode bModel_clear 6 = .ok (.getfield 105, 3) := by decide +kernel
theorem dModel_clear_9 : decode bModel_clear 9 = .ok (.istore_n 1, 1) := by decide +kernel
theorem dModel_clear_10 : decode bModel_clear 10 = .ok (.aload_n 0, 1) := by decide +kernel
theorem dModel_clear_11 : decode bModel_clear 11 = .ok (.iconst 0, 1) := by decide +kernel
theorem dModel_clear_12 : decode bModel_clear 12 = .ok (.putfield 105, 3) := by decide +kernel
theorem dModel_clear_15 : decode bModel_clear 15 = .ok (.aload_n 0, 1) := by decide +kernel
theorem dModel_clear_16 : decode bModel_clear 16 = .ok (.iconst 0, 1) := by decide +kernel
theorem dModel_clear_17 : decode bModel_clear 17 = .ok (.putfield 108, 3) := by decide +kernel
theorem dModel_clear_20 : decode bModel_clear 20 = .ok (.iload_n 1, 1) := by decide +kernel
theorem dModel_clear_21 : decode bModel_clear 21 = .ok (.ireturn, 1) := by decide +kernel
theorem dModel_child_0 : decode bModel_child 0 = .ok (.iload_n 1, 1) := by decide +kernel
theorem dModel_child_1 : decode bModel_child 1 = .ok (.iconst 1, 1) := by decide +kernel
theorem dModel_child_2 : decode bModel_child 2 = .ok (.isub, 1) := by decide +kernel
theorem dModel_child_3 : decode bModel_child 3 = .ok (.istore_n 3, 1) := by decide +kernel
theorem dModel_child_4 : decode bModel_child 4 = .ok (.iconst 0, 1) := by decide +kernel
theorem dModel_child_5 : decode bModel_child 5 = .ok (.istore 4, 2) := by decide +kernel
theorem dModel_child_7 : decode bModel_child 7 = .ok (.iload 4, 2) := by decide +kernel
theorem dModel_child_9 : decode bModel_child 9 = .ok (.iload_n 2, 1) := by decide +kernel
theorem dModel_child_10 : decode bModel_child 10 = .ok (.if_icmp .ge 18, 3) := by decide +kernel
theorem dModel_child_13 : decode bModel_child 13 = .ok (.aload_n 0, 1) := by decide +kernel
theorem dModel_child_14 : decode bModel_child 14 = .ok (.getfield 23, 3) := by decide +kernel
theorem dModel_child_17 : decode bModel_child 17 = .ok (.iload_n 3, 1) := by decide +kernel
theorem dModel_child_18 : decode bModel_child 18 = .ok (.iaload, 1) := by decide +kernel
theorem dModel_child_19 : decode bModel_child 19 = .ok (.iconst 1, 1) := by decide +kernel
theorem dModel_child_20 : decode bModel_child 20 = .ok (.isub, 1) := by decide +kernel
theorem dModel_child_21 : decode bModel_child 21 = .ok (.istore_n 3, 1) := by decide +kernel
theorem dModel_child_22 : decode bModel_child 22 = .ok (.iinc 4 1, 3) := by decide +kernel
theorem dModel_child_25 : decode bModel_child 25 = .ok (.goto (-18), 3) := by decide +kernel
theorem dModel_child_28 : decode bModel_child 28 = .ok (.iload_n 3, 1) := by decide +kernel
theorem dModel_child_29 : decode bModel_child 29 = .ok (.ireturn, 1) := by decide +kernel
theorem dModel_enter_0 : decode bModel_enter 0 = .ok (.aload_n 0, 1) := by decide +kernel
theorem dModel_enter_1 : decode bModel_enter 1 = .ok (.aload_n 0, 1) := by decide +kernel
theorem dModel_enter_2 : decode bModel_enter 2 = .ok (.getfield 90, 3) := by decide +kernel
theorem dModel_enter_5 : decode bModel_enter 5 = .ok (.bipush 32, 2) := by decide +kernel
theorem dModel_enter_7 : decode bModel_enter 7 = .ok (.if_icmp .ne 7, 3) := by decide +kernel
theorem dModel_enter_10 : decode bModel_enter 10 = .ok (.iconst 1, 1) := by decide +kernel
theorem dModel_enter_11 : decode bModel_enter 11 = .ok (.goto 4, 3) := by decide +kernel
theorem dModel_enter_14 : decode bModel_enter 14 = .ok (.iconst 0, 1) := by decide +kernel
theorem dModel_enter_15 : decode bModel_enter 15 = .ok (.putfield 99, 3) := by decide +kernel
theorem dModel_enter_18 : decode bModel_enter 18 = .ok (.aload_n 0, 1) := by decide +kernel
theorem dModel_enter_19 : decode bModel_enter 19 = .ok (.getfield 99, 3) := by decide +kernel
theorem dModel_enter_22 : decode bModel_enter 22 = .ok (.ifCond .ne 13, 3) := by decide +kernel
theorem dModel_enter_25 : decode bModel_enter 25 = .ok (.aload_n 0, 1) := by decide +kernel
theorem dModel_enter_26 : decode bModel_enter 26 = .ok (.dup, 1) := by decide +kernel
theorem dModel_enter_27 : decode bModel_enter 27 = .ok (.getfield 90, 3) := by decide +kernel
theorem dModel_enter_30 : decode bModel_enter 30 = .ok (.iconst 1, 1) := by decide +kernel
theorem dModel_enter_31 : decode bModel_enter 31 = .ok (.iadd, 1) := by decide +kernel
theorem dModel_enter_32 : decode bModel_enter 32 = .ok (.putfield 90, 3) := by decide +kernel
theorem dModel_enter_35 : decode bModel_enter 35 = .ok (.aload_n 0, 1) := by decide +kernel
theorem dModel_enter_36 : decode bModel_enter 36 = .ok (.getfield 99, 3) := by decide +kernel
theorem dModel_enter_39 : decode bModel_enter 39 = .ok (.ifCond .le 7, 3) := by decide +kernel
theorem dModel_enter_42 : decode bModel_enter 42 = .ok (.iconst 0, 1) := by decide +kernel
theorem dModel_enter_43 : decode bModel_enter 43 = .ok (.goto 7, 3) := by decide +kernel
theorem dModel_enter_46 : decode bModel_enter 46 = .ok (.aload_n 0, 1) := by decide +kernel
theorem dModel_enter_47 : decode bModel_enter 47 = .ok (.getfield 90, 3) := by decide +kernel
theorem dModel_enter_50 : decode bModel_enter 50 = .ok (.ireturn, 1) := by decide +kernel
theorem dModel_leave_0 : decode bModel_leave 0 = .ok (.aload_n 0, 1) := by decide +kernel
theorem dModel_leave_1 : decode bModel_leave 1 = .ok (.aload_n 0, 1) := by decide +kernel
theorem dModel_leave_2 : decode bModel_leave 2 = .ok (.getfield 90, 3) := by decide +kernel
theorem dModel_leave_5 : decode bModel_leave 5 = .ok (.iconst 1, 1) := by decide +kernel
theorem dModel_leave_6 : decode bModel_leave 6 = .ok (.if_icmp .ne 7, 3) := by decide +kernel
theorem dModel_leave_9 : decode bModel_leave 9 = .ok (.iconst 1, 1) := by decide +kernel
theorem dModel_leave_10 : decode bModel_leave 10 = .ok (.goto 4, 3) := by decide +kernel
theorem dModel_leave_13 : decode bModel_leave 13 = .ok (.iconst 0, 1) := by decide +kernel
theorem dModel_leave_14 : decode bModel_leave 14 = .ok (.putfield 99, 3) := by decide +kernel
theorem dModel_leave_17 : decode bModel_leave 17 = .ok (.aload_n 0, 1) := by decide +kernel
theorem dModel_leave_18 : decode bModel_leave 18 = .ok (.getfield 99, 3) := by decide +kernel
theorem dModel_leave_21 : decode bModel_leave 21 = .ok (.ifCond .le 5, 3) := by decide +kernel
theorem dModel_leave_24 : decode bModel_leave 24 = .ok (.iconst 0, 1) := by decide +kernel
theorem dModel_leave_25 : decode bModel_leave 25 = .ok (.ireturn, 1) := by decide +kernel
theorem dModel_leave_26 : decode bModel_leave 26 = .ok (.aload_n 0, 1) := by decide +kernel
theorem dModel_leave_27 : decode bModel_leave 27 = .ok (.dup, 1) := by decide +kernel
theorem dModel_leave_28 : decode bModel_leave 28 = .ok (.getfield 90, 3) := by decide +kernel
theorem dModel_leave_31 : decode bModel_leave 31 = .ok (.iconst 1, 1) := by decide +kernel
theorem dModel_leave_32 : decode bModel_leave 32 = .ok (.isub, 1) := by decide +kernel
theorem dModel_leave_33 : decode bModel_leave 33 = .ok (.putfield 90, 3) := by decide +kernel
theorem dModel_leave_36 : decode bModel_leave 36 = .ok (.aload_n 0, 1) := by decide +kernel
theorem dModel_leave_37 : decode bModel_leave 37 = .ok (.getfield 115, 3) := by decide +kernel
theorem dModel_leave_40 : decode bModel_leave 40 = .ok (.ifCond .le 34, 3) := by decide +kernel
theorem dModel_leave_43 : decode bModel_leave 43 = .ok (.aload_n 0, 1) := by decide +kernel
theorem dModel_leave_44 : decode bModel_leave 44 = .ok (.getfield 87, 3) := by decide +kernel
theorem dModel_leave_47 : decode bModel_leave 47 = .ok (.aload_n 0, 1) := by decide +kernel
theorem dModel_leave_48 : decode bModel_leave 48 = .ok (.getfield 115, 3) := by decide +kernel
theorem dModel_leave_51 : decode bModel_leave 51 = .ok (.iconst 1, 1) := by decide +kernel
theorem dModel_leave_52 : decode bModel_leave 52 = .ok (.isub, 1) := by decide +kernel
theorem dModel_leave_53 : decode bModel_leave 53 = .ok (.iaload, 1) := by decide +kernel
theorem dModel_leave_54 : decode bModel_leave 54 = .ok (.aload_n 0, 1) := by decide +kernel
theorem dModel_leave_55 : decode bModel_leave 55 = .ok (.getfield 90, 3) := by decide +kernel
theorem dModel_leave_58 : decode bModel_leave 58 = .ok (.if_icmp .le 16, 3) := by decide +kernel
theorem dModel_leave_61 : decode bModel_leave 61 = .ok (.aload_n 0, 1) := by decide +kernel
theorem dModel_leave_62 : decode bModel_leave 62 = .ok (.dup, 1) := by decide +kernel
theorem dModel_leave_63 : decode bModel_leave 63 = .ok (.getfield 115, 3) := by decide +kernel
theorem dModel_leave_66 : decode bModel_leave 66 = .ok (.iconst 1, 1) := by decide +kernel
theorem dModel_leave_67 : decode bModel_leave 67 = .ok (.isub, 1) := by decide +kernel
theorem dModel_leave_68 : decode bModel_leave 68 = .ok (.putfield 115, 3) := by decide +kernel
theorem dModel_leave_71 : decode bModel_leave 71 = .ok (.goto (-35), 3) := by decide +kernel
theorem dModel_leave_74 : decode bModel_leave 74 = .ok (.aload_n 0, 1) := by decide +kernel
theorem dModel_leave_75 : decode bModel_leave 75 = .ok (.getfield 90, 3) := by decide +kernel
theorem dModel_leave_78 : decode bModel_leave 78 = .ok (.ireturn, 1) := by decide +kernel
theorem dModel_hasHere_0 : decode bModel_hasHere 0 = .ok (.iconst 0, 1) := by decide +kernel
theorem dModel_hasHere_1 : decode bModel_hasHere 1 = .ok (.istore_n 2, 1) := by decide +kernel
theorem dModel_hasHere_2 : decode bModel_hasHere 2 = .ok (.iconst 0, 1) := by decide +kernel
theorem dModel_hasHere_3 : decode bModel_hasHere 3 = .ok (.istore_n 3, 1) := by decide +kernel
theorem dModel_hasHere_4 : decode bModel_hasHere 4 = .ok (.iload_n 3, 1) := by decide +kernel
theorem dModel_hasHere_5 : decode bModel_hasHere 5 = .ok (.aload_n 0, 1) := by decide +kernel
theorem dModel_hasHere_6 : decode bModel_hasHere 6 = .ok (.getfield 115, 3) := by decide +kernel
theorem dModel_hasHere_9 : decode bModel_hasHere 9 = .ok (.if_icmp .ge 42, 3) := by decide +kernel
theorem dModel_hasHere_12 : decode bModel_hasHere 12 = .ok (.iload_n 2, 1) := by decide +kernel
theorem dModel_hasHere_13 : decode bModel_hasHere 13 = .ok (.ifCond .ne 26, 3) := by decide +kernel
theorem dModel_hasHere_16 : decode bModel_hasHere 16 = .ok (.aload_n 0, 1) := by decide +kernel
theorem dModel_hasHere_17 : decode bModel_hasHere 17 = .ok (.getfield 75, 3) := by decide +kernel
theorem dModel_hasHere_20 : decode bModel_hasHere 20 = .ok (.iload_n 3, 1) := by decide +kernel
theorem dModel_hasHere_21 : decode bModel_hasHere 21 = .ok (.iaload, 1) := by decide +kernel
theorem dModel_hasHere_22 : decode bModel_hasHere 22 = .ok (.iload_n 1, 1) := by decide +kernel
theorem dModel_hasHere_23 : decode bModel_hasHere 23 = .ok (.if_icmp .ne 20, 3) := by decide +kernel
theorem dModel_hasHere_26 : decode bModel_hasHere 26 = .ok (.aload_n 0, 1) := by decide +kernel
theorem dModel_hasHere_27 : decode bModel_hasHere 27 = .ok (.getfield 87, 3) := by decide +kernel
theorem dModel_hasHere_30 : decode bModel_hasHere 30 = .ok (.iload_n 3, 1) := by decide +kernel
theorem dModel_hasHere_31 : decode bModel_hasHere 31 = .ok (.iaload, 1) := by decide +kernel
theorem dModel_hasHere_32 : decode bModel_hasHere 32 = .ok (.aload_n 0, 1) := by decide +kernel
theorem dModel_hasHere_33 : decode bModel_hasHere 33 = .ok (.getfield 90, 3) := by decide +kernel
theorem dModel_hasHere_36 : decode bModel_hasHere 36 = .ok (.if_icmp .ne 7, 3) := by decide +kernel
theorem dModel_hasHere_39 : decode bModel_hasHere 39 = .ok (.iconst 1, 1) := by decide +kernel
theorem dModel_hasHere_40 : decode bModel_hasHere 40 = .ok (.goto 4, 3) := by decide +kernel
theorem dModel_hasHere_43 : decode bModel_hasHere 43 = .ok (.iconst 0, 1) := by decide +kernel
theorem dModel_hasHere_44 : decode bModel_hasHere 44 = .ok (.istore_n 2, 1) := by decide +kernel
theorem dModel_hasHere_45 : decode bModel_hasHere 45 = .ok (.iinc 3 1, 3) := by decide +kernel
theorem dModel_hasHere_48 : decode bModel_hasHere 48 = .ok (.goto (-44), 3) := by decide +kernel
theorem dModel_hasHere_51 : decode bModel_hasHere 51 = .ok (.iload_n 2, 1) := by decide +kernel
theorem dModel_hasHere_52 : decode bModel_hasHere 52 = .ok (.ireturn, 1) := by decide +kernel
theorem dModel_find_0 : decode bModel_find 0 = .ok (.aload_n 0, 1) := by decide +kernel
theorem dModel_find_1 : decode bModel_find 1 = .ok (.iload_n 1, 1) := by decide +kernel
theorem dModel_find_2 : decode bModel_find 2 = .ok (.iconst 5, 1) := by decide +kernel
theorem dModel_find_3 : decode bModel_find 3 = .ok (.if_icmp .ge 7, 3) := by decide +kernel
theorem dModel_find_6 : decode bModel_find 6 = .ok (.iconst 0, 1) := by decide +kernel
theorem dModel_find_7 : decode bModel_find 7 = .ok (.goto 34, 3) := by decide +kernel
theorem dModel_find_10 : decode bModel_find 10 = .ok (.iload_n 1, 1) := by decide +kernel
theorem dModel_find_11 : decode bModel_find 11 = .ok (.iconst 5, 1) := by decide +kernel
theorem dModel_find_12 : decode bModel_find 12 = .ok (.if_icmp .ne 8, 3) := by decide +kernel
theorem dModel_find_15 : decode bModel_find 15 = .ok (.bipush 6, 2) := by decide +kernel
theorem dModel_find_17 : decode bModel_find 17 = .ok (.goto 24, 3) := by decide +kernel
theorem dModel_find_20 : decode bModel_find 20 = .ok (.iload_n 1, 1) := by decide +kernel
theorem dModel_find_21 : decode bModel_find 21 = .ok (.bipush 8, 2) := by decide +kernel
theorem dModel_find_23 : decode bModel_find 23 = .ok (.if_icmp .ge 7, 3) := by decide +kernel
theorem dModel_find_26 : decode bModel_find 26 = .ok (.iconst 3, 1) := by decide +kernel
theorem dModel_find_27 : decode bModel_find 27 = .ok (.goto 14, 3) := by decide +kernel
theorem dModel_find_30 : decode bModel_find 30 = .ok (.iload_n 1, 1) := by decide +kernel
theorem dModel_find_31 : decode bModel_find 31 = .ok (.bipush 12, 2) := by decide +kernel
theorem dModel_find_33 : decode bModel_find 33 = .ok (.if_icmp .ge 7, 3) := by decide +kernel
theorem dModel_find_36 : decode bModel_find 36 = .ok (.iconst 4, 1) := by decide +kernel
theorem dModel_find_37 : decode bModel_find 37 = .ok (.goto 4, 3) := by decide +kernel
theorem dModel_find_40 : decode bModel_find 40 = .ok (.iconst 5, 1) := by decide +kernel
theorem dModel_find_41 : decode bModel_find 41 = .ok (.putfield 118, 3) := by decide +kernel
theorem dModel_find_44 : decode bModel_find 44 = .ok (.aload_n 0, 1) := by decide +kernel
theorem dModel_find_45 : decode bModel_find 45 = .ok (.iload_n 1, 1) := by decide +kernel
theorem dModel_find_46 : decode bModel_find 46 = .ok (.ifCond .ne 7, 3) := by decide +kernel
theorem dModel_find_49 : decode bModel_find 49 = .ok (.iconst 2, 1) := by decide +kernel
theorem dModel_find_50 : decode bModel_find 50 = .ok (.goto 40, 3) := by decide +kernel
theorem dModel_find_53 : decode bModel_find 53 = .ok (.iload_n 1, 1) := by decide +kernel
theorem dModel_find_54 : decode bModel_find 54 = .ok (.iconst 1, 1) := by decide +kernel
theorem dModel_find_55 : decode bModel_find 55 = .ok (.if_icmp .ne 7, 3) := by decide +kernel
theorem dModel_find_58 : decode bModel_find 58 = .ok (.iconst 3, 1) := by decide +kernel
theorem dModel_find_59 : decode bModel_find 59 = .ok (.goto 31, 3) := by decide +kernel
theorem dModel_find_62 : decode bModel_find 62 = .ok (.iload_n 1, 1) := by decide +kernel
theorem dModel_find_63 : decode bModel_find 63 = .ok (.iconst 2, 1) := by decide +kernel
theorem dModel_find_64 : decode bModel_find 64 = .ok (.if_icmp .ne 7, 3) := by decide +kernel
theorem dModel_find_67 : decode bModel_find 67 = .ok (.iconst 4, 1) := by decide +kernel
theorem dModel_find_68 : decode bModel_find 68 = .ok (.goto 22, 3) := by decide +kernel
theorem dModel_find_71 : decode bModel_find 71 = .ok (.iload_n 1, 1) := by decide +kernel
theorem dModel_find_72 : decode bModel_find 72 = .ok (.iconst 3, 1) := by decide +kernel
theorem dModel_find_73 : decode bModel_find 73 = .ok (.if_icmp .ne 7, 3) := by decide +kernel
theorem dModel_find_76 : decode bModel_find 76 = .ok (.iconst 1, 1) := by decide +kernel
theorem dModel_find_77 : decode bModel_find 77 = .ok (.goto 13, 3) := by decide +kernel
theorem dModel_find_80 : decode bModel_find 80 = .ok (.iload_n 1, 1) := by decide +kernel
theorem dModel_find_81 : decode bModel_find 81 = .ok (.iconst 4, 1) := by decide +kernel
theorem dModel_find_82 : decode bModel_find 82 = .ok (.if_icmp .ne 7, 3) := by decide +kernel
theorem dModel_find_85 : decode bModel_find 85 = .ok (.iconst 0, 1) := by decide +kernel
theorem dModel_find_86 : decode bModel_find 86 = .ok (.goto 4, 3) := by decide +kernel
theorem dModel_find_89 : decode bModel_find 89 = .ok (.iload_n 1, 1) := by decide +kernel
theorem dModel_find_90 : decode bModel_find 90 = .ok (.putfield 121, 3) := by decide +kernel
theorem dModel_find_93 : decode bModel_find 93 = .ok (.aload_n 0, 1) := by decide +kernel
theorem dModel_find_94 : decode bModel_find 94 = .ok (.iconst 0, 1) := by decide +kernel
theorem dModel_find_95 : decode bModel_find 95 = .ok (.putfield 124, 3) := by decide +kernel
theorem dModel_find_98 : decode bModel_find 98 = .ok (.iconst 0, 1) := by decide +kernel
theorem dModel_find_99 : decode bModel_find 99 = .ok (.istore_n 2, 1) := by decide +kernel
theorem dModel_find_100 : decode bModel_find 100 = .ok (.iload_n 2, 1) := by decide +kernel
theorem dModel_find_101 : decode bModel_find 101 = .ok (.aload_n 0, 1) := by decide +kernel
theorem dModel_find_102 : decode bModel_find 102 = .ok (.getfield 115, 3) := by decide +kernel
theorem dModel_find_105 : decode bModel_find 105 = .ok (.if_icmp .ge 49, 3) := by decide +kernel
theorem dModel_find_108 : decode bModel_find 108 = .ok (.aload_n 0, 1) := by decide +kernel
theorem dModel_find_109 : decode bModel_find 109 = .ok (.getfield 75, 3) := by decide +kernel
theorem dModel_find_112 : decode bModel_find 112 = .ok (.iload_n 2, 1) := by decide +kernel
theorem dModel_find_113 : decode bModel_find 113 = .ok (.iaload, 1) := by decide +kernel
theorem dModel_find_114 : decode bModel_find 114 = .ok (.iload_n 1, 1) := by decide +kernel
theorem dModel_find_115 : decode bModel_find 115 = .ok (.if_icmp .ne 33, 3) := by decide +kernel
theorem dModel_find_118 : decode bModel_find 118 = .ok (.aload_n 0, 1) := by decide +kernel
theorem dModel_find_119 : decode bModel_find 119 = .ok (.aload_n 0, 1) := by decide +kernel
theorem dModel_find_120 : decode bModel_find 120 = .ok (.getfield 78, 3) := by decide +kernel
theorem dModel_find_123 : decode bModel_find 123 = .ok (.iload_n 2, 1) := by decide +kernel
theorem dModel_find_124 : decode bModel_find 124 = .ok (.iaload, 1) := by decide +kernel
theorem dModel_find_125 : decode bModel_find 125 = .ok (.putfield 118, 3) := by decide +kernel
theorem dModel_find_128 : decode bModel_find 128 = .ok (.aload_n 0, 1) := by decide +kernel
theorem dModel_find_129 : decode bModel_find 129 = .ok (.aload_n 0, 1) := by decide +kernel
theorem dModel_find_130 : decode bModel_find 130 = .ok (.getfield 81, 3) := by decide +kernel
theorem dModel_find_133 : decode bModel_find 133 = .ok (.iload_n 2, 1) := by decide +kernel
theorem dModel_find_134 : decode bModel_find 134 = .ok (.iaload, 1) := by decide +kernel
theorem dModel_find_135 : decode bModel_find 135 = .ok (.putfield 121, 3) := by decide +kernel
theorem dModel_find_138 : decode bModel_find 138 = .ok (.aload_n 0, 1) := by decide +kernel
theorem dModel_find_139 : decode bModel_find 139 = .ok (.aload_n 0, 1) := by decide +kernel
theorem dModel_find_140 : decode bModel_find 140 = .ok (.getfield 84, 3) := by decide +kernel
theorem dModel_find_143 : decode bModel_find 143 = .ok (.iload_n 2, 1) := by decide +kernel
theorem dModel_find_144 : decode bModel_find 144 = .ok (.iaload, 1) := by decide +kernel
theorem dModel_find_145 : decode bModel_find 145 = .ok (.putfield 124, 3) := by decide +kernel
theorem dModel_find_148 : decode bModel_find 148 = .ok (.iinc 2 1, 3) := by decide +kernel
theorem dModel_find_151 : decode bModel_find 151 = .ok (.goto (-51), 3) := by decide +kernel
theorem dModel_find_154 : decode bModel_find 154 = .ok (.return_, 1) := by decide +kernel
theorem dModel_name_0 : decode bModel_name 0 = .ok (.aload_n 0, 1) := by decide +kernel
theorem dModel_name_1 : decode bModel_name 1 = .ok (.getfield 75, 3) := by decide +kernel
theorem dModel_name_4 : decode bModel_name 4 = .ok (.aload_n 0, 1) := by decide +kernel
theorem dModel_name_5 : decode bModel_name 5 = .ok (.getfield 115, 3) := by decide +kernel
theorem dModel_name_8 : decode bModel_name 8 = .ok (.iload_n 1, 1) := by decide +kernel
theorem dModel_name_9 : decode bModel_name 9 = .ok (.iastore, 1) := by decide +kernel
theorem dModel_name_10 : decode bModel_name 10 = .ok (.aload_n 0, 1) := by decide +kernel
theorem dModel_name_11 : decode bModel_name 11 = .ok (.getfield 78, 3) := by decide +kernel
theorem dModel_name_14 : decode bModel_name 14 = .ok (.aload_n 0, 1) := by decide +kernel
theorem dModel_name_15 : decode bModel_name 15 = .ok (.getfield 115, 3) := by decide +kernel
theorem dModel_name_18 : decode bModel_name 18 = .ok (.iload_n 2, 1) := by decide +kernel
theorem dModel_name_19 : decode bModel_name 19 = .ok (.iastore, 1) := by decide +kernel
theorem dModel_name_20 : decode bModel_name 20 = .ok (.aload_n 0, 1) := by decide +kernel
theorem dModel_name_21 : decode bModel_name 21 = .ok (.getfield 81, 3) := by decide +kernel
theorem dModel_name_24 : decode bModel_name 24 = .ok (.aload_n 0, 1) := by decide +kernel
theorem dModel_name_25 : decode bModel_name 25 = .ok (.getfield 115, 3) := by decide +kernel
theorem dModel_name_28 : decode bModel_name 28 = .ok (.iload_n 3, 1) := by decide +kernel
theorem dModel_name_29 : decode bModel_name 29 = .ok (.iastore, 1) := by decide +kernel
theorem dModel_name_30 : decode bModel_name 30 = .ok (.aload_n 0, 1) := by decide +kernel
theorem dModel_name_31 : decode bModel_name 31 = .ok (.getfield 84, 3) := by decide +kernel
theorem dModel_name_34 : decode bModel_name 34 = .ok (.aload_n 0, 1) := by decide +kernel
theorem dModel_name_35 : decode bModel_name 35 = .ok (.getfield 115, 3) := by decide +kernel
theorem dModel_name_38 : decode bModel_name 38 = .ok (.iload 4, 2) := by decide +kernel
theorem dModel_name_40 : decode bModel_name 40 = .ok (.iastore, 1) := by decide +kernel
theorem dModel_name_41 : decode bModel_name 41 = .ok (.aload_n 0, 1) := by decide +kernel
theorem dModel_name_42 : decode bModel_name 42 = .ok (.getfield 87, 3) := by decide +kernel
theorem dModel_name_45 : decode bModel_name 45 = .ok (.aload_n 0, 1) := by decide +kernel
theorem dModel_name_46 : decode bModel_name 46 = .ok (.getfield 115, 3) := by decide +kernel
theorem dModel_name_49 : decode bModel_name 49 = .ok (.aload_n 0, 1) := by decide +kernel
theorem dModel_name_50 : decode bModel_name 50 = .ok (.getfield 90, 3) := by decide +kernel
theorem dModel_name_53 : decode bModel_name 53 = .ok (.iastore, 1) := by decide +kernel
theorem dModel_name_54 : decode bModel_name 54 = .ok (.aload_n 0, 1) := by decide +kernel
theorem dModel_name_55 : decode bModel_name 55 = .ok (.dup, 1) := by decide +kernel
theorem dModel_name_56 : decode bModel_name 56 = .ok (.getfield 115, 3) := by decide +kernel
theorem dModel_name_59 : decode bModel_name 59 = .ok (.iconst 1, 1) := by decide +kernel
theorem dModel_name_60 : decode bModel_name 60 = .ok (.iadd, 1) := by decide +kernel
theorem dModel_name_61 : decode bModel_name 61 = .ok (.putfield 115, 3) := by decide +kernel
theorem dModel_name_64 : decode bModel_name 64 = .ok (.return_, 1) := by decide +kernel
theorem dModel_element_0 : decode bModel_element 0 = .ok (.aload_n 0, 1) := by decide +kernel
theorem dModel_element_1 : decode bModel_element 1 = .ok (.getfield 47, 3) := by decide +kernel
theorem dModel_element_4 : decode bModel_element 4 = .ok (.bipush 64, 2) := by decide +kernel
theorem dModel_element_6 : decode bModel_element 6 = .ok (.iload_n 1, 1) := by decide +kernel
theorem dModel_element_7 : decode bModel_element 7 = .ok (.imul, 1) := by decide +kernel
theorem dModel_element_8 : decode bModel_element 8 = .ok (.iload_n 2, 1) := by decide +kernel
theorem dModel_element_9 : decode bModel_element 9 = .ok (.iadd, 1) := by decide +kernel
theorem dModel_element_10 : decode bModel_element 10 = .ok (.baload, 1) := by decide +kernel
theorem dModel_element_11 : decode bModel_element 11 = .ok (.ireturn, 1) := by decide +kernel
theorem dModel_setElement_0 : decode bModel_setElement 0 = .ok (.aload_n 0, 1) := by decide +kernel
theorem dModel_setElement_1 : decode bModel_setElement 1 = .ok (.getfield 47, 3) := by decide +kernel
theorem dModel_setElement_4 : decode bModel_setElement 4 = .ok (.bipush 64, 2) := by decide +kernel
theorem dModel_setElement_6 : decode bModel_setElement 6 = .ok (.iload_n 1, 1) := by decide +kernel
theorem dModel_setElement_7 : decode bModel_setElement 7 = .ok (.imul, 1) := by decide +kernel
theorem dModel_setElement_8 : decode bModel_setElement 8 = .ok (.iload_n 2, 1) := by decide +kernel
theorem dModel_setElement_9 : decode bModel_setElement 9 = .ok (.iadd, 1) := by decide +kernel
theorem dModel_setElement_10 : decode bModel_setElement 10 = .ok (.iload_n 3, 1) := by decide +kernel
theorem dModel_setElement_11 : decode bModel_setElement 11 = .ok (.i2b, 1) := by decide +kernel
theorem dModel_setElement_12 : decode bModel_setElement 12 = .ok (.bastore, 1) := by decide +kernel
theorem dModel_setElement_13 : decode bModel_setElement 13 = .ok (.return_, 1) := by decide +kernel
theorem dModel_fact_0 : decode bModel_fact 0 = .ok (.aload_n 0, 1) := by decide +kernel
theorem dModel_fact_1 : decode bModel_fact 1 = .ok (.getfield 29, 3) := by decide +kernel
theorem dModel_fact_4 : decode bModel_fact 4 = .ok (.iload_n 1, 1) := by decide +kernel
theorem dModel_fact_5 : decode bModel_fact 5 = .ok (.iload_n 2, 1) := by decide +kernel
theorem dModel_fact_6 : decode bModel_fact 6 = .ok (.iastore, 1) := by decide +kernel
theorem dModel_fact_7 : decode bModel_fact 7 = .ok (.aload_n 0, 1) := by decide +kernel
theorem dModel_fact_8 : decode bModel_fact 8 = .ok (.getfield 32, 3) := by decide +kernel
theorem dModel_fact_11 : decode bModel_fact 11 = .ok (.iload_n 1, 1) := by decide +kernel
theorem dModel_fact_12 : decode bModel_fact 12 = .ok (.iload_n 3, 1) := by decide +kernel
theorem dModel_fact_13 : decode bModel_fact 13 = .ok (.iastore, 1) := by decide +kernel
theorem dModel_fact_14 : decode bModel_fact 14 = .ok (.aload_n 0, 1) := by decide +kernel
theorem dModel_fact_15 : decode bModel_fact 15 = .ok (.getfield 35, 3) := by decide +kernel
theorem dModel_fact_18 : decode bModel_fact 18 = .ok (.iload_n 1, 1) := by decide +kernel
theorem dModel_fact_19 : decode bModel_fact 19 = .ok (.iload 4, 2) := by decide +kernel
theorem dModel_fact_21 : decode bModel_fact 21 = .ok (.bastore, 1) := by decide +kernel
theorem dModel_fact_22 : decode bModel_fact 22 = .ok (.aload_n 0, 1) := by decide +kernel
theorem dModel_fact_23 : decode bModel_fact 23 = .ok (.getfield 39, 3) := by decide +kernel
theorem dModel_fact_26 : decode bModel_fact 26 = .ok (.iload_n 1, 1) := by decide +kernel
theorem dModel_fact_27 : decode bModel_fact 27 = .ok (.iconst (-1), 1) := by decide +kernel
theorem dModel_fact_28 : decode bModel_fact 28 = .ok (.iastore, 1) := by decide +kernel
theorem dModel_fact_29 : decode bModel_fact 29 = .ok (.aload_n 0, 1) := by decide +kernel
theorem dModel_fact_30 : decode bModel_fact 30 = .ok (.getfield 42, 3) := by decide +kernel
theorem dModel_fact_33 : decode bModel_fact 33 = .ok (.iload_n 1, 1) := by decide +kernel
theorem dModel_fact_34 : decode bModel_fact 34 = .ok (.lconst 0, 1) := by decide +kernel
theorem dModel_fact_35 : decode bModel_fact 35 = .ok (.lastore, 1) := by decide +kernel
theorem dModel_fact_36 : decode bModel_fact 36 = .ok (.iconst 0, 1) := by decide +kernel
theorem dModel_fact_37 : decode bModel_fact 37 = .ok (.istore 5, 2) := by decide +kernel
theorem dModel_fact_39 : decode bModel_fact 39 = .ok (.iload 5, 2) := by decide +kernel
theorem dModel_fact_41 : decode bModel_fact 41 = .ok (.bipush 64, 2) := by decide +kernel
theorem dModel_fact_43 : decode bModel_fact 43 = .ok (.if_icmp .ge 17, 3) := by decide +kernel
theorem dModel_fact_46 : decode bModel_fact 46 = .ok (.aload_n 0, 1) := by decide +kernel
theorem dModel_fact_47 : decode bModel_fact 47 = .ok (.iload_n 1, 1) := by decide +kernel
theorem dModel_fact_48 : decode bModel_fact 48 = .ok (.iload 5, 2) := by decide +kernel
theorem dModel_fact_50 : decode bModel_fact 50 = .ok (.iconst 0, 1) := by decide +kernel
theorem dModel_fact_51 : decode bModel_fact 51 = .ok (.invokevirtual 127, 3) := by decide +kernel
theorem dModel_fact_54 : decode bModel_fact 54 = .ok (.iinc 5 1, 3) := by decide +kernel
theorem dModel_fact_57 : decode bModel_fact 57 = .ok (.goto (-18), 3) := by decide +kernel
theorem dModel_fact_60 : decode bModel_fact 60 = .ok (.return_, 1) := by decide +kernel
theorem dModel_copy_0 : decode bModel_copy 0 = .ok (.aload_n 0, 1) := by decide +kernel
theorem dModel_copy_1 : decode bModel_copy 1 = .ok (.getfield 29, 3) := by decide +kernel
theorem dModel_copy_4 : decode bModel_copy 4 = .ok (.iload_n 2, 1) := by decide +kernel
theorem dModel_copy_5 : decode bModel_copy 5 = .ok (.aload_n 0, 1) := by decide +kernel
theorem dModel_copy_6 : decode bModel_copy 6 = .ok (.getfield 29, 3) := by decide +kernel
theorem dModel_copy_9 : decode bModel_copy 9 = .ok (.iload_n 1, 1) := by decide +kernel
theorem dModel_copy_10 : decode bModel_copy 10 = .ok (.iaload, 1) := by decide +kernel
theorem dModel_copy_11 : decode bModel_copy 11 = .ok (.iastore, 1) := by decide +kernel
theorem dModel_copy_12 : decode bModel_copy 12 = .ok (.aload_n 0, 1) := by decide +kernel
theorem dModel_copy_13 : decode bModel_copy 13 = .ok (.getfield 32, 3) := by decide +kernel
theorem dModel_copy_16 : decode bModel_copy 16 = .ok (.iload_n 2, 1) := by decide +kernel
theorem dModel_copy_17 : decode bModel_copy 17 = .ok (.aload_n 0, 1) := by decide +kernel
theorem dModel_copy_18 : decode bModel_copy 18 = .ok (.getfield 32, 3) := by decide +kernel
theorem dModel_copy_21 : decode bModel_copy 21 = .ok (.iload_n 1, 1) := by decide +kernel
theorem dModel_copy_22 : decode bModel_copy 22 = .ok (.iaload, 1) := by decide +kernel
theorem dModel_copy_23 : decode bModel_copy 23 = .ok (.iastore, 1) := by decide +kernel
theorem dModel_copy_24 : decode bModel_copy 24 = .ok (.aload_n 0, 1) := by decide +kernel
theorem dModel_copy_25 : decode bModel_copy 25 = .ok (.getfield 35, 3) := by decide +kernel
theorem dModel_copy_28 : decode bModel_copy 28 = .ok (.iload_n 2, 1) := by decide +kernel
theorem dModel_copy_29 : decode bModel_copy 29 = .ok (.aload_n 0, 1) := by decide +kernel
theorem dModel_copy_30 : decode bModel_copy 30 = .ok (.getfield 35, 3) := by decide +kernel
theorem dModel_copy_33 : decode bModel_copy 33 = .ok (.iload_n 1, 1) := by decide +kernel
theorem dModel_copy_34 : decode bModel_copy 34 = .ok (.baload, 1) := by decide +kernel
theorem dModel_copy_35 : decode bModel_copy 35 = .ok (.bastore, 1) := by decide +kernel
theorem dModel_copy_36 : decode bModel_copy 36 = .ok (.aload_n 0, 1) := by decide +kernel
theorem dModel_copy_37 : decode bModel_copy 37 = .ok (.getfield 39, 3) := by decide +kernel
theorem dModel_copy_40 : decode bModel_copy 40 = .ok (.iload_n 2, 1) := by decide +kernel
theorem dModel_copy_41 : decode bModel_copy 41 = .ok (.aload_n 0, 1) := by decide +kernel
theorem dModel_copy_42 : decode bModel_copy 42 = .ok (.getfield 39, 3) := by decide +kernel
theorem dModel_copy_45 : decode bModel_copy 45 = .ok (.iload_n 1, 1) := by decide +kernel
theorem dModel_copy_46 : decode bModel_copy 46 = .ok (.iaload, 1) := by decide +kernel
theorem dModel_copy_47 : decode bModel_copy 47 = .ok (.iastore, 1) := by decide +kernel
theorem dModel_copy_48 : decode bModel_copy 48 = .ok (.aload_n 0, 1) := by decide +kernel
theorem dModel_copy_49 : decode bModel_copy 49 = .ok (.getfield 42, 3) := by decide +kernel
theorem dModel_copy_52 : decode bModel_copy 52 = .ok (.iload_n 2, 1) := by decide +kernel
theorem dModel_copy_53 : decode bModel_copy 53 = .ok (.aload_n 0, 1) := by decide +kernel
theorem dModel_copy_54 : decode bModel_copy 54 = .ok (.getfield 42, 3) := by decide +kernel
theorem dModel_copy_57 : decode bModel_copy 57 = .ok (.iload_n 1, 1) := by decide +kernel
theorem dModel_copy_58 : decode bModel_copy 58 = .ok (.laload, 1) := by decide +kernel
theorem dModel_copy_59 : decode bModel_copy 59 = .ok (.lastore, 1) := by decide +kernel
theorem dModel_copy_60 : decode bModel_copy 60 = .ok (.iconst 0, 1) := by decide +kernel
theorem dModel_copy_61 : decode bModel_copy 61 = .ok (.istore_n 3, 1) := by decide +kernel
theorem dModel_copy_62 : decode bModel_copy 62 = .ok (.iload_n 3, 1) := by decide +kernel
theorem dModel_copy_63 : decode bModel_copy 63 = .ok (.bipush 64, 2) := by decide +kernel
theorem dModel_copy_65 : decode bModel_copy 65 = .ok (.if_icmp .ge 21, 3) := by decide +kernel
theorem dModel_copy_68 : decode bModel_copy 68 = .ok (.aload_n 0, 1) := by decide +kernel
theorem dModel_copy_69 : decode bModel_copy 69 = .ok (.iload_n 2, 1) := by decide +kernel
theorem dModel_copy_70 : decode bModel_copy 70 = .ok (.iload_n 3, 1) := by decide +kernel
theorem dModel_copy_71 : decode bModel_copy 71 = .ok (.aload_n 0, 1) := by decide +kernel
theorem dModel_copy_72 : decode bModel_copy 72 = .ok (.iload_n 1, 1) := by decide +kernel
theorem dModel_copy_73 : decode bModel_copy 73 = .ok (.iload_n 3, 1) := by decide +kernel
theorem dModel_copy_74 : decode bModel_copy 74 = .ok (.invokevirtual 131, 3) := by decide +kernel
theorem dModel_copy_77 : decode bModel_copy 77 = .ok (.invokevirtual 127, 3) := by decide +kernel
theorem dModel_copy_80 : decode bModel_copy 80 = .ok (.iinc 3 1, 3) := by decide +kernel
theorem dModel_copy_83 : decode bModel_copy 83 = .ok (.goto (-21), 3) := by decide +kernel
theorem dModel_copy_86 : decode bModel_copy 86 = .ok (.return_, 1) := by decide +kernel
