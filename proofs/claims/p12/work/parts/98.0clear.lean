theorem qw_a8607651af : (Cond.methodLink R_TypeBook 96 yTrees_fell) ∈ bs_W0 := bs_in (in_tables_1_2 (List.mem_of_getElem? (i := 78) rfl)) rfl
set_option maxHeartbeats 4000000 in
set_option maxRecDepth 100000 in
theorem k_TypeBook_clear (l : Launch) (γ : gE) (A : Nat → Prop) (κ : Nat → Nat)   : MU l yTypeBook_clear bTypeBook_clear 2 (some .int) 1 20 0 0 [.ref (γ.2.2.2 0)] γ A (INV γ A κ) (mQi (fun r H => r = nI (κ 0) ∧ INV γ A (ku (ku κ 0 (0)) 1 (0)) H) A) := by
  refine mu_openI (by decide) (Nat.le_of_ble_eq_true rfl) ?_
  intro p e s m args below meth c ls Q S hnm hC hA hI hE hl
  obtain ⟨hx, hb, hml, hown, hW⟩ := id S
  have hS : va_S A s.heap s.heap [] := va_S.rf
  have hl : lv_has ls 2 [(0, .ref (γ.2.2.2 0))] := hl
  refine lv_aload_n hx hb dTypeBook_clear_0 rfl (lv_at hl 0 rfl) ?_
  refine of_get S hC (of_0_0 hI) in_TypeBook rfl (by decide) qw_6151ee7924 dTypeBook_clear_1 ?_
  refine of_getN S hC (of_1_4 hI) in_Trees rfl (by decide) qn_307125c060 dTypeBook_clear_4 ?_
  refine lv_topi (fun v3 ev3 => ?_)
  have ev3 : v3 = nI (κ 0) := ev3
  refine lv_istore_n (lv' := [(1, .int v3), (0, .ref (γ.2.2.2 0))]) hx hb dTypeBook_clear_7 rfl hl (by decide) rfl (fun ls hl => ?_)
  refine lv_aload_n hx hb dTypeBook_clear_8 rfl (lv_at hl 1 rfl) ?_
  refine of_get S hC (of_0_0 hI) in_TypeBook rfl (by decide) qw_6151ee7924 dTypeBook_clear_9 ?_
  refine mu_Vv (rest := []) S hC (fun q h => hA q (Nat.le_trans hS.1 h)) (fun q h => h) hS (k1_Trees_fell l γ A κ ) meTrees_fell qw_a8607651af ⟨Nat.le_of_ble_eq_true rfl, Nat.le_of_ble_eq_true rfl⟩ (rv_1 hC hI) hI rfl hl.1 rfl (Nat.le_of_ble_eq_true rfl) dTypeBook_clear_12 ⟨(by show 0 + 0 ≤ 0; omega), (by show 0 + 0 ≤ 0; omega)⟩ (fun H locs hI hS _ _ => ?_)
  have hI : INV γ A (ku (ku κ 0 (0)) 1 (0)) _ := hI
  refine lv_iload_n hx hb dTypeBook_clear_15 rfl (lv_at hl 0 rfl) ?_
  exact hE _ _ v3 16 ls hS ⟨by assumption, hI⟩ dTypeBook_clear_16
