theorem qw_323c2e74ae : (Cond.methodLink R_TypeBook 109 yNames_close) ∈ bs_W0 := bs_in (in_tables_1_3 (List.mem_of_getElem? (i := 10) rfl)) rfl
set_option maxHeartbeats 4000000 in
set_option maxRecDepth 100000 in
theorem x_leave (l : Launch) (hst : l.stackTraces = false) (γ : gE) (A : Nat → Prop) (κ : Nat → Nat) (s0 : State) (hw0 : SW s0) (hA0 : ∀ q, A q → s0.heap.size ≤ q) (H0 : Heap)  : XM l yTypeBook_leave bTypeBook_leave 1 (some .int) 6 82 50000 1000000 [.ref (γ.2.2.2 0)] γ A (fun U => FB s0 U U.heap ∧ U.heap = H0 ∧ INV γ A κ U.heap) (mQi (fun r H => ∃ s1, κ 3 = s1 + 1 ∧ 1 ≤ s1 ∧ r = nI s1 ∧ PB γ A κ H0 (fun κ' => κ' 3 = s1 ∧ κ' 0 = κ 0 ∧ κ' 1 = κ 1) H) A) (fun E H => E ∈ ["java/lang/IllegalStateException"] ∧ κ 3 = 1 ∧ PB γ A κ H0 (fun κ' => κ' 3 = κ 3 ∧ κ' 0 = κ 0 ∧ κ' 1 = κ 1) H ∧ fr_A A H0 H) := by
  refine tx_openI (by decide) (Nat.le_of_ble_eq_true rfl) ?_
  intro p e s m args below meth c ls Q S hret hlk hX hC hA hP hQ hl
  obtain ⟨hF0, hH0, hI⟩ := hP
  subst hH0
  obtain ⟨hx, hb, hml, hown, hW⟩ := id S
  have hS : va_S A s.heap s.heap [] := va_S.rf
  have hl : lv_has ls 1 [(0, .ref (γ.2.2.2 0))] := hl
  obtain ⟨hlen, hsz⟩ := inv_len hI
  refine lv_aload_n hx hb dTypeBook_leave_0 rfl (lv_at hl 0 rfl) ?_
  refine of_get S hC (of_0_1 hI) in_TypeBook rfl (by decide) qw_a088f6ef48 dTypeBook_leave_1 ?_
  refine of_getN S hC (of_2_8 hI) in_Names rfl (by decide) qn_75616f261a dTypeBook_leave_4 ?_
  refine lv_topi (fun v5 ev5 => ?_)
  have ev5 : v5 = nI (κ 3) := ev5
  refine lv_iconst (v := 1) hx hb dTypeBook_leave_7 (by decide) ?_
  refine lv_icmp_gt (tgt := 21) hx hb dTypeBook_leave_8 (by decide) (fun c6 => ?_) (fun c6 => ?_)
  · have hN : 1 < κ 3 := gt_ok (M := 1) (by assumption) rfl (by assumption) (by omega) (by omega)
    obtain ⟨s1, hs1⟩ : ∃ s1, κ 3 = s1 + 1 := ⟨κ 3 - 1, by omega⟩
    refine lv_aload_n hx hb dTypeBook_leave_21 rfl (lv_at hl 0 rfl) ?_
    refine of_get S hC (of_0_1 hI) in_TypeBook rfl (by decide) qw_a088f6ef48 dTypeBook_leave_22 ?_
    refine mu_Vv (rest := []) S hC (fun q h => hA q (Nat.le_trans hS.1 h)) (fun q h => h) hS (k2_Names_close l γ A κ  s1 hs1 (by omega)) meNames_close qw_323c2e74ae ⟨Nat.le_of_ble_eq_true rfl, Nat.le_of_ble_eq_true rfl⟩ (rv_2 hC hI) hI rfl hl.1 rfl (Nat.le_of_ble_eq_true rfl) dTypeBook_leave_25 ⟨(by show 0 + 0 ≤ 50000; omega), (by show 0 + 0 ≤ 1000000; omega)⟩ (fun H locs ⟨j9, hj9, hI⟩ hS _ _ => ?_)
    have hI : INV γ A (ku (ku κ 3 (s1)) 2 (j9)) _ := hI
    refine lv_aload_n hx hb dTypeBook_leave_28 rfl (lv_at hl 0 rfl) ?_
    refine of_get S hC (of_0_1 hI) in_TypeBook rfl (by decide) qw_a088f6ef48 dTypeBook_leave_29 ?_
    refine of_getN S hC (of_2_8 hI) in_Names rfl (by decide) qn_75616f261a dTypeBook_leave_32 ?_
    refine lv_topi (fun v8 ev8 => ?_)
    have ev8 : v8 = nI (s1) := ev8
    rw [hQ]
    refine tx_endI S hret hlk hS (by show 0 ≤ 50000; omega) (by show 0 ≤ 1000000; omega) (fun hG => ?_) dTypeBook_leave_35
    exact ⟨s1, hs1, by omega, by assumption, (pb_of (ku (ku κ 3 (s1)) 2 (j9)) hI (show s1 = s1 ∧ κ 0 = κ 0 ∧ κ 1 = κ 1 from ⟨rfl, rfl, rfl⟩) hG (by show 5 * (κ 6) + 5 * (κ 7) + 4 * (κ 8) + 4 * (κ 9) + 4 * (κ 10) + 4 * (κ 11) + 5 * (κ 12) + 4 * (κ 13) + 3 * (κ 14) + 1 * (κ 15) ≤ 5 * (κ 6) + 5 * (κ 7) + 4 * (κ 8) + 4 * (κ 9) + 4 * (κ 10) + 4 * (κ 11) + 5 * (κ 12) + 4 * (κ 13) + 3 * (κ 14) + 1 * (κ 15); omega) (by show 0 ≤ (5 * (κ 6) + 5 * (κ 7) + 4 * (κ 8) + 4 * (κ 9) + 4 * (κ 10) + 4 * (κ 11) + 5 * (κ 12) + 4 * (κ 13) + 3 * (κ 14) + 1 * (κ 15)) - (5 * (κ 6) + 5 * (κ 7) + 4 * (κ 8) + 4 * (κ 9) + 4 * (κ 10) + 4 * (κ 11) + 5 * (κ 12) + 4 * (κ 13) + 3 * (κ 14) + 1 * (κ 15)) + 1; omega) (by show 0 ≤ 2 * ((5 * (κ 6) + 5 * (κ 7) + 4 * (κ 8) + 4 * (κ 9) + 4 * (κ 10) + 4 * (κ 11) + 5 * (κ 12) + 4 * (κ 13) + 3 * (κ 14) + 1 * (κ 15)) - (5 * (κ 6) + 5 * (κ 7) + 4 * (κ 8) + 4 * (κ 9) + 4 * (κ 10) + 4 * (κ 11) + 5 * (κ 12) + 4 * (κ 13) + 3 * (κ 14) + 1 * (κ 15))) + 6; omega))⟩
  · obtain ⟨sa11, hsa11⟩ := hw0.2.2.2.1 R_TypeBook 107 "the outermost scope stays" (in_tables_1_3 (List.mem_of_getElem? (i := 9) rfl))
    rw [hQ]
    refine tx_throw (s0 := s0) (names := ["java/lang/RuntimeException", "java/lang/Exception"]) (text := "the outermost scope stays") (sa := sa11) S hst hX hlk (by decide +kernel) (by decide +kernel) qw_8038d8d33c qw_f529d83890 (hF0.step hA0 hS.1 hS.2.1) hsa11 (ta_ISE hW hw0) hl.1 dTypeBook_leave_11 dTypeBook_leave_14 dTypeBook_leave_15 dTypeBook_leave_17 dTypeBook_leave_20 (Nat.lt_of_lt_of_le (by decide) (Nat.le_of_ble_eq_true rfl : 6 ≤ _)) (Nat.le_of_ble_eq_true rfl) (by show 0 + 1 ≤ 50000; omega) (by show 0 + 6 ≤ 1000000; omega) (fun H1 hG hz ho => ?_) hS.2.2 (by show 0 + 1 ≤ 50000; omega) (by show 0 + 6 ≤ 1000000; omega)
    exact ⟨by decide, (by have h9 := ngt_ok (N := κ 3) (M := 1) (by assumption) rfl (by assumption) (by omega) (by omega); omega), (pb_of κ (inv_more hI ho) (show κ 3 = κ 3 ∧ κ 0 = κ 0 ∧ κ 1 = κ 1 from ⟨rfl, rfl, rfl⟩) hG (by show 5 * (κ 6) + 5 * (κ 7) + 4 * (κ 8) + 4 * (κ 9) + 4 * (κ 10) + 4 * (κ 11) + 5 * (κ 12) + 4 * (κ 13) + 3 * (κ 14) + 1 * (κ 15) ≤ 5 * (κ 6) + 5 * (κ 7) + 4 * (κ 8) + 4 * (κ 9) + 4 * (κ 10) + 4 * (κ 11) + 5 * (κ 12) + 4 * (κ 13) + 3 * (κ 14) + 1 * (κ 15); omega) (by show 0 + 1 ≤ (5 * (κ 6) + 5 * (κ 7) + 4 * (κ 8) + 4 * (κ 9) + 4 * (κ 10) + 4 * (κ 11) + 5 * (κ 12) + 4 * (κ 13) + 3 * (κ 14) + 1 * (κ 15)) - (5 * (κ 6) + 5 * (κ 7) + 4 * (κ 8) + 4 * (κ 9) + 4 * (κ 10) + 4 * (κ 11) + 5 * (κ 12) + 4 * (κ 13) + 3 * (κ 14) + 1 * (κ 15)) + 1; omega) (by show 0 + 6 ≤ 2 * ((5 * (κ 6) + 5 * (κ 7) + 4 * (κ 8) + 4 * (κ 9) + 4 * (κ 10) + 4 * (κ 11) + 5 * (κ 12) + 4 * (κ 13) + 3 * (κ 14) + 1 * (κ 15)) - (5 * (κ 6) + 5 * (κ 7) + 4 * (κ 8) + 4 * (κ 9) + 4 * (κ 10) + 4 * (κ 11) + 5 * (κ 12) + 4 * (κ 13) + 3 * (κ 14) + 1 * (κ 15))) + 6; omega)), fr_more hS hz ho⟩
