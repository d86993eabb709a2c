theorem qw_90a02633e0 : (Cond.methodLink R_TypeBook 112 yTrees_has) ∈ bs_W0 := bs_in (in_tables_1_3 (List.mem_of_getElem? (i := 22) rfl)) rfl
theorem qw_393f431be6 : (Cond.fieldLink R_TypeBook 26 R_TypeBook "types" "LTypeBook$Types;") ∈ bs_W0 := bs_in (in_tables_1_2 (List.mem_of_getElem? (i := 54) rfl)) rfl
theorem qw_438f5fc1da : (Cond.methodLink R_TypeBook 174 yTypes_has) ∈ bs_W0 := bs_in (in_tables_1_5 (List.mem_of_getElem? (i := 51) rfl)) rfl
theorem qw_d8c2c64b31 : (Cond.methodLink R_TypeBook 120 yLooker_look) ∈ bs_W0 := bs_in (in_tables_1_3 (List.mem_of_getElem? (i := 39) rfl)) rfl
theorem qw_eb62b8f344 : (Cond.methodLink R_TypeBook 186 yLooker_judge) ∈ bs_W0 := bs_in (in_tables_1_5 (List.mem_of_getElem? (i := 63) rfl)) rfl
theorem qw_e2e3c61940 : (Cond.methodLink R_TypeBook 140 yLooker_tell) ∈ bs_W0 := bs_in (in_tables_1_4 (List.mem_of_getElem? (i := 223) rfl)) rfl
theorem qn_b283086a15 : (Cond.fieldLinkNest R_TypeBook 124 R_Looker "at" "I" "TypeBook") ∈ lw_tbl := in_tables_1_2 (List.mem_of_getElem? (i := 34) rfl)
theorem qw_fa3e8c2955 : (Cond.methodLink R_TypeBook 127 yTypeBook_refused) ∈ bs_W0 := bs_in (in_tables_1_4 (List.mem_of_getElem? (i := 197) rfl)) rfl
theorem qw_ae3ba0ca69 : (Cond.classLink R_TypeBook 115 "java/lang/IndexOutOfBoundsException") ∈ bs_W0 := bs_in (in_tables_1_3 (List.mem_of_getElem? (i := 23) rfl)) rfl
theorem qw_d4b771d349 : (Cond.initialized "java/lang/IndexOutOfBoundsException") ∈ bs_W0 := bs_in (in_tables_1_1 (List.mem_of_getElem? (i := 20) rfl)) rfl
set_option maxHeartbeats 4000000 in
set_option maxRecDepth 100000 in
theorem x_check (l : Launch) (hst : l.stackTraces = false) (γ : gE) (A : Nat → Prop) (κ : Nat → Nat) (s0 : State) (hw0 : SW s0) (hA0 : ∀ q, A q → s0.heap.size ≤ q) (H0 : Heap) (x1 : Int32) (x2 : Int32) : XM l yTypeBook_check bTypeBook_check 4 (some .int) 7 174 50000 1000000 [.ref (γ.2.2.2 0), .int x1, .int x2] γ A (fun U => FB s0 U U.heap ∧ U.heap = H0 ∧ INV γ A κ U.heap) (mQi (fun r H => PB γ A κ H0 (fun κ' => κ' 3 = κ 3 ∧ κ' 0 = κ 0 ∧ κ' 1 = κ 1) H) A) (fun E H => E ∈ ["java/lang/IndexOutOfBoundsException"] ∧ PB γ A κ H0 (fun κ' => κ' 3 = κ 3 ∧ κ' 0 = κ 0 ∧ κ' 1 = κ 1) H ∧ fr_A A H0 H) := by
  refine tx_openI (by decide) (Nat.le_of_ble_eq_true rfl) ?_
  intro p e s m args below meth c ls Q S hret hlk hX hC hA hP hQ hl
  obtain ⟨hF0, hH0, hI⟩ := hP
  subst hH0
  obtain ⟨hx, hb, hml, hown, hW⟩ := id S
  have hS : va_S A s.heap s.heap [] := va_S.rf
  have hl : lv_has ls 4 [(0, .ref (γ.2.2.2 0)), (1, .int x1), (2, .int x2)] := hl
  obtain ⟨hlen, hsz⟩ := inv_len hI
  have J37 : ∀ (ls : Array Slot) (H : Heap) (locs : List Loc) (i1 : Int32) (i2 : Int32), INV γ A κ H → va_S A s.heap H locs → (i1.toInt < 2147483647 ∧ (i1 - 1).toInt < 2147483647) → lv_has ls 4 [(0, .ref (γ.2.2.2 0)), (1, .int i1), (2, .int i2)] → W p l e (bs_rm 7 50000 1000000 174) s m args below meth c H locs 0 0 Q (F0 m 37 ls []) := by
    intro ls H locs i1 i2 hI hS ⟨hnode, hnode2⟩ hl
    refine lv_aload_n hx hb dTypeBook_check_37 rfl (lv_at hl 0 rfl) ?_
    refine of_get S hC (of_0_5 hI) in_TypeBook rfl (by decide) qw_130a6323a2 dTypeBook_check_38 ?_
    refine lv_aload_n hx hb dTypeBook_check_41 rfl (lv_at hl 0 rfl) ?_
    refine of_get S hC (of_0_5 hI) in_TypeBook rfl (by decide) qw_130a6323a2 dTypeBook_check_42 ?_
    refine lv_iload_n hx hb dTypeBook_check_45 rfl (lv_at hl 1 rfl) ?_
    refine lv_iload_n hx hb dTypeBook_check_46 rfl (lv_at hl 1 rfl) ?_
    refine mu_Vi (rest := [.ref (γ.2.2.2 8)]) S hC (fun q h => hA q (Nat.le_trans hS.1 h)) (fun q h => h) hS (k_Looker_look l γ A κ i1 i1 hnode) meLooker_look qw_d8c2c64b31 ⟨Nat.le_of_ble_eq_true rfl, Nat.le_of_ble_eq_true rfl⟩ (rv_8 hC hI) hI rfl hl.1 rfl (Nat.le_of_ble_eq_true rfl) dTypeBook_check_47 ⟨(by show 0 + 0 ≤ 50000; omega), (by show 0 + 0 ≤ 1000000; omega)⟩ (fun r12 H locs ⟨hr12, hI⟩ hS _ _ => ?_)
    refine lv_iload_n hx hb dTypeBook_check_50 rfl (lv_at hl 1 rfl) ?_
    refine lv_iload_n hx hb dTypeBook_check_51 rfl (lv_at hl 2 rfl) ?_
    refine lv_iconst (v := 0) hx hb dTypeBook_check_52 (by decide) ?_
    refine pu_Vi (rest := []) S hC (k_Looker_judge l γ A κ r12 i1 i2 0) meLooker_judge qw_eb62b8f344 ⟨Nat.le_of_ble_eq_true rfl, Nat.le_of_ble_eq_true rfl⟩ (rv_8 hC hI) hI rfl hl.1 rfl (Nat.le_of_ble_eq_true rfl) dTypeBook_check_53 ⟨(by show _ ≤ 50000; omega), (by show _ ≤ 1000000; omega)⟩ (fun r13 hr13 => ?_)
    refine lv_istore_n (lv' := [(3, .int r13), (0, .ref (γ.2.2.2 0)), (1, .int i1), (2, .int i2)]) hx hb dTypeBook_check_56 rfl hl (by decide) rfl (fun ls hl => ?_)
    refine lv_iload_n hx hb dTypeBook_check_57 rfl (lv_at hl 0 rfl) ?_
    refine lv_if_eq (tgt := 74) hx hb dTypeBook_check_58 (by decide) (fun c14 => ?_) (fun c14 => ?_)
    · refine lv_aload_n hx hb dTypeBook_check_74 rfl (lv_at hl 1 rfl) ?_
      refine of_get S hC (of_0_5 hI) in_TypeBook rfl (by decide) qw_130a6323a2 dTypeBook_check_75 ?_
      refine lv_aload_n hx hb dTypeBook_check_78 rfl (lv_at hl 1 rfl) ?_
      refine of_get S hC (of_0_4 hI) in_TypeBook rfl (by decide) qw_ce6a8385d0 dTypeBook_check_79 ?_
      refine lv_iload_n hx hb dTypeBook_check_82 rfl (lv_at hl 2 rfl) ?_
      refine lv_iload_n hx hb dTypeBook_check_83 rfl (lv_at hl 2 rfl) ?_
      refine mu_Vv (rest := []) S hC (fun q h => hA q (Nat.le_trans hS.1 h)) (fun q h => h) hS (k_Looker_tell l γ A κ i1 i1 hnode) meLooker_tell qw_e2e3c61940 ⟨Nat.le_of_ble_eq_true rfl, Nat.le_of_ble_eq_true rfl⟩ (rv_8 hC hI) hI rfl hl.1 rfl (Nat.le_of_ble_eq_true rfl) dTypeBook_check_84 ⟨(by show 0 + 0 ≤ 50000; omega), (by show 0 + 0 ≤ 1000000; omega)⟩ (fun H locs hI hS _ _ => ?_)
      refine lv_aload_n hx hb dTypeBook_check_87 rfl (lv_at hl 1 rfl) ?_
      refine lv_iconst (v := (-1)) hx hb dTypeBook_check_88 (by decide) ?_
      refine iv_fault S hC hI (fun q h => hA q (Nat.le_trans hS.1 h)) hS qw_464f80981e dTypeBook_check_89 (fun H locs hI hS => ?_)
      refine lv_iconst (v := 0) hx hb dTypeBook_check_92 (by decide) ?_
      rw [hQ]
      refine tx_endI S hret hlk hS (by show 0 ≤ 50000; omega) (by show 0 ≤ 1000000; omega) (fun hG => ?_) dTypeBook_check_93
      exact (pb_of κ hI (show κ 3 = κ 3 ∧ κ 0 = κ 0 ∧ κ 1 = κ 1 from ⟨rfl, rfl, rfl⟩) hG (by show 5 * (κ 6) + 5 * (κ 7) + 4 * (κ 8) + 4 * (κ 9) + 4 * (κ 10) + 4 * (κ 11) + 5 * (κ 12) + 4 * (κ 13) + 3 * (κ 14) + 1 * (κ 15) ≤ 5 * (κ 6) + 5 * (κ 7) + 4 * (κ 8) + 4 * (κ 9) + 4 * (κ 10) + 4 * (κ 11) + 5 * (κ 12) + 4 * (κ 13) + 3 * (κ 14) + 1 * (κ 15); omega) (by show 0 ≤ (5 * (κ 6) + 5 * (κ 7) + 4 * (κ 8) + 4 * (κ 9) + 4 * (κ 10) + 4 * (κ 11) + 5 * (κ 12) + 4 * (κ 13) + 3 * (κ 14) + 1 * (κ 15)) - (5 * (κ 6) + 5 * (κ 7) + 4 * (κ 8) + 4 * (κ 9) + 4 * (κ 10) + 4 * (κ 11) + 5 * (κ 12) + 4 * (κ 13) + 3 * (κ 14) + 1 * (κ 15)) + 1; omega) (by show 0 ≤ 2 * ((5 * (κ 6) + 5 * (κ 7) + 4 * (κ 8) + 4 * (κ 9) + 4 * (κ 10) + 4 * (κ 11) + 5 * (κ 12) + 4 * (κ 13) + 3 * (κ 14) + 1 * (κ 15)) - (5 * (κ 6) + 5 * (κ 7) + 4 * (κ 8) + 4 * (κ 9) + 4 * (κ 10) + 4 * (κ 11) + 5 * (κ 12) + 4 * (κ 13) + 3 * (κ 14) + 1 * (κ 15))) + 6; omega))
    · refine lv_aload_n hx hb dTypeBook_check_61 rfl (lv_at hl 1 rfl) ?_
      refine lv_iload_n hx hb dTypeBook_check_62 rfl (lv_at hl 0 rfl) ?_
      refine lv_aload_n hx hb dTypeBook_check_63 rfl (lv_at hl 1 rfl) ?_
      refine of_get S hC (of_0_5 hI) in_TypeBook rfl (by decide) qw_130a6323a2 dTypeBook_check_64 ?_
      obtain ⟨v16, hOv16⟩ := of_8_7 hI
      refine of_getN S hC hOv16 in_Looker rfl (by decide) qn_b283086a15 dTypeBook_check_67 ?_
      refine mu_Vi (rest := []) S hC (fun q h => hA q (Nat.le_trans hS.1 h)) (fun q h => h) hS (k_TypeBook_refused l γ A κ r13 v16) meTypeBook_refused qw_fa3e8c2955 ⟨Nat.le_of_ble_eq_true rfl, Nat.le_of_ble_eq_true rfl⟩ (rv_0 hC hI) hI rfl hl.1 rfl (Nat.le_of_ble_eq_true rfl) dTypeBook_check_70 ⟨(by show 0 + 0 ≤ 50000; omega), (by show 0 + 0 ≤ 1000000; omega)⟩ (fun r17 H locs ⟨hr17, hI⟩ hS _ _ => ?_)
      rw [hQ]
      refine tx_endI S hret hlk hS (by show 0 ≤ 50000; omega) (by show 0 ≤ 1000000; omega) (fun hG => ?_) dTypeBook_check_73
      exact (pb_of κ hI (show κ 3 = κ 3 ∧ κ 0 = κ 0 ∧ κ 1 = κ 1 from ⟨rfl, rfl, rfl⟩) hG (by show 5 * (κ 6) + 5 * (κ 7) + 4 * (κ 8) + 4 * (κ 9) + 4 * (κ 10) + 4 * (κ 11) + 5 * (κ 12) + 4 * (κ 13) + 3 * (κ 14) + 1 * (κ 15) ≤ 5 * (κ 6) + 5 * (κ 7) + 4 * (κ 8) + 4 * (κ 9) + 4 * (κ 10) + 4 * (κ 11) + 5 * (κ 12) + 4 * (κ 13) + 3 * (κ 14) + 1 * (κ 15); omega) (by show 0 ≤ (5 * (κ 6) + 5 * (κ 7) + 4 * (κ 8) + 4 * (κ 9) + 4 * (κ 10) + 4 * (κ 11) + 5 * (κ 12) + 4 * (κ 13) + 3 * (κ 14) + 1 * (κ 15)) - (5 * (κ 6) + 5 * (κ 7) + 4 * (κ 8) + 4 * (κ 9) + 4 * (κ 10) + 4 * (κ 11) + 5 * (κ 12) + 4 * (κ 13) + 3 * (κ 14) + 1 * (κ 15)) + 1; omega) (by show 0 ≤ 2 * ((5 * (κ 6) + 5 * (κ 7) + 4 * (κ 8) + 4 * (κ 9) + 4 * (κ 10) + 4 * (κ 11) + 5 * (κ 12) + 4 * (κ 13) + 3 * (κ 14) + 1 * (κ 15)) - (5 * (κ 6) + 5 * (κ 7) + 4 * (κ 8) + 4 * (κ 9) + 4 * (κ 10) + 4 * (κ 11) + 5 * (κ 12) + 4 * (κ 13) + 3 * (κ 14) + 1 * (κ 15))) + 6; omega))
  have J27 : ∀ (ls : Array Slot) (H : Heap) (locs : List Loc) (i1 : Int32) (i2 : Int32), INV γ A κ H → va_S A s.heap H locs → lv_has ls 4 [(0, .ref (γ.2.2.2 0)), (1, .int i1), (2, .int i2)] → W p l e (bs_rm 7 50000 1000000 174) s m args below meth c H locs 0 0 Q (F0 m 27 ls []) := by
    intro ls H locs i1 i2 hI hS hl
    obtain ⟨sa27, hsa27⟩ := hw0.2.2.2.1 R_TypeBook 199 "no such node or type" (in_tables_1_5 (List.mem_of_getElem? (i := 103) rfl))
    rw [hQ]
    refine tx_throw (s0 := s0) (names := ["java/lang/RuntimeException", "java/lang/Exception"]) (text := "no such node or type") (sa := sa27) S hst hX hlk (by decide +kernel) (by decide +kernel) qw_ae3ba0ca69 qw_d4b771d349 (hF0.step hA0 hS.1 hS.2.1) hsa27 (ta_IOB hW hw0) hl.1 dTypeBook_check_27 dTypeBook_check_30 dTypeBook_check_31 dTypeBook_check_33 dTypeBook_check_36 (Nat.lt_of_lt_of_le (by decide) (Nat.le_of_ble_eq_true rfl : 6 ≤ _)) (Nat.le_of_ble_eq_true rfl) (by show 0 + 1 ≤ 50000; omega) (by show 0 + 6 ≤ 1000000; omega) (fun H1 hG hz ho => ?_) hS.2.2 (by show 0 + 1 ≤ 50000; omega) (by show 0 + 6 ≤ 1000000; omega)
    exact ⟨by decide, (pb_of κ (inv_more hI ho) (show κ 3 = κ 3 ∧ κ 0 = κ 0 ∧ κ 1 = κ 1 from ⟨rfl, rfl, rfl⟩) hG (by show 5 * (κ 6) + 5 * (κ 7) + 4 * (κ 8) + 4 * (κ 9) + 4 * (κ 10) + 4 * (κ 11) + 5 * (κ 12) + 4 * (κ 13) + 3 * (κ 14) + 1 * (κ 15) ≤ 5 * (κ 6) + 5 * (κ 7) + 4 * (κ 8) + 4 * (κ 9) + 4 * (κ 10) + 4 * (κ 11) + 5 * (κ 12) + 4 * (κ 13) + 3 * (κ 14) + 1 * (κ 15); omega) (by show 0 + 1 ≤ (5 * (κ 6) + 5 * (κ 7) + 4 * (κ 8) + 4 * (κ 9) + 4 * (κ 10) + 4 * (κ 11) + 5 * (κ 12) + 4 * (κ 13) + 3 * (κ 14) + 1 * (κ 15)) - (5 * (κ 6) + 5 * (κ 7) + 4 * (κ 8) + 4 * (κ 9) + 4 * (κ 10) + 4 * (κ 11) + 5 * (κ 12) + 4 * (κ 13) + 3 * (κ 14) + 1 * (κ 15)) + 1; omega) (by show 0 + 6 ≤ 2 * ((5 * (κ 6) + 5 * (κ 7) + 4 * (κ 8) + 4 * (κ 9) + 4 * (κ 10) + 4 * (κ 11) + 5 * (κ 12) + 4 * (κ 13) + 3 * (κ 14) + 1 * (κ 15)) - (5 * (κ 6) + 5 * (κ 7) + 4 * (κ 8) + 4 * (κ 9) + 4 * (κ 10) + 4 * (κ 11) + 5 * (κ 12) + 4 * (κ 13) + 3 * (κ 14) + 1 * (κ 15))) + 6; omega)), fr_more hS hz ho⟩
  refine lv_aload_n hx hb dTypeBook_check_0 rfl (lv_at hl 0 rfl) ?_
  refine of_get S hC (of_0_0 hI) in_TypeBook rfl (by decide) qw_6151ee7924 dTypeBook_check_1 ?_
  refine lv_iload_n hx hb dTypeBook_check_4 rfl (lv_at hl 1 rfl) ?_
  refine pu_Vi (rest := []) S hC (k1_Trees_has l γ A κ x1) meTrees_has qw_90a02633e0 ⟨Nat.le_of_ble_eq_true rfl, Nat.le_of_ble_eq_true rfl⟩ (rv_1 hC hI) hI rfl hl.1 rfl (Nat.le_of_ble_eq_true rfl) dTypeBook_check_5 ⟨(by show _ ≤ 50000; omega), (by show _ ≤ 1000000; omega)⟩ (fun r18 hr18 => ?_)
  refine lv_if_eq (tgt := 27) hx hb dTypeBook_check_8 (by decide) (fun c19 => ?_) (fun c19 => ?_)
  · refine W.up (k := 0) (n := 0) (by show 0 ≤ _; omega) (by show 0 ≤ _; omega) ?_
    exact J27 ls _ _ x1 x2 hI hS (lv_sub hl [0, 1, 2] rfl)
  · refine lv_iload_n hx hb dTypeBook_check_11 rfl (lv_at hl 2 rfl) ?_
    refine lv_iconst (v := (-1)) hx hb dTypeBook_check_12 (by decide) ?_
    refine lv_icmp_eq (tgt := 37) hx hb dTypeBook_check_13 (by decide) (fun c20 => ?_) (fun c20 => ?_)
    · refine W.up (k := 0) (n := 0) (by show 0 ≤ _; omega) (by show 0 ≤ _; omega) ?_
      exact J37 ls _ _ x1 x2 hI hS (by first | exact ⟨hnode, hnode2⟩ | exact node_ok (x := x1) (by assumption) (by assumption) (by omega)) (lv_sub hl [0, 1, 2] rfl)
    · refine lv_aload_n hx hb dTypeBook_check_16 rfl (lv_at hl 0 rfl) ?_
      refine of_get S hC (of_0_2 hI) in_TypeBook rfl (by decide) qw_393f431be6 dTypeBook_check_17 ?_
      refine lv_iload_n hx hb dTypeBook_check_20 rfl (lv_at hl 2 rfl) ?_
      refine pu_Vi (rest := []) S hC (k3_Types_has l γ A κ x2) meTypes_has qw_438f5fc1da ⟨Nat.le_of_ble_eq_true rfl, Nat.le_of_ble_eq_true rfl⟩ (rv_3 hC hI) hI rfl hl.1 rfl (Nat.le_of_ble_eq_true rfl) dTypeBook_check_21 ⟨(by show _ ≤ 50000; omega), (by show _ ≤ 1000000; omega)⟩ (fun r21 hr21 => ?_)
      refine lv_if_ne (tgt := 37) hx hb dTypeBook_check_24 (by decide) (fun c22 => ?_) (fun c22 => ?_)
      · refine W.up (k := 0) (n := 0) (by show 0 ≤ _; omega) (by show 0 ≤ _; omega) ?_
        exact J37 ls _ _ x1 x2 hI hS (by first | exact ⟨hnode, hnode2⟩ | exact node_ok (x := x1) (by assumption) (by assumption) (by omega)) (lv_sub hl [0, 1, 2] rfl)
      · refine W.up (k := 0) (n := 0) (by show 0 ≤ _; omega) (by show 0 ≤ _; omega) ?_
        exact J27 ls _ _ x1 x2 hI hS (lv_sub hl [0, 1, 2] rfl)
