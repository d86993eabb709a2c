theorem qn_8558a3cbf3 : (Cond.fieldLinkNest R_TypeBook 235 R_Looks "rows" "LTypeBook$Rows;" "TypeBook") ∈ lw_tbl := in_tables_1_1 (List.mem_of_getElem? (i := 212) rfl)
theorem qw_9e45f7f101 : (Cond.methodLink R_TypeBook 239 yRows_get) ∈ bs_W0 := bs_in (in_tables_1_5 (List.mem_of_getElem? (i := 139) rfl)) rfl
theorem qw_9f81a39e28 : (Cond.methodLink R_TypeBook 230 yLooks_numberOf) ∈ bs_W0 := bs_in (in_tables_1_5 (List.mem_of_getElem? (i := 137) rfl)) rfl
set_option maxHeartbeats 4000000 in
set_option maxRecDepth 100000 in
theorem x_value (l : Launch) (hst : l.stackTraces = false) (γ : gE) (A : Nat → Prop) (κ : Nat → Nat) (s0 : State) (hw0 : SW s0) (hA0 : ∀ q, A q → s0.heap.size ≤ q) (H0 : Heap) (x1 : Int32) (x2 : Int32) : XM l yTypeBook_value bTypeBook_value 3 (some .int) 6 82 50000 1000000 [.ref (γ.2.2.2 0), .int x1, .int x2] γ A (fun U => FB s0 U U.heap ∧ U.heap = H0 ∧ INV γ A κ U.heap) (mQi (fun r H => PB γ A κ H0 (fun κ' => κ' 3 = κ 3 ∧ κ' 0 = κ 0 ∧ κ' 1 = κ 1) H) A) (fun E H => E ∈ ["java/lang/IndexOutOfBoundsException", "java/lang/IllegalStateException"] ∧ PB γ A κ H0 (fun κ' => κ' 3 = κ 3 ∧ κ' 0 = κ 0 ∧ κ' 1 = κ 1) H ∧ fr_A A H0 H) := by
  refine tx_openI (by decide) (Nat.le_of_ble_eq_true rfl) ?_
  intro p e s m args below meth c ls Q S hret hlk hX hC hA hP hQ hl
  obtain ⟨hF0, hH0, hI⟩ := hP
  subst hH0
  obtain ⟨hx, hb, hml, hown, hW⟩ := id S
  have hS : va_S A s.heap s.heap [] := va_S.rf
  have hl : lv_has ls 3 [(0, .ref (γ.2.2.2 0)), (1, .int x1), (2, .int x2)] := hl
  obtain ⟨hlen, hsz⟩ := inv_len hI
  have J91 : ∀ (ls : Array Slot) (H : Heap) (locs : List Loc) (i1 : Int32) (i2 : Int32), INV γ A κ H → va_S A s.heap H locs → lv_has ls 3 [(0, .ref (γ.2.2.2 0)), (1, .int i1), (2, .int i2)] → W p l e (bs_rm 6 50000 1000000 82) s m args below meth c H locs 0 0 Q (F0 m 91 ls []) := by
    intro ls H locs i1 i2 hI hS hl
    obtain ⟨sa91, hsa91⟩ := hw0.2.2.2.1 R_TypeBook 233 "no such element" (in_tables_1_5 (List.mem_of_getElem? (i := 138) rfl))
    rw [hQ]
    refine tx_throw (s0 := s0) (names := ["java/lang/RuntimeException", "java/lang/Exception"]) (text := "no such element") (sa := sa91) S hst hX hlk (by decide +kernel) (by decide +kernel) qw_ae3ba0ca69 qw_d4b771d349 (hF0.step hA0 hS.1 hS.2.1) hsa91 (ta_IOB hW hw0) hl.1 dTypeBook_value_91 dTypeBook_value_94 dTypeBook_value_95 dTypeBook_value_97 dTypeBook_value_100 (Nat.lt_of_lt_of_le (by decide) (Nat.le_of_ble_eq_true rfl : 6 ≤ _)) (Nat.le_of_ble_eq_true rfl) (by show 0 + 1 ≤ 50000; omega) (by show 0 + 6 ≤ 1000000; omega) (fun H1 hG hz ho => ?_) hS.2.2 (by show 0 + 1 ≤ 50000; omega) (by show 0 + 6 ≤ 1000000; omega)
    exact ⟨by decide, (pb_of κ (inv_more hI ho) (show κ 3 = κ 3 ∧ κ 0 = κ 0 ∧ κ 1 = κ 1 from ⟨rfl, rfl, rfl⟩) hG (by show 5 * (κ 6) + 5 * (κ 7) + 4 * (κ 8) + 4 * (κ 9) + 4 * (κ 10) + 4 * (κ 11) + 5 * (κ 12) + 4 * (κ 13) + 3 * (κ 14) + 1 * (κ 15) ≤ 5 * (κ 6) + 5 * (κ 7) + 4 * (κ 8) + 4 * (κ 9) + 4 * (κ 10) + 4 * (κ 11) + 5 * (κ 12) + 4 * (κ 13) + 3 * (κ 14) + 1 * (κ 15); omega) (by show 0 + 1 ≤ (5 * (κ 6) + 5 * (κ 7) + 4 * (κ 8) + 4 * (κ 9) + 4 * (κ 10) + 4 * (κ 11) + 5 * (κ 12) + 4 * (κ 13) + 3 * (κ 14) + 1 * (κ 15)) - (5 * (κ 6) + 5 * (κ 7) + 4 * (κ 8) + 4 * (κ 9) + 4 * (κ 10) + 4 * (κ 11) + 5 * (κ 12) + 4 * (κ 13) + 3 * (κ 14) + 1 * (κ 15)) + 1; omega) (by show 0 + 6 ≤ 2 * ((5 * (κ 6) + 5 * (κ 7) + 4 * (κ 8) + 4 * (κ 9) + 4 * (κ 10) + 4 * (κ 11) + 5 * (κ 12) + 4 * (κ 13) + 3 * (κ 14) + 1 * (κ 15)) - (5 * (κ 6) + 5 * (κ 7) + 4 * (κ 8) + 4 * (κ 9) + 4 * (κ 10) + 4 * (κ 11) + 5 * (κ 12) + 4 * (κ 13) + 3 * (κ 14) + 1 * (κ 15))) + 6; omega)), fr_more hS hz ho⟩
  have J44 : ∀ (ls : Array Slot) (H : Heap) (locs : List Loc) (i1 : Int32) (i2 : Int32), INV γ A κ H → va_S A s.heap H locs → lv_has ls 3 [(0, .ref (γ.2.2.2 0)), (1, .int i1), (2, .int i2)] → W p l e (bs_rm 6 50000 1000000 82) s m args below meth c H locs 0 0 Q (F0 m 44 ls []) := by
    intro ls H locs i1 i2 hI hS hl
    obtain ⟨sa44, hsa44⟩ := hw0.2.2.2.1 R_TypeBook 228 "not a constant that has been looked at" (in_tables_1_5 (List.mem_of_getElem? (i := 136) rfl))
    rw [hQ]
    refine tx_throw (s0 := s0) (names := ["java/lang/RuntimeException", "java/lang/Exception"]) (text := "not a constant that has been looked at") (sa := sa44) S hst hX hlk (by decide +kernel) (by decide +kernel) qw_8038d8d33c qw_f529d83890 (hF0.step hA0 hS.1 hS.2.1) hsa44 (ta_ISE hW hw0) hl.1 dTypeBook_value_44 dTypeBook_value_47 dTypeBook_value_48 dTypeBook_value_50 dTypeBook_value_53 (Nat.lt_of_lt_of_le (by decide) (Nat.le_of_ble_eq_true rfl : 6 ≤ _)) (Nat.le_of_ble_eq_true rfl) (by show 0 + 1 ≤ 50000; omega) (by show 0 + 6 ≤ 1000000; omega) (fun H1 hG hz ho => ?_) hS.2.2 (by show 0 + 1 ≤ 50000; omega) (by show 0 + 6 ≤ 1000000; omega)
    exact ⟨by decide, (pb_of κ (inv_more hI ho) (show κ 3 = κ 3 ∧ κ 0 = κ 0 ∧ κ 1 = κ 1 from ⟨rfl, rfl, rfl⟩) hG (by show 5 * (κ 6) + 5 * (κ 7) + 4 * (κ 8) + 4 * (κ 9) + 4 * (κ 10) + 4 * (κ 11) + 5 * (κ 12) + 4 * (κ 13) + 3 * (κ 14) + 1 * (κ 15) ≤ 5 * (κ 6) + 5 * (κ 7) + 4 * (κ 8) + 4 * (κ 9) + 4 * (κ 10) + 4 * (κ 11) + 5 * (κ 12) + 4 * (κ 13) + 3 * (κ 14) + 1 * (κ 15); omega) (by show 0 + 1 ≤ (5 * (κ 6) + 5 * (κ 7) + 4 * (κ 8) + 4 * (κ 9) + 4 * (κ 10) + 4 * (κ 11) + 5 * (κ 12) + 4 * (κ 13) + 3 * (κ 14) + 1 * (κ 15)) - (5 * (κ 6) + 5 * (κ 7) + 4 * (κ 8) + 4 * (κ 9) + 4 * (κ 10) + 4 * (κ 11) + 5 * (κ 12) + 4 * (κ 13) + 3 * (κ 14) + 1 * (κ 15)) + 1; omega) (by show 0 + 6 ≤ 2 * ((5 * (κ 6) + 5 * (κ 7) + 4 * (κ 8) + 4 * (κ 9) + 4 * (κ 10) + 4 * (κ 11) + 5 * (κ 12) + 4 * (κ 13) + 3 * (κ 14) + 1 * (κ 15)) - (5 * (κ 6) + 5 * (κ 7) + 4 * (κ 8) + 4 * (κ 9) + 4 * (κ 10) + 4 * (κ 11) + 5 * (κ 12) + 4 * (κ 13) + 3 * (κ 14) + 1 * (κ 15))) + 6; omega)), fr_more hS hz ho⟩
  refine lv_aload_n hx hb dTypeBook_value_0 rfl (lv_at hl 0 rfl) ?_
  refine of_get S hC (of_0_0 hI) in_TypeBook rfl (by decide) qw_6151ee7924 dTypeBook_value_1 ?_
  refine lv_iload_n hx hb dTypeBook_value_4 rfl (lv_at hl 1 rfl) ?_
  refine pu_Vi (rest := []) S hC (k1_Trees_has l γ A κ x1) meTrees_has qw_90a02633e0 ⟨Nat.le_of_ble_eq_true rfl, Nat.le_of_ble_eq_true rfl⟩ (rv_1 hC hI) hI rfl hl.1 rfl (Nat.le_of_ble_eq_true rfl) dTypeBook_value_5 ⟨(by show _ ≤ 50000; omega), (by show _ ≤ 1000000; omega)⟩ (fun r14 hr14 => ?_)
  refine lv_if_ne (tgt := 21) hx hb dTypeBook_value_8 (by decide) (fun c15 => ?_) (fun c15 => ?_)
  · refine lv_aload_n hx hb dTypeBook_value_21 rfl (lv_at hl 0 rfl) ?_
    refine of_get S hC (of_0_4 hI) in_TypeBook rfl (by decide) qw_ce6a8385d0 dTypeBook_value_22 ?_
    refine lv_iload_n hx hb dTypeBook_value_25 rfl (lv_at hl 1 rfl) ?_
    refine pu_Vi (rest := []) S hC (k6_Looks_classOf l γ A κ x1) meLooks_classOf qw_d27d929e86 ⟨Nat.le_of_ble_eq_true rfl, Nat.le_of_ble_eq_true rfl⟩ (rv_6 hC hI) hI rfl hl.1 rfl (Nat.le_of_ble_eq_true rfl) dTypeBook_value_26 ⟨(by show _ ≤ 50000; omega), (by show _ ≤ 1000000; omega)⟩ (fun r16 hr16 => ?_)
    refine lv_iconst (v := (-1)) hx hb dTypeBook_value_29 (by decide) ?_
    refine lv_icmp_eq (tgt := 44) hx hb dTypeBook_value_30 (by decide) (fun c17 => ?_) (fun c17 => ?_)
    · refine W.up (k := 0) (n := 0) (by show 0 ≤ _; omega) (by show 0 ≤ _; omega) ?_
      exact J44 ls _ _ x1 x2 hI hS (lv_sub hl [0, 1, 2] rfl)
    · refine lv_aload_n hx hb dTypeBook_value_33 rfl (lv_at hl 0 rfl) ?_
      refine of_get S hC (of_0_4 hI) in_TypeBook rfl (by decide) qw_ce6a8385d0 dTypeBook_value_34 ?_
      refine lv_iload_n hx hb dTypeBook_value_37 rfl (lv_at hl 1 rfl) ?_
      refine pu_Vi (rest := []) S hC (k6_Looks_isFixed l γ A κ x1) meLooks_isFixed qw_20deece3e0 ⟨Nat.le_of_ble_eq_true rfl, Nat.le_of_ble_eq_true rfl⟩ (rv_6 hC hI) hI rfl hl.1 rfl (Nat.le_of_ble_eq_true rfl) dTypeBook_value_38 ⟨(by show _ ≤ 50000; omega), (by show _ ≤ 1000000; omega)⟩ (fun r18 hr18 => ?_)
      refine lv_if_ne (tgt := 54) hx hb dTypeBook_value_41 (by decide) (fun c19 => ?_) (fun c19 => ?_)
      · refine lv_aload_n hx hb dTypeBook_value_54 rfl (lv_at hl 0 rfl) ?_
        refine of_get S hC (of_0_4 hI) in_TypeBook rfl (by decide) qw_ce6a8385d0 dTypeBook_value_55 ?_
        refine lv_iload_n hx hb dTypeBook_value_58 rfl (lv_at hl 1 rfl) ?_
        refine pu_Vi (rest := []) S hC (k6_Looks_classOf l γ A κ x1) meLooks_classOf qw_d27d929e86 ⟨Nat.le_of_ble_eq_true rfl, Nat.le_of_ble_eq_true rfl⟩ (rv_6 hC hI) hI rfl hl.1 rfl (Nat.le_of_ble_eq_true rfl) dTypeBook_value_59 ⟨(by show _ ≤ 50000; omega), (by show _ ≤ 1000000; omega)⟩ (fun r20 hr20 => ?_)
        refine lv_iconst (v := 3) hx hb dTypeBook_value_62 (by decide) ?_
        refine lv_icmp_eq (tgt := 75) hx hb dTypeBook_value_63 (by decide) (fun c21 => ?_) (fun c21 => ?_)
        · refine lv_iload_n hx hb dTypeBook_value_75 rfl (lv_at hl 2 rfl) ?_
          refine lv_if_lt (tgt := 91) hx hb dTypeBook_value_76 (by decide) (fun c22 => ?_) (fun c22 => ?_)
          · refine W.up (k := 0) (n := 0) (by show 0 ≤ _; omega) (by show 0 ≤ _; omega) ?_
            exact J91 ls _ _ x1 x2 hI hS (lv_sub hl [0, 1, 2] rfl)
          · refine lv_iload_n hx hb dTypeBook_value_79 rfl (lv_at hl 2 rfl) ?_
            refine lv_aload_n hx hb dTypeBook_value_80 rfl (lv_at hl 0 rfl) ?_
            refine of_get S hC (of_0_4 hI) in_TypeBook rfl (by decide) qw_ce6a8385d0 dTypeBook_value_81 ?_
            refine lv_iload_n hx hb dTypeBook_value_84 rfl (lv_at hl 1 rfl) ?_
            refine pu_Vi (rest := [.int x2]) S hC (k6_Looks_extentOf l γ A κ x1) meLooks_extentOf qw_98feb12098 ⟨Nat.le_of_ble_eq_true rfl, Nat.le_of_ble_eq_true rfl⟩ (rv_6 hC hI) hI rfl hl.1 rfl (Nat.le_of_ble_eq_true rfl) dTypeBook_value_85 ⟨(by show _ ≤ 50000; omega), (by show _ ≤ 1000000; omega)⟩ (fun r23 hr23 => ?_)
            refine lv_icmp_lt (tgt := 101) hx hb dTypeBook_value_88 (by decide) (fun c24 => ?_) (fun c24 => ?_)
            · refine lv_aload_n hx hb dTypeBook_value_101 rfl (lv_at hl 0 rfl) ?_
              refine of_get S hC (of_0_4 hI) in_TypeBook rfl (by decide) qw_ce6a8385d0 dTypeBook_value_102 ?_
              refine of_getN S hC (of_6_5 hI) in_Looks rfl (by decide) qn_8558a3cbf3 dTypeBook_value_105 ?_
              refine lv_iload_n hx hb dTypeBook_value_108 rfl (lv_at hl 1 rfl) ?_
              refine lv_iload_n hx hb dTypeBook_value_109 rfl (lv_at hl 2 rfl) ?_
              refine pu_Vi (rest := []) S hC (k7_Rows_get l γ A κ x1 x2) meRows_get qw_9e45f7f101 ⟨Nat.le_of_ble_eq_true rfl, Nat.le_of_ble_eq_true rfl⟩ (rv_7 hC hI) hI rfl hl.1 rfl (Nat.le_of_ble_eq_true rfl) dTypeBook_value_110 ⟨(by show _ ≤ 50000; omega), (by show _ ≤ 1000000; omega)⟩ (fun r25 hr25 => ?_)
              rw [hQ]
              refine tx_endI S hret hlk hS (by show 0 ≤ 50000; omega) (by show 0 ≤ 1000000; omega) (fun hG => ?_) dTypeBook_value_113
              exact (pb_of κ hI (show κ 3 = κ 3 ∧ κ 0 = κ 0 ∧ κ 1 = κ 1 from ⟨rfl, rfl, rfl⟩) hG (by show 5 * (κ 6) + 5 * (κ 7) + 4 * (κ 8) + 4 * (κ 9) + 4 * (κ 10) + 4 * (κ 11) + 5 * (κ 12) + 4 * (κ 13) + 3 * (κ 14) + 1 * (κ 15) ≤ 5 * (κ 6) + 5 * (κ 7) + 4 * (κ 8) + 4 * (κ 9) + 4 * (κ 10) + 4 * (κ 11) + 5 * (κ 12) + 4 * (κ 13) + 3 * (κ 14) + 1 * (κ 15); omega) (by show 0 ≤ (5 * (κ 6) + 5 * (κ 7) + 4 * (κ 8) + 4 * (κ 9) + 4 * (κ 10) + 4 * (κ 11) + 5 * (κ 12) + 4 * (κ 13) + 3 * (κ 14) + 1 * (κ 15)) - (5 * (κ 6) + 5 * (κ 7) + 4 * (κ 8) + 4 * (κ 9) + 4 * (κ 10) + 4 * (κ 11) + 5 * (κ 12) + 4 * (κ 13) + 3 * (κ 14) + 1 * (κ 15)) + 1; omega) (by show 0 ≤ 2 * ((5 * (κ 6) + 5 * (κ 7) + 4 * (κ 8) + 4 * (κ 9) + 4 * (κ 10) + 4 * (κ 11) + 5 * (κ 12) + 4 * (κ 13) + 3 * (κ 14) + 1 * (κ 15)) - (5 * (κ 6) + 5 * (κ 7) + 4 * (κ 8) + 4 * (κ 9) + 4 * (κ 10) + 4 * (κ 11) + 5 * (κ 12) + 4 * (κ 13) + 3 * (κ 14) + 1 * (κ 15))) + 6; omega))
            · refine W.up (k := 0) (n := 0) (by show 0 ≤ _; omega) (by show 0 ≤ _; omega) ?_
              exact J91 ls _ _ x1 x2 hI hS (lv_sub hl [0, 1, 2] rfl)
        · refine lv_aload_n hx hb dTypeBook_value_66 rfl (lv_at hl 0 rfl) ?_
          refine of_get S hC (of_0_4 hI) in_TypeBook rfl (by decide) qw_ce6a8385d0 dTypeBook_value_67 ?_
          refine lv_iload_n hx hb dTypeBook_value_70 rfl (lv_at hl 1 rfl) ?_
          refine pu_Vi (rest := []) S hC (k6_Looks_numberOf l γ A κ x1) meLooks_numberOf qw_9f81a39e28 ⟨Nat.le_of_ble_eq_true rfl, Nat.le_of_ble_eq_true rfl⟩ (rv_6 hC hI) hI rfl hl.1 rfl (Nat.le_of_ble_eq_true rfl) dTypeBook_value_71 ⟨(by show _ ≤ 50000; omega), (by show _ ≤ 1000000; omega)⟩ (fun r26 hr26 => ?_)
          rw [hQ]
          refine tx_endI S hret hlk hS (by show 0 ≤ 50000; omega) (by show 0 ≤ 1000000; omega) (fun hG => ?_) dTypeBook_value_74
          exact (pb_of κ hI (show κ 3 = κ 3 ∧ κ 0 = κ 0 ∧ κ 1 = κ 1 from ⟨rfl, rfl, rfl⟩) hG (by show 5 * (κ 6) + 5 * (κ 7) + 4 * (κ 8) + 4 * (κ 9) + 4 * (κ 10) + 4 * (κ 11) + 5 * (κ 12) + 4 * (κ 13) + 3 * (κ 14) + 1 * (κ 15) ≤ 5 * (κ 6) + 5 * (κ 7) + 4 * (κ 8) + 4 * (κ 9) + 4 * (κ 10) + 4 * (κ 11) + 5 * (κ 12) + 4 * (κ 13) + 3 * (κ 14) + 1 * (κ 15); omega) (by show 0 ≤ (5 * (κ 6) + 5 * (κ 7) + 4 * (κ 8) + 4 * (κ 9) + 4 * (κ 10) + 4 * (κ 11) + 5 * (κ 12) + 4 * (κ 13) + 3 * (κ 14) + 1 * (κ 15)) - (5 * (κ 6) + 5 * (κ 7) + 4 * (κ 8) + 4 * (κ 9) + 4 * (κ 10) + 4 * (κ 11) + 5 * (κ 12) + 4 * (κ 13) + 3 * (κ 14) + 1 * (κ 15)) + 1; omega) (by show 0 ≤ 2 * ((5 * (κ 6) + 5 * (κ 7) + 4 * (κ 8) + 4 * (κ 9) + 4 * (κ 10) + 4 * (κ 11) + 5 * (κ 12) + 4 * (κ 13) + 3 * (κ 14) + 1 * (κ 15)) - (5 * (κ 6) + 5 * (κ 7) + 4 * (κ 8) + 4 * (κ 9) + 4 * (κ 10) + 4 * (κ 11) + 5 * (κ 12) + 4 * (κ 13) + 3 * (κ 14) + 1 * (κ 15))) + 6; omega))
      · refine W.up (k := 0) (n := 0) (by show 0 ≤ _; omega) (by show 0 ≤ _; omega) ?_
        exact J44 ls _ _ x1 x2 hI hS (lv_sub hl [0, 1, 2] rfl)
  · obtain ⟨sa11, hsa11⟩ := hw0.2.2.2.1 R_TypeBook 117 "no such node" (in_tables_1_3 (List.mem_of_getElem? (i := 32) rfl))
    rw [hQ]
    refine tx_throw (s0 := s0) (names := ["java/lang/RuntimeException", "java/lang/Exception"]) (text := "no such node") (sa := sa11) S hst hX hlk (by decide +kernel) (by decide +kernel) qw_ae3ba0ca69 qw_d4b771d349 (hF0.step hA0 hS.1 hS.2.1) hsa11 (ta_IOB hW hw0) hl.1 dTypeBook_value_11 dTypeBook_value_14 dTypeBook_value_15 dTypeBook_value_17 dTypeBook_value_20 (Nat.lt_of_lt_of_le (by decide) (Nat.le_of_ble_eq_true rfl : 6 ≤ _)) (Nat.le_of_ble_eq_true rfl) (by show 0 + 1 ≤ 50000; omega) (by show 0 + 6 ≤ 1000000; omega) (fun H1 hG hz ho => ?_) hS.2.2 (by show 0 + 1 ≤ 50000; omega) (by show 0 + 6 ≤ 1000000; omega)
    exact ⟨by decide, (pb_of κ (inv_more hI ho) (show κ 3 = κ 3 ∧ κ 0 = κ 0 ∧ κ 1 = κ 1 from ⟨rfl, rfl, rfl⟩) hG (by show 5 * (κ 6) + 5 * (κ 7) + 4 * (κ 8) + 4 * (κ 9) + 4 * (κ 10) + 4 * (κ 11) + 5 * (κ 12) + 4 * (κ 13) + 3 * (κ 14) + 1 * (κ 15) ≤ 5 * (κ 6) + 5 * (κ 7) + 4 * (κ 8) + 4 * (κ 9) + 4 * (κ 10) + 4 * (κ 11) + 5 * (κ 12) + 4 * (κ 13) + 3 * (κ 14) + 1 * (κ 15); omega) (by show 0 + 1 ≤ (5 * (κ 6) + 5 * (κ 7) + 4 * (κ 8) + 4 * (κ 9) + 4 * (κ 10) + 4 * (κ 11) + 5 * (κ 12) + 4 * (κ 13) + 3 * (κ 14) + 1 * (κ 15)) - (5 * (κ 6) + 5 * (κ 7) + 4 * (κ 8) + 4 * (κ 9) + 4 * (κ 10) + 4 * (κ 11) + 5 * (κ 12) + 4 * (κ 13) + 3 * (κ 14) + 1 * (κ 15)) + 1; omega) (by show 0 + 6 ≤ 2 * ((5 * (κ 6) + 5 * (κ 7) + 4 * (κ 8) + 4 * (κ 9) + 4 * (κ 10) + 4 * (κ 11) + 5 * (κ 12) + 4 * (κ 13) + 3 * (κ 14) + 1 * (κ 15)) - (5 * (κ 6) + 5 * (κ 7) + 4 * (κ 8) + 4 * (κ 9) + 4 * (κ 10) + 4 * (κ 11) + 5 * (κ 12) + 4 * (κ 13) + 3 * (κ 14) + 1 * (κ 15))) + 6; omega)), fr_more hS hz ho⟩
