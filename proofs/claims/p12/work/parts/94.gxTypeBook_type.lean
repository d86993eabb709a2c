theorem qw_03b670d8a8 : (Cond.methodLink R_TypeBook 130 yLooker_typeFault) ∈ bs_W0 := bs_in (in_tables_1_4 (List.mem_of_getElem? (i := 201) rfl)) rfl
theorem qn_cc358838e1 : (Cond.fieldLinkNest R_TypeBook 137 R_Types "size" "I" "TypeBook") ∈ lw_tbl := in_tables_1_1 (List.mem_of_getElem? (i := 146) rfl)
theorem qw_b73ec2bf69 : (Cond.methodLink R_TypeBook 147 yLooker_namedType) ∈ bs_W0 := bs_in (in_tables_1_5 (List.mem_of_getElem? (i := 5) rfl)) rfl
theorem qw_2a88b5adf9 : (Cond.methodLink R_TypeBook 144 yLooker_newType) ∈ bs_W0 := bs_in (in_tables_1_5 (List.mem_of_getElem? (i := 0) rfl)) rfl
set_option maxHeartbeats 4000000 in
set_option maxRecDepth 100000 in
theorem x_type (l : Launch) (hst : l.stackTraces = false) (γ : gE) (A : Nat → Prop) (κ : Nat → Nat) (s0 : State) (hw0 : SW s0) (hA0 : ∀ q, A q → s0.heap.size ≤ q) (H0 : Heap) (x1 : Int32) : XM l yTypeBook_type bTypeBook_type 4 (some .int) 7 174 50000 1000000 [.ref (γ.2.2.2 0), .int x1] γ A (fun U => FB s0 U U.heap ∧ U.heap = H0 ∧ INV γ A κ U.heap) (mQi (fun r H => PB γ A κ H0 (fun κ' => κ' 3 = κ 3 ∧ κ' 0 = κ 0 ∧ κ' 1 = κ 1) H) A) (fun E H => E ∈ ["java/lang/IndexOutOfBoundsException", "java/lang/IllegalStateException"] ∧ PB γ A κ H0 (fun κ' => κ' 3 = κ 3 ∧ κ' 0 = κ 0 ∧ κ' 1 = κ 1) H ∧ fr_A A H0 H) := by
  refine tx_openI (by decide) (Nat.le_of_ble_eq_true rfl) ?_
  intro p e s m args below meth c ls Q S hret hlk hX hC hA hP hQ hl
  obtain ⟨hF0, hH0, hI⟩ := hP
  subst hH0
  obtain ⟨hx, hb, hml, hown, hW⟩ := id S
  have hS : va_S A s.heap s.heap [] := va_S.rf
  have hl : lv_has ls 4 [(0, .ref (γ.2.2.2 0)), (1, .int x1)] := hl
  obtain ⟨hlen, hsz⟩ := inv_len hI
  have J116 : ∀ (ls : Array Slot) (H : Heap) (locs : List Loc) (i1 : Int32) (i2 : Int32) (i3 : Int32), INV γ A κ H → va_S A s.heap H locs → (i1.toInt < 2147483647 ∧ (i1 - 1).toInt < 2147483647) → (i3 = 0 ∨ κ 4 < 1000) → lv_has ls 4 [(0, .ref (γ.2.2.2 0)), (1, .int i1), (2, .int i2), (3, .int i3)] → W p l e (bs_rm 7 50000 1000000 174) s m args below meth c H locs 0 0 Q (F0 m 116 ls []) := by
    intro ls H locs i1 i2 i3 hI hS ⟨hnode, hnode2⟩ hq4 hl
    refine lv_aload_n hx hb dTypeBook_type_116 rfl (lv_at hl 0 rfl) ?_
    refine of_get S hC (of_0_5 hI) in_TypeBook rfl (by decide) qw_130a6323a2 dTypeBook_type_117 ?_
    refine lv_aload_n hx hb dTypeBook_type_120 rfl (lv_at hl 0 rfl) ?_
    refine of_get S hC (of_0_4 hI) in_TypeBook rfl (by decide) qw_ce6a8385d0 dTypeBook_type_121 ?_
    refine lv_iload_n hx hb dTypeBook_type_124 rfl (lv_at hl 1 rfl) ?_
    refine lv_iload_n hx hb dTypeBook_type_125 rfl (lv_at hl 1 rfl) ?_
    refine lv_iconst (v := 1) hx hb dTypeBook_type_126 (by decide) ?_
    refine lv_isub hx hb dTypeBook_type_127 ?_
    refine lv_topi (fun v21 ev21 => ?_)
    refine mu_Vv (rest := []) S hC (fun q h => hA q (Nat.le_trans hS.1 h)) (fun q h => h) hS (k_Looker_tell l γ A κ i1 v21 (by rw [ev21]; exact hnode2)) meLooker_tell qw_e2e3c61940 ⟨Nat.le_of_ble_eq_true rfl, Nat.le_of_ble_eq_true rfl⟩ (rv_8 hC hI) hI rfl hl.1 rfl (Nat.le_of_ble_eq_true rfl) dTypeBook_type_128 ⟨(by show 0 + 0 ≤ 50000; omega), (by show 0 + 0 ≤ 1000000; omega)⟩ (fun H locs hI hS _ _ => ?_)
    refine lv_aload_n hx hb dTypeBook_type_131 rfl (lv_at hl 0 rfl) ?_
    refine lv_iconst (v := (-1)) hx hb dTypeBook_type_132 (by decide) ?_
    refine iv_fault S hC hI (fun q h => hA q (Nat.le_trans hS.1 h)) hS qw_464f80981e dTypeBook_type_133 (fun H locs hI hS => ?_)
    refine lv_iload_n hx hb dTypeBook_type_136 rfl (lv_at hl 3 rfl) ?_
    refine lv_if_eq (tgt := 151) hx hb dTypeBook_type_137 (by decide) (fun c23 => ?_) (fun c23 => ?_)
    · refine lv_aload_n hx hb dTypeBook_type_151 rfl (lv_at hl 0 rfl) ?_
      refine of_get S hC (of_0_5 hI) in_TypeBook rfl (by decide) qw_130a6323a2 dTypeBook_type_152 ?_
      refine lv_iload_n hx hb dTypeBook_type_155 rfl (lv_at hl 1 rfl) ?_
      refine pu_Vi (rest := []) S hC (k_Looker_namedType l γ A κ i1) meLooker_namedType qw_b73ec2bf69 ⟨Nat.le_of_ble_eq_true rfl, Nat.le_of_ble_eq_true rfl⟩ (rv_8 hC hI) hI rfl hl.1 rfl (Nat.le_of_ble_eq_true rfl) dTypeBook_type_156 ⟨(by show _ ≤ 50000; omega), (by show _ ≤ 1000000; omega)⟩ (fun r24 hr24 => ?_)
      rw [hQ]
      refine tx_endI S hret hlk hS (by show 0 ≤ 50000; omega) (by show 0 ≤ 1000000; omega) (fun hG => ?_) dTypeBook_type_159
      exact (pb_of κ hI (show κ 3 = κ 3 ∧ κ 0 = κ 0 ∧ κ 1 = κ 1 from ⟨rfl, rfl, rfl⟩) hG (by show 5 * (κ 6) + 5 * (κ 7) + 4 * (κ 8) + 4 * (κ 9) + 4 * (κ 10) + 4 * (κ 11) + 5 * (κ 12) + 4 * (κ 13) + 3 * (κ 14) + 1 * (κ 15) ≤ 5 * (κ 6) + 5 * (κ 7) + 4 * (κ 8) + 4 * (κ 9) + 4 * (κ 10) + 4 * (κ 11) + 5 * (κ 12) + 4 * (κ 13) + 3 * (κ 14) + 1 * (κ 15); omega) (by show 0 ≤ (5 * (κ 6) + 5 * (κ 7) + 4 * (κ 8) + 4 * (κ 9) + 4 * (κ 10) + 4 * (κ 11) + 5 * (κ 12) + 4 * (κ 13) + 3 * (κ 14) + 1 * (κ 15)) - (5 * (κ 6) + 5 * (κ 7) + 4 * (κ 8) + 4 * (κ 9) + 4 * (κ 10) + 4 * (κ 11) + 5 * (κ 12) + 4 * (κ 13) + 3 * (κ 14) + 1 * (κ 15)) + 1; omega) (by show 0 ≤ 2 * ((5 * (κ 6) + 5 * (κ 7) + 4 * (κ 8) + 4 * (κ 9) + 4 * (κ 10) + 4 * (κ 11) + 5 * (κ 12) + 4 * (κ 13) + 3 * (κ 14) + 1 * (κ 15)) - (5 * (κ 6) + 5 * (κ 7) + 4 * (κ 8) + 4 * (κ 9) + 4 * (κ 10) + 4 * (κ 11) + 5 * (κ 12) + 4 * (κ 13) + 3 * (κ 14) + 1 * (κ 15))) + 6; omega))
    · have hN : κ 4 < 1000 := hq4.resolve_left (by assumption)
      have hwc13 := wcm (n := κ 13) (N := κ 4 + 1) (by omega) (by omega)
      refine lv_aload_n hx hb dTypeBook_type_140 rfl (lv_at hl 0 rfl) ?_
      refine of_get S hC (of_0_5 hI) in_TypeBook rfl (by decide) qw_130a6323a2 dTypeBook_type_141 ?_
      refine lv_iload_n hx hb dTypeBook_type_144 rfl (lv_at hl 1 rfl) ?_
      refine mu_Vi (rest := []) S hC (fun q h => hA q (Nat.le_trans hS.1 h)) (fun q h => h) hS (k_Looker_newType l γ A κ i1 (by show κ 4 ≤ 4000; omega)) meLooker_newType qw_2a88b5adf9 ⟨Nat.le_of_ble_eq_true rfl, Nat.le_of_ble_eq_true rfl⟩ (rv_8 hC hI) hI rfl hl.1 rfl (Nat.le_of_ble_eq_true rfl) dTypeBook_type_145 ⟨(by show 0 + (0 + (0 + wc (κ 13) (κ 4 + 1) + wc (κ 13) (κ 4 + 1) + wc (κ 13) (κ 4 + 1) + wc (κ 13) (κ 4 + 1))) ≤ 50000; omega), (by show 0 + (0 + (0 + wm (κ 13) (κ 4 + 1) + wm (κ 13) (κ 4 + 1) + wm (κ 13) (κ 4 + 1) + wm (κ 13) (κ 4 + 1))) ≤ 1000000; omega)⟩ (fun r25 H locs ⟨hr25, hI⟩ hS _ _ => ?_)
      refine W.cs (cells' := 0 + (0 + (0 + wc (κ 13) (κ 4 + 1) + wc (κ 13) (κ 4 + 1) + wc (κ 13) (κ 4 + 1) + wc (κ 13) (κ 4 + 1)))) (slots' := 0 + (0 + (0 + wm (κ 13) (κ 4 + 1) + wm (κ 13) (κ 4 + 1) + wm (κ 13) (κ 4 + 1) + wm (κ 13) (κ 4 + 1)))) rfl rfl ?_
      have hI : INV γ A (ku (ku κ 4 (κ 4 + 1)) 13 (wl (κ 13) (κ 4 + 1))) _ := hI
      have er25 : r25 = nI (κ 4) := hr25
      refine lv_goto (tgt := 159) hx hb dTypeBook_type_148 (by decide) ?_
      rw [hQ]
      refine tx_endI S hret hlk hS (by show 0 + (0 + (0 + wc (κ 13) (κ 4 + 1) + wc (κ 13) (κ 4 + 1) + wc (κ 13) (κ 4 + 1) + wc (κ 13) (κ 4 + 1))) ≤ 50000; omega) (by show 0 + (0 + (0 + wm (κ 13) (κ 4 + 1) + wm (κ 13) (κ 4 + 1) + wm (κ 13) (κ 4 + 1) + wm (κ 13) (κ 4 + 1))) ≤ 1000000; omega) (fun hG => ?_) dTypeBook_type_159
      exact (pb_of (ku (ku κ 4 (κ 4 + 1)) 13 (wl (κ 13) (κ 4 + 1))) hI (show κ 3 = κ 3 ∧ κ 0 = κ 0 ∧ κ 1 = κ 1 from ⟨rfl, rfl, rfl⟩) hG (by show 5 * (κ 6) + 5 * (κ 7) + 4 * (κ 8) + 4 * (κ 9) + 4 * (κ 10) + 4 * (κ 11) + 5 * (κ 12) + 4 * (κ 13) + 3 * (κ 14) + 1 * (κ 15) ≤ 5 * (κ 6) + 5 * (κ 7) + 4 * (κ 8) + 4 * (κ 9) + 4 * (κ 10) + 4 * (κ 11) + 5 * (κ 12) + 4 * (wl (κ 13) (κ 4 + 1)) + 3 * (κ 14) + 1 * (κ 15); omega) (by show 0 + (0 + (0 + wc (κ 13) (κ 4 + 1) + wc (κ 13) (κ 4 + 1) + wc (κ 13) (κ 4 + 1) + wc (κ 13) (κ 4 + 1))) ≤ (5 * (κ 6) + 5 * (κ 7) + 4 * (κ 8) + 4 * (κ 9) + 4 * (κ 10) + 4 * (κ 11) + 5 * (κ 12) + 4 * (wl (κ 13) (κ 4 + 1)) + 3 * (κ 14) + 1 * (κ 15)) - (5 * (κ 6) + 5 * (κ 7) + 4 * (κ 8) + 4 * (κ 9) + 4 * (κ 10) + 4 * (κ 11) + 5 * (κ 12) + 4 * (κ 13) + 3 * (κ 14) + 1 * (κ 15)) + 1; omega) (by show 0 + (0 + (0 + wm (κ 13) (κ 4 + 1) + wm (κ 13) (κ 4 + 1) + wm (κ 13) (κ 4 + 1) + wm (κ 13) (κ 4 + 1))) ≤ 2 * ((5 * (κ 6) + 5 * (κ 7) + 4 * (κ 8) + 4 * (κ 9) + 4 * (κ 10) + 4 * (κ 11) + 5 * (κ 12) + 4 * (wl (κ 13) (κ 4 + 1)) + 3 * (κ 14) + 1 * (κ 15)) - (5 * (κ 6) + 5 * (κ 7) + 4 * (κ 8) + 4 * (κ 9) + 4 * (κ 10) + 4 * (κ 11) + 5 * (κ 12) + 4 * (κ 13) + 3 * (κ 14) + 1 * (κ 15))) + 6; omega))
  have J88 : ∀ (ls : Array Slot) (H : Heap) (locs : List Loc) (i1 : Int32) (i2 : Int32) (t0 : Int32), INV γ A κ H → va_S A s.heap H locs → (i1.toInt < 2147483647 ∧ (i1 - 1).toInt < 2147483647) → lv_has ls 4 [(0, .ref (γ.2.2.2 0)), (1, .int i1), (2, .int i2)] → W p l e (bs_rm 7 50000 1000000 174) s m args below meth c H locs 0 0 Q (F0 m 88 ls [.int t0]) := by
    intro ls H locs i1 i2 t0 hI hS ⟨hnode, hnode2⟩ hl
    refine lv_istore_n (lv' := [(3, .int t0), (0, .ref (γ.2.2.2 0)), (1, .int i1), (2, .int i2)]) hx hb dTypeBook_type_88 rfl hl (by decide) rfl (fun ls hl => ?_)
    refine lv_iload_n hx hb dTypeBook_type_89 rfl (lv_at hl 0 rfl) ?_
    refine lv_if_eq (tgt := 116) hx hb dTypeBook_type_90 (by decide) (fun c26 => ?_) (fun c26 => ?_)
    · refine W.up (k := 0) (n := 0) (by show 0 ≤ _; omega) (by show 0 ≤ _; omega) ?_
      exact J116 ls _ _ i1 i2 t0 hI hS (by first | exact ⟨hnode, hnode2⟩ | exact node_ok (x := i1) (by assumption) (by assumption) (by omega)) (by first | exact Or.inl (by assumption) | exact Or.inr (lt_ok (N := κ 4) (M := 1000) (by assumption) rfl (by assumption) (by omega) (by omega))) (lv_sub hl [1, 2, 3, 0] rfl)
    · refine lv_aload_n hx hb dTypeBook_type_93 rfl (lv_at hl 1 rfl) ?_
      refine of_get S hC (of_0_2 hI) in_TypeBook rfl (by decide) qw_393f431be6 dTypeBook_type_94 ?_
      refine of_getN S hC (of_3_4 hI) in_Types rfl (by decide) qn_cc358838e1 dTypeBook_type_97 ?_
      refine lv_topi (fun v27 ev27 => ?_)
      have ev27 : v27 = nI (κ 4) := ev27
      refine lv_sipush (v := 1000) hx hb dTypeBook_type_100 (by decide) ?_
      refine lv_icmp_lt (tgt := 116) hx hb dTypeBook_type_103 (by decide) (fun c28 => ?_) (fun c28 => ?_)
      · refine W.up (k := 0) (n := 0) (by show 0 ≤ _; omega) (by show 0 ≤ _; omega) ?_
        exact J116 ls _ _ i1 i2 t0 hI hS (by first | exact ⟨hnode, hnode2⟩ | exact node_ok (x := i1) (by assumption) (by assumption) (by omega)) (by first | exact Or.inl (by assumption) | exact Or.inr (lt_ok (N := κ 4) (M := 1000) (by assumption) rfl (by assumption) (by omega) (by omega))) (lv_sub hl [1, 2, 3, 0] rfl)
      · obtain ⟨sa106, hsa106⟩ := hw0.2.2.2.1 R_TypeBook 138 "no room for a type" (in_tables_1_4 (List.mem_of_getElem? (i := 222) rfl))
        rw [hQ]
        refine tx_throw (s0 := s0) (names := ["java/lang/RuntimeException", "java/lang/Exception"]) (text := "no room for a type") (sa := sa106) S hst hX hlk (by decide +kernel) (by decide +kernel) qw_8038d8d33c qw_f529d83890 (hF0.step hA0 hS.1 hS.2.1) hsa106 (ta_ISE hW hw0) hl.1 dTypeBook_type_106 dTypeBook_type_109 dTypeBook_type_110 dTypeBook_type_112 dTypeBook_type_115 (Nat.lt_of_lt_of_le (by decide) (Nat.le_of_ble_eq_true rfl : 6 ≤ _)) (Nat.le_of_ble_eq_true rfl) (by show 0 + 1 ≤ 50000; omega) (by show 0 + 6 ≤ 1000000; omega) (fun H1 hG hz ho => ?_) hS.2.2 (by show 0 + 1 ≤ 50000; omega) (by show 0 + 6 ≤ 1000000; omega)
        exact ⟨by decide, (pb_of κ (inv_more hI ho) (show κ 3 = κ 3 ∧ κ 0 = κ 0 ∧ κ 1 = κ 1 from ⟨rfl, rfl, rfl⟩) hG (by show 5 * (κ 6) + 5 * (κ 7) + 4 * (κ 8) + 4 * (κ 9) + 4 * (κ 10) + 4 * (κ 11) + 5 * (κ 12) + 4 * (κ 13) + 3 * (κ 14) + 1 * (κ 15) ≤ 5 * (κ 6) + 5 * (κ 7) + 4 * (κ 8) + 4 * (κ 9) + 4 * (κ 10) + 4 * (κ 11) + 5 * (κ 12) + 4 * (κ 13) + 3 * (κ 14) + 1 * (κ 15); omega) (by show 0 + 1 ≤ (5 * (κ 6) + 5 * (κ 7) + 4 * (κ 8) + 4 * (κ 9) + 4 * (κ 10) + 4 * (κ 11) + 5 * (κ 12) + 4 * (κ 13) + 3 * (κ 14) + 1 * (κ 15)) - (5 * (κ 6) + 5 * (κ 7) + 4 * (κ 8) + 4 * (κ 9) + 4 * (κ 10) + 4 * (κ 11) + 5 * (κ 12) + 4 * (κ 13) + 3 * (κ 14) + 1 * (κ 15)) + 1; omega) (by show 0 + 6 ≤ 2 * ((5 * (κ 6) + 5 * (κ 7) + 4 * (κ 8) + 4 * (κ 9) + 4 * (κ 10) + 4 * (κ 11) + 5 * (κ 12) + 4 * (κ 13) + 3 * (κ 14) + 1 * (κ 15)) - (5 * (κ 6) + 5 * (κ 7) + 4 * (κ 8) + 4 * (κ 9) + 4 * (κ 10) + 4 * (κ 11) + 5 * (κ 12) + 4 * (κ 13) + 3 * (κ 14) + 1 * (κ 15))) + 6; omega)), fr_more hS hz ho⟩
  refine lv_aload_n hx hb dTypeBook_type_0 rfl (lv_at hl 0 rfl) ?_
  refine of_get S hC (of_0_0 hI) in_TypeBook rfl (by decide) qw_6151ee7924 dTypeBook_type_1 ?_
  refine lv_iload_n hx hb dTypeBook_type_4 rfl (lv_at hl 1 rfl) ?_
  refine pu_Vi (rest := []) S hC (k1_Trees_has l γ A κ x1) meTrees_has qw_90a02633e0 ⟨Nat.le_of_ble_eq_true rfl, Nat.le_of_ble_eq_true rfl⟩ (rv_1 hC hI) hI rfl hl.1 rfl (Nat.le_of_ble_eq_true rfl) dTypeBook_type_5 ⟨(by show _ ≤ 50000; omega), (by show _ ≤ 1000000; omega)⟩ (fun r29 hr29 => ?_)
  refine lv_if_ne (tgt := 21) hx hb dTypeBook_type_8 (by decide) (fun c30 => ?_) (fun c30 => ?_)
  · obtain ⟨hnode, hnode2⟩ := node_ok (x := x1) (by assumption) (by assumption) (by omega)
    refine lv_aload_n hx hb dTypeBook_type_21 rfl (lv_at hl 0 rfl) ?_
    refine of_get S hC (of_0_5 hI) in_TypeBook rfl (by decide) qw_130a6323a2 dTypeBook_type_22 ?_
    refine lv_iload_n hx hb dTypeBook_type_25 rfl (lv_at hl 1 rfl) ?_
    refine lv_iload_n hx hb dTypeBook_type_26 rfl (lv_at hl 1 rfl) ?_
    refine lv_iconst (v := 1) hx hb dTypeBook_type_27 (by decide) ?_
    refine lv_isub hx hb dTypeBook_type_28 ?_
    refine lv_topi (fun v31 ev31 => ?_)
    refine mu_Vi (rest := []) S hC (fun q h => hA q (Nat.le_trans hS.1 h)) (fun q h => h) hS (k_Looker_look l γ A κ x1 v31 (by rw [ev31]; exact hnode2)) meLooker_look qw_d8c2c64b31 ⟨Nat.le_of_ble_eq_true rfl, Nat.le_of_ble_eq_true rfl⟩ (rv_8 hC hI) hI rfl hl.1 rfl (Nat.le_of_ble_eq_true rfl) dTypeBook_type_29 ⟨(by show 0 + 0 ≤ 50000; omega), (by show 0 + 0 ≤ 1000000; omega)⟩ (fun r32 H locs ⟨hr32, hI⟩ hS _ _ => ?_)
    refine lv_istore_n (lv' := [(2, .int r32), (0, .ref (γ.2.2.2 0)), (1, .int x1)]) hx hb dTypeBook_type_32 rfl hl (by decide) rfl (fun ls hl => ?_)
    refine lv_iload_n hx hb dTypeBook_type_33 rfl (lv_at hl 0 rfl) ?_
    refine lv_if_eq (tgt := 50) hx hb dTypeBook_type_34 (by decide) (fun c33 => ?_) (fun c33 => ?_)
    · refine lv_aload_n hx hb dTypeBook_type_50 rfl (lv_at hl 1 rfl) ?_
      refine of_get S hC (of_0_5 hI) in_TypeBook rfl (by decide) qw_130a6323a2 dTypeBook_type_51 ?_
      refine lv_iload_n hx hb dTypeBook_type_54 rfl (lv_at hl 2 rfl) ?_
      refine pu_Vi (rest := []) S hC (k_Looker_typeFault l γ A κ x1) meLooker_typeFault qw_03b670d8a8 ⟨Nat.le_of_ble_eq_true rfl, Nat.le_of_ble_eq_true rfl⟩ (rv_8 hC hI) hI rfl hl.1 rfl (Nat.le_of_ble_eq_true rfl) dTypeBook_type_55 ⟨(by show _ ≤ 50000; omega), (by show _ ≤ 1000000; omega)⟩ (fun r34 hr34 => ?_)
      refine lv_istore_n (lv' := [(2, .int r34), (0, .ref (γ.2.2.2 0)), (1, .int x1)]) hx hb dTypeBook_type_58 rfl hl (by decide) rfl (fun ls hl => ?_)
      refine lv_iload_n hx hb dTypeBook_type_59 rfl (lv_at hl 0 rfl) ?_
      refine lv_if_eq (tgt := 70) hx hb dTypeBook_type_60 (by decide) (fun c35 => ?_) (fun c35 => ?_)
      · refine lv_aload_n hx hb dTypeBook_type_70 rfl (lv_at hl 1 rfl) ?_
        refine of_get S hC (of_0_0 hI) in_TypeBook rfl (by decide) qw_6151ee7924 dTypeBook_type_71 ?_
        refine lv_iload_n hx hb dTypeBook_type_74 rfl (lv_at hl 2 rfl) ?_
        refine pu_Vi (rest := []) S hC (k1_Trees_kindOf l γ A κ x1) meTrees_kindOf qw_920bbe1ee1 ⟨Nat.le_of_ble_eq_true rfl, Nat.le_of_ble_eq_true rfl⟩ (rv_1 hC hI) hI rfl hl.1 rfl (Nat.le_of_ble_eq_true rfl) dTypeBook_type_75 ⟨(by show _ ≤ 50000; omega), (by show _ ≤ 1000000; omega)⟩ (fun r36 hr36 => ?_)
        refine lv_bipush (v := 10) hx hb dTypeBook_type_78 (by decide) ?_
        refine lv_icmp_eq (tgt := 87) hx hb dTypeBook_type_80 (by decide) (fun c37 => ?_) (fun c37 => ?_)
        · refine lv_iconst (v := 0) hx hb dTypeBook_type_87 (by decide) ?_
          refine W.up (k := 0) (n := 0) (by show 0 ≤ _; omega) (by show 0 ≤ _; omega) ?_
          exact J88 ls _ _ x1 r34 0 hI hS (by first | exact ⟨hnode, hnode2⟩ | exact node_ok (x := x1) (by assumption) (by assumption) (by omega)) (lv_sub hl [1, 2, 0] rfl)
        · refine lv_iconst (v := 1) hx hb dTypeBook_type_83 (by decide) ?_
          refine lv_goto (tgt := 88) hx hb dTypeBook_type_84 (by decide) ?_
          refine W.up (k := 0) (n := 0) (by show 0 ≤ _; omega) (by show 0 ≤ _; omega) ?_
          exact J88 ls _ _ x1 r34 1 hI hS (by first | exact ⟨hnode, hnode2⟩ | exact node_ok (x := x1) (by assumption) (by assumption) (by omega)) (lv_sub hl [1, 2, 0] rfl)
      · refine lv_aload_n hx hb dTypeBook_type_63 rfl (lv_at hl 1 rfl) ?_
        refine lv_iload_n hx hb dTypeBook_type_64 rfl (lv_at hl 0 rfl) ?_
        refine lv_iload_n hx hb dTypeBook_type_65 rfl (lv_at hl 2 rfl) ?_
        refine mu_Vi (rest := []) S hC (fun q h => hA q (Nat.le_trans hS.1 h)) (fun q h => h) hS (k_TypeBook_refused l γ A κ r34 x1) meTypeBook_refused qw_fa3e8c2955 ⟨Nat.le_of_ble_eq_true rfl, Nat.le_of_ble_eq_true rfl⟩ (rv_0 hC hI) hI rfl hl.1 rfl (Nat.le_of_ble_eq_true rfl) dTypeBook_type_66 ⟨(by show 0 + 0 ≤ 50000; omega), (by show 0 + 0 ≤ 1000000; omega)⟩ (fun r38 H locs ⟨hr38, hI⟩ hS _ _ => ?_)
        rw [hQ]
        refine tx_endI S hret hlk hS (by show 0 ≤ 50000; omega) (by show 0 ≤ 1000000; omega) (fun hG => ?_) dTypeBook_type_69
        exact (pb_of κ hI (show κ 3 = κ 3 ∧ κ 0 = κ 0 ∧ κ 1 = κ 1 from ⟨rfl, rfl, rfl⟩) hG (by show 5 * (κ 6) + 5 * (κ 7) + 4 * (κ 8) + 4 * (κ 9) + 4 * (κ 10) + 4 * (κ 11) + 5 * (κ 12) + 4 * (κ 13) + 3 * (κ 14) + 1 * (κ 15) ≤ 5 * (κ 6) + 5 * (κ 7) + 4 * (κ 8) + 4 * (κ 9) + 4 * (κ 10) + 4 * (κ 11) + 5 * (κ 12) + 4 * (κ 13) + 3 * (κ 14) + 1 * (κ 15); omega) (by show 0 ≤ (5 * (κ 6) + 5 * (κ 7) + 4 * (κ 8) + 4 * (κ 9) + 4 * (κ 10) + 4 * (κ 11) + 5 * (κ 12) + 4 * (κ 13) + 3 * (κ 14) + 1 * (κ 15)) - (5 * (κ 6) + 5 * (κ 7) + 4 * (κ 8) + 4 * (κ 9) + 4 * (κ 10) + 4 * (κ 11) + 5 * (κ 12) + 4 * (κ 13) + 3 * (κ 14) + 1 * (κ 15)) + 1; omega) (by show 0 ≤ 2 * ((5 * (κ 6) + 5 * (κ 7) + 4 * (κ 8) + 4 * (κ 9) + 4 * (κ 10) + 4 * (κ 11) + 5 * (κ 12) + 4 * (κ 13) + 3 * (κ 14) + 1 * (κ 15)) - (5 * (κ 6) + 5 * (κ 7) + 4 * (κ 8) + 4 * (κ 9) + 4 * (κ 10) + 4 * (κ 11) + 5 * (κ 12) + 4 * (κ 13) + 3 * (κ 14) + 1 * (κ 15))) + 6; omega))
    · refine lv_aload_n hx hb dTypeBook_type_37 rfl (lv_at hl 1 rfl) ?_
      refine lv_iload_n hx hb dTypeBook_type_38 rfl (lv_at hl 0 rfl) ?_
      refine lv_aload_n hx hb dTypeBook_type_39 rfl (lv_at hl 1 rfl) ?_
      refine of_get S hC (of_0_5 hI) in_TypeBook rfl (by decide) qw_130a6323a2 dTypeBook_type_40 ?_
      obtain ⟨v39, hOv39⟩ := of_8_7 hI
      refine of_getN S hC hOv39 in_Looker rfl (by decide) qn_b283086a15 dTypeBook_type_43 ?_
      refine mu_Vi (rest := []) S hC (fun q h => hA q (Nat.le_trans hS.1 h)) (fun q h => h) hS (k_TypeBook_refused l γ A κ r32 v39) meTypeBook_refused qw_fa3e8c2955 ⟨Nat.le_of_ble_eq_true rfl, Nat.le_of_ble_eq_true rfl⟩ (rv_0 hC hI) hI rfl hl.1 rfl (Nat.le_of_ble_eq_true rfl) dTypeBook_type_46 ⟨(by show 0 + 0 ≤ 50000; omega), (by show 0 + 0 ≤ 1000000; omega)⟩ (fun r40 H locs ⟨hr40, hI⟩ hS _ _ => ?_)
      rw [hQ]
      refine tx_endI S hret hlk hS (by show 0 ≤ 50000; omega) (by show 0 ≤ 1000000; omega) (fun hG => ?_) dTypeBook_type_49
      exact (pb_of κ hI (show κ 3 = κ 3 ∧ κ 0 = κ 0 ∧ κ 1 = κ 1 from ⟨rfl, rfl, rfl⟩) hG (by show 5 * (κ 6) + 5 * (κ 7) + 4 * (κ 8) + 4 * (κ 9) + 4 * (κ 10) + 4 * (κ 11) + 5 * (κ 12) + 4 * (κ 13) + 3 * (κ 14) + 1 * (κ 15) ≤ 5 * (κ 6) + 5 * (κ 7) + 4 * (κ 8) + 4 * (κ 9) + 4 * (κ 10) + 4 * (κ 11) + 5 * (κ 12) + 4 * (κ 13) + 3 * (κ 14) + 1 * (κ 15); omega) (by show 0 ≤ (5 * (κ 6) + 5 * (κ 7) + 4 * (κ 8) + 4 * (κ 9) + 4 * (κ 10) + 4 * (κ 11) + 5 * (κ 12) + 4 * (κ 13) + 3 * (κ 14) + 1 * (κ 15)) - (5 * (κ 6) + 5 * (κ 7) + 4 * (κ 8) + 4 * (κ 9) + 4 * (κ 10) + 4 * (κ 11) + 5 * (κ 12) + 4 * (κ 13) + 3 * (κ 14) + 1 * (κ 15)) + 1; omega) (by show 0 ≤ 2 * ((5 * (κ 6) + 5 * (κ 7) + 4 * (κ 8) + 4 * (κ 9) + 4 * (κ 10) + 4 * (κ 11) + 5 * (κ 12) + 4 * (κ 13) + 3 * (κ 14) + 1 * (κ 15)) - (5 * (κ 6) + 5 * (κ 7) + 4 * (κ 8) + 4 * (κ 9) + 4 * (κ 10) + 4 * (κ 11) + 5 * (κ 12) + 4 * (κ 13) + 3 * (κ 14) + 1 * (κ 15))) + 6; omega))
  · obtain ⟨sa11, hsa11⟩ := hw0.2.2.2.1 R_TypeBook 117 "no such node" (in_tables_1_3 (List.mem_of_getElem? (i := 32) rfl))
    rw [hQ]
    refine tx_throw (s0 := s0) (names := ["java/lang/RuntimeException", "java/lang/Exception"]) (text := "no such node") (sa := sa11) S hst hX hlk (by decide +kernel) (by decide +kernel) qw_ae3ba0ca69 qw_d4b771d349 (hF0.step hA0 hS.1 hS.2.1) hsa11 (ta_IOB hW hw0) hl.1 dTypeBook_type_11 dTypeBook_type_14 dTypeBook_type_15 dTypeBook_type_17 dTypeBook_type_20 (Nat.lt_of_lt_of_le (by decide) (Nat.le_of_ble_eq_true rfl : 6 ≤ _)) (Nat.le_of_ble_eq_true rfl) (by show 0 + 1 ≤ 50000; omega) (by show 0 + 6 ≤ 1000000; omega) (fun H1 hG hz ho => ?_) hS.2.2 (by show 0 + 1 ≤ 50000; omega) (by show 0 + 6 ≤ 1000000; omega)
    exact ⟨by decide, (pb_of κ (inv_more hI ho) (show κ 3 = κ 3 ∧ κ 0 = κ 0 ∧ κ 1 = κ 1 from ⟨rfl, rfl, rfl⟩) hG (by show 5 * (κ 6) + 5 * (κ 7) + 4 * (κ 8) + 4 * (κ 9) + 4 * (κ 10) + 4 * (κ 11) + 5 * (κ 12) + 4 * (κ 13) + 3 * (κ 14) + 1 * (κ 15) ≤ 5 * (κ 6) + 5 * (κ 7) + 4 * (κ 8) + 4 * (κ 9) + 4 * (κ 10) + 4 * (κ 11) + 5 * (κ 12) + 4 * (κ 13) + 3 * (κ 14) + 1 * (κ 15); omega) (by show 0 + 1 ≤ (5 * (κ 6) + 5 * (κ 7) + 4 * (κ 8) + 4 * (κ 9) + 4 * (κ 10) + 4 * (κ 11) + 5 * (κ 12) + 4 * (κ 13) + 3 * (κ 14) + 1 * (κ 15)) - (5 * (κ 6) + 5 * (κ 7) + 4 * (κ 8) + 4 * (κ 9) + 4 * (κ 10) + 4 * (κ 11) + 5 * (κ 12) + 4 * (κ 13) + 3 * (κ 14) + 1 * (κ 15)) + 1; omega) (by show 0 + 6 ≤ 2 * ((5 * (κ 6) + 5 * (κ 7) + 4 * (κ 8) + 4 * (κ 9) + 4 * (κ 10) + 4 * (κ 11) + 5 * (κ 12) + 4 * (κ 13) + 3 * (κ 14) + 1 * (κ 15)) - (5 * (κ 6) + 5 * (κ 7) + 4 * (κ 8) + 4 * (κ 9) + 4 * (κ 10) + 4 * (κ 11) + 5 * (κ 12) + 4 * (κ 13) + 3 * (κ 14) + 1 * (κ 15))) + 6; omega)), fr_more hS hz ho⟩
theorem qw_323c2e74ae : (Cond.methodLink R_TypeBook 109 yNames_close) ∈ bs_W0 := bs_in (in_tables_1_3 (List.mem_of_getElem? (i := 10) rfl)) rfl
set_option maxHeartbeats 4000000 in
set_option maxRecDepth 100000 in
theorem x_leave (l : Launch) (hst : l.stackTraces = false) (γ : gE) (A : Nat → Prop) (κ : Nat → Nat) (s0 : State) (hw0 : SW s0) (hA0 : ∀ q, A q → s0.heap.size ≤ q) (H0 : Heap)  : XM l yTypeBook_leave bTypeBook_leave 1 (some .int) 6 82 50000 1000000 [.ref (γ.2.2.2 0)] γ A (fun U => FB s0 U U.heap ∧ U.heap = H0 ∧ INV γ A κ U.heap) (mQi (fun r H => ∃ s1, κ 3 = s1 + 1 ∧ 1 ≤ s1 ∧ r = nI s1 ∧ PB γ A κ H0 (fun κ' => κ' 3 = s1 ∧ κ' 0 = κ 0 ∧ κ' 1 = κ 1) H) A) (fun E H => E ∈ ["java/lang/IllegalStateException"] ∧ κ 3 = 1 ∧ PB γ A κ H0 (fun κ' => κ' 3 = κ 3 ∧ κ' 0 = κ 0 ∧ κ' 1 = κ 1) H ∧ fr_A A H0 H) := by
  refine tx_openI (by decide) (Nat.le_of_ble_eq_true rfl) ?_
  intro p e s m args below meth c ls Q S hret hlk hX hC hA hP hQ hl
  obtain ⟨hF0, hH0, hI⟩ := hP
  subst hH0
  obtain ⟨hx, hb, hml, hown, hW⟩ := id S
  have hS : va_S A s.heap s.heap [] := va_S.rf
  have hl : lv_has ls 1 [(0, .ref (γ.2.2.2 0))] := hl
  obtain ⟨hlen, hsz⟩ := inv_len hI
  refine lv_aload_n hx hb dTypeBook_leave_0 rfl (lv_at hl 0 rfl) ?_
  refine of_get S hC (of_0_1 hI) in_TypeBook rfl (by decide) qw_a088f6ef48 dTypeBook_leave_1 ?_
  refine of_getN S hC (of_2_8 hI) in_Names rfl (by decide) qn_75616f261a dTypeBook_leave_4 ?_
  refine lv_topi (fun v5 ev5 => ?_)
  have ev5 : v5 = nI (κ 3) := ev5
  refine lv_iconst (v := 1) hx hb dTypeBook_leave_7 (by decide) ?_
  refine lv_icmp_gt (tgt := 21) hx hb dTypeBook_leave_8 (by decide) (fun c6 => ?_) (fun c6 => ?_)
  · have hN : 1 < κ 3 := gt_ok (M := 1) (by assumption) rfl (by assumption) (by omega) (by omega)
    obtain ⟨s1, hs1⟩ : ∃ s1, κ 3 = s1 + 1 := ⟨κ 3 - 1, by omega⟩
    refine lv_aload_n hx hb dTypeBook_leave_21 rfl (lv_at hl 0 rfl) ?_
    refine of_get S hC (of_0_1 hI) in_TypeBook rfl (by decide) qw_a088f6ef48 dTypeBook_leave_22 ?_
    refine mu_Vv (rest := []) S hC (fun q h => hA q (Nat.le_trans hS.1 h)) (fun q h => h) hS (k2_Names_close l γ A κ  s1 hs1 (by omega)) meNames_close qw_323c2e74ae ⟨Nat.le_of_ble_eq_true rfl, Nat.le_of_ble_eq_true rfl⟩ (rv_2 hC hI) hI rfl hl.1 rfl (Nat.le_of_ble_eq_true rfl) dTypeBook_leave_25 ⟨(by show 0 + 0 ≤ 50000; omega), (by show 0 + 0 ≤ 1000000; omega)⟩ (fun H locs ⟨j9, hj9, hI⟩ hS _ _ => ?_)
    have hI : INV γ A (ku (ku κ 3 (s1)) 2 (j9)) _ := hI
    refine lv_aload_n hx hb dTypeBook_leave_28 rfl (lv_at hl 0 rfl) ?_
    refine of_get S hC (of_0_1 hI) in_TypeBook rfl (by decide) qw_a088f6ef48 dTypeBook_leave_29 ?_
    refine of_getN S hC (of_2_8 hI) in_Names rfl (by decide) qn_75616f261a dTypeBook_leave_32 ?_
    refine lv_topi (fun v8 ev8 => ?_)
    have ev8 : v8 = nI (s1) := ev8
    rw [hQ]
    refine tx_endI S hret hlk hS (by show 0 ≤ 50000; omega) (by show 0 ≤ 1000000; omega) (fun hG => ?_) dTypeBook_leave_35
    exact ⟨s1, hs1, by omega, by assumption, (pb_of (ku (ku κ 3 (s1)) 2 (j9)) hI (show s1 = s1 ∧ κ 0 = κ 0 ∧ κ 1 = κ 1 from ⟨rfl, rfl, rfl⟩) hG (by show 5 * (κ 6) + 5 * (κ 7) + 4 * (κ 8) + 4 * (κ 9) + 4 * (κ 10) + 4 * (κ 11) + 5 * (κ 12) + 4 * (κ 13) + 3 * (κ 14) + 1 * (κ 15) ≤ 5 * (κ 6) + 5 * (κ 7) + 4 * (κ 8) + 4 * (κ 9) + 4 * (κ 10) + 4 * (κ 11) + 5 * (κ 12) + 4 * (κ 13) + 3 * (κ 14) + 1 * (κ 15); omega) (by show 0 ≤ (5 * (κ 6) + 5 * (κ 7) + 4 * (κ 8) + 4 * (κ 9) + 4 * (κ 10) + 4 * (κ 11) + 5 * (κ 12) + 4 * (κ 13) + 3 * (κ 14) + 1 * (κ 15)) - (5 * (κ 6) + 5 * (κ 7) + 4 * (κ 8) + 4 * (κ 9) + 4 * (κ 10) + 4 * (κ 11) + 5 * (κ 12) + 4 * (κ 13) + 3 * (κ 14) + 1 * (κ 15)) + 1; omega) (by show 0 ≤ 2 * ((5 * (κ 6) + 5 * (κ 7) + 4 * (κ 8) + 4 * (κ 9) + 4 * (κ 10) + 4 * (κ 11) + 5 * (κ 12) + 4 * (κ 13) + 3 * (κ 14) + 1 * (κ 15)) - (5 * (κ 6) + 5 * (κ 7) + 4 * (κ 8) + 4 * (κ 9) + 4 * (κ 10) + 4 * (κ 11) + 5 * (κ 12) + 4 * (κ 13) + 3 * (κ 14) + 1 * (κ 15))) + 6; omega))⟩
  · obtain ⟨sa11, hsa11⟩ := hw0.2.2.2.1 R_TypeBook 107 "the outermost scope stays" (in_tables_1_3 (List.mem_of_getElem? (i := 9) rfl))
    rw [hQ]
    refine tx_throw (s0 := s0) (names := ["java/lang/RuntimeException", "java/lang/Exception"]) (text := "the outermost scope stays") (sa := sa11) S hst hX hlk (by decide +kernel) (by decide +kernel) qw_8038d8d33c qw_f529d83890 (hF0.step hA0 hS.1 hS.2.1) hsa11 (ta_ISE hW hw0) hl.1 dTypeBook_leave_11 dTypeBook_leave_14 dTypeBook_leave_15 dTypeBook_leave_17 dTypeBook_leave_20 (Nat.lt_of_lt_of_le (by decide) (Nat.le_of_ble_eq_true rfl : 6 ≤ _)) (Nat.le_of_ble_eq_true rfl) (by show 0 + 1 ≤ 50000; omega) (by show 0 + 6 ≤ 1000000; omega) (fun H1 hG hz ho => ?_) hS.2.2 (by show 0 + 1 ≤ 50000; omega) (by show 0 + 6 ≤ 1000000; omega)
    exact ⟨by decide, (by have h9 := ngt_ok (N := κ 3) (M := 1) (by assumption) rfl (by assumption) (by omega) (by omega); omega), (pb_of κ (inv_more hI ho) (show κ 3 = κ 3 ∧ κ 0 = κ 0 ∧ κ 1 = κ 1 from ⟨rfl, rfl, rfl⟩) hG (by show 5 * (κ 6) + 5 * (κ 7) + 4 * (κ 8) + 4 * (κ 9) + 4 * (κ 10) + 4 * (κ 11) + 5 * (κ 12) + 4 * (κ 13) + 3 * (κ 14) + 1 * (κ 15) ≤ 5 * (κ 6) + 5 * (κ 7) + 4 * (κ 8) + 4 * (κ 9) + 4 * (κ 10) + 4 * (κ 11) + 5 * (κ 12) + 4 * (κ 13) + 3 * (κ 14) + 1 * (κ 15); omega) (by show 0 + 1 ≤ (5 * (κ 6) + 5 * (κ 7) + 4 * (κ 8) + 4 * (κ 9) + 4 * (κ 10) + 4 * (κ 11) + 5 * (κ 12) + 4 * (κ 13) + 3 * (κ 14) + 1 * (κ 15)) - (5 * (κ 6) + 5 * (κ 7) + 4 * (κ 8) + 4 * (κ 9) + 4 * (κ 10) + 4 * (κ 11) + 5 * (κ 12) + 4 * (κ 13) + 3 * (κ 14) + 1 * (κ 15)) + 1; omega) (by show 0 + 6 ≤ 2 * ((5 * (κ 6) + 5 * (κ 7) + 4 * (κ 8) + 4 * (κ 9) + 4 * (κ 10) + 4 * (κ 11) + 5 * (κ 12) + 4 * (κ 13) + 3 * (κ 14) + 1 * (κ 15)) - (5 * (κ 6) + 5 * (κ 7) + 4 * (κ 8) + 4 * (κ 9) + 4 * (κ 10) + 4 * (κ 11) + 5 * (κ 12) + 4 * (κ 13) + 3 * (κ 14) + 1 * (κ 15))) + 6; omega)), fr_more hS hz ho⟩
theorem qw_bd2f27f55e : (Cond.methodLink R_TypeBook 159 yNames_haveRoom) ∈ bs_W0 := bs_in (in_tables_1_5 (List.mem_of_getElem? (i := 37) rfl)) rfl
theorem qw_b1d56e075d : (Cond.methodLink R_TypeBook 171 yNames_put) ∈ bs_W0 := bs_in (in_tables_1_5 (List.mem_of_getElem? (i := 43) rfl)) rfl
set_option maxHeartbeats 4000000 in
set_option maxRecDepth 100000 in
theorem x_subtype (l : Launch) (hst : l.stackTraces = false) (γ : gE) (A : Nat → Prop) (κ : Nat → Nat) (s0 : State) (hw0 : SW s0) (hA0 : ∀ q, A q → s0.heap.size ≤ q) (H0 : Heap) (x1 : Int32) (x2 : Int32) : XM l yTypeBook_subtype bTypeBook_subtype 3 (some .int) 6 128 50000 1000000 [.ref (γ.2.2.2 0), .int x1, .int x2] γ A (fun U => FB s0 U U.heap ∧ U.heap = H0 ∧ INV γ A κ U.heap) (mQi (fun r H => PB γ A κ H0 (fun κ' => κ' 3 = κ 3 ∧ κ' 0 = κ 0 ∧ κ' 1 = κ 1) H) A) (fun E H => E ∈ ["java/lang/IndexOutOfBoundsException", "java/lang/IllegalArgumentException", "java/lang/IllegalStateException"] ∧ PB γ A κ H0 (fun κ' => κ' 3 = κ 3 ∧ κ' 0 = κ 0 ∧ κ' 1 = κ 1) H ∧ fr_A A H0 H) := by
  refine tx_openI (by decide) (Nat.le_of_ble_eq_true rfl) ?_
  intro p e s m args below meth c ls Q S hret hlk hX hC hA hP hQ hl
  obtain ⟨hF0, hH0, hI⟩ := hP
  subst hH0
  obtain ⟨hx, hb, hml, hown, hW⟩ := id S
  have hS : va_S A s.heap s.heap [] := va_S.rf
  have hl : lv_has ls 3 [(0, .ref (γ.2.2.2 0)), (1, .int x1), (2, .int x2)] := hl
  obtain ⟨hlen, hsz⟩ := inv_len hI
  refine lv_aload_n hx hb dTypeBook_subtype_0 rfl (lv_at hl 0 rfl) ?_
  refine of_get S hC (of_0_2 hI) in_TypeBook rfl (by decide) qw_393f431be6 dTypeBook_subtype_1 ?_
  refine lv_iload_n hx hb dTypeBook_subtype_4 rfl (lv_at hl 2 rfl) ?_
  refine pu_Vi (rest := []) S hC (k3_Types_has l γ A κ x2) meTypes_has qw_438f5fc1da ⟨Nat.le_of_ble_eq_true rfl, Nat.le_of_ble_eq_true rfl⟩ (rv_3 hC hI) hI rfl hl.1 rfl (Nat.le_of_ble_eq_true rfl) dTypeBook_subtype_5 ⟨(by show _ ≤ 50000; omega), (by show _ ≤ 1000000; omega)⟩ (fun r11 hr11 => ?_)
  refine lv_if_ne (tgt := 21) hx hb dTypeBook_subtype_8 (by decide) (fun c12 => ?_) (fun c12 => ?_)
  · refine lv_iload_n hx hb dTypeBook_subtype_21 rfl (lv_at hl 1 rfl) ?_
    refine pu_Si (rest := []) S hC (s_TypeBook_isName l γ (INV γ A κ) x1) meTypeBook_isName qw_87c028f095 ⟨Nat.le_of_ble_eq_true rfl, Nat.le_of_ble_eq_true rfl⟩ hI rfl hl.1 rfl (Nat.le_of_ble_eq_true rfl) dTypeBook_subtype_22 ⟨(by show _ ≤ 50000; omega), (by show _ ≤ 1000000; omega)⟩ (fun r13 hr13 => ?_)
    refine lv_if_ne (tgt := 38) hx hb dTypeBook_subtype_25 (by decide) (fun c14 => ?_) (fun c14 => ?_)
    · refine lv_aload_n hx hb dTypeBook_subtype_38 rfl (lv_at hl 0 rfl) ?_
      refine of_get S hC (of_0_1 hI) in_TypeBook rfl (by decide) qw_a088f6ef48 dTypeBook_subtype_39 ?_
      refine lv_iload_n hx hb dTypeBook_subtype_42 rfl (lv_at hl 1 rfl) ?_
      refine pu_Vi (rest := []) S hC (k2_Names_isTaken l γ A κ x1) meNames_isTaken qw_5bf4c88d20 ⟨Nat.le_of_ble_eq_true rfl, Nat.le_of_ble_eq_true rfl⟩ (rv_2 hC hI) hI rfl hl.1 rfl (Nat.le_of_ble_eq_true rfl) dTypeBook_subtype_43 ⟨(by show _ ≤ 50000; omega), (by show _ ≤ 1000000; omega)⟩ (fun r15 hr15 => ?_)
      refine lv_if_eq (tgt := 57) hx hb dTypeBook_subtype_46 (by decide) (fun c16 => ?_) (fun c16 => ?_)
      · refine lv_aload_n hx hb dTypeBook_subtype_57 rfl (lv_at hl 0 rfl) ?_
        refine of_get S hC (of_0_1 hI) in_TypeBook rfl (by decide) qw_a088f6ef48 dTypeBook_subtype_58 ?_
        refine lv_iconst (v := 1) hx hb dTypeBook_subtype_61 (by decide) ?_
        refine vp_callSi (va_Run.run (va_runV (As := [.int (nI (1))]) (rest := []) S (k_haveRoom l γ A κ s0 hw0 hA0 (1) (by omega)) (bs_cwV hW meNames_haveRoom qw_bd2f27f55e rfl rfl ⟨Nat.le_of_ble_eq_true rfl, Nat.le_of_ble_eq_true rfl⟩) ⟨hr_blind, rv_2 hC hI, fun U hU hW9 => ⟨rfl, hC.warm hW9, by rw [hU]; exact (hF0.step hA0 hS.1 hS.2.1).warm hW9, by rw [hU]; exact hI⟩⟩ rfl rfl hl.1 rfl (lv_room (Nat.le_of_ble_eq_true rfl)) dTypeBook_subtype_62 ⟨by show 0 + 0 ≤ 50000; omega, by show 0 + 0 ≤ 1000000; omega⟩)) (fun r17 hr17 => ?_)
        refine lv_if_ne (tgt := 78) hx hb dTypeBook_subtype_65 (by decide) (fun c18 => ?_) (fun c18 => ?_)
        · have hN2 : κ 2 + 1 ≤ 3012 := Or.resolve_left (by assumption) (by assumption)
          have hwc12 := wcm (n := κ 12) (N := κ 2 + 1) (by omega) (by omega)
          refine lv_aload_n hx hb dTypeBook_subtype_78 rfl (lv_at hl 0 rfl) ?_
          refine of_get S hC (of_0_1 hI) in_TypeBook rfl (by decide) qw_a088f6ef48 dTypeBook_subtype_79 ?_
          refine lv_iload_n hx hb dTypeBook_subtype_82 rfl (lv_at hl 1 rfl) ?_
          refine lv_iconst (v := 1) hx hb dTypeBook_subtype_83 (by decide) ?_
          refine lv_iload_n hx hb dTypeBook_subtype_84 rfl (lv_at hl 2 rfl) ?_
          refine lv_iconst (v := 0) hx hb dTypeBook_subtype_85 (by decide) ?_
          refine mu_Vv (rest := []) S hC (fun q h => hA q (Nat.le_trans hS.1 h)) (fun q h => h) hS (k2_Names_put l γ A κ x1 1 x2 0 (by show κ 2 ≤ 4000; omega)) meNames_put qw_b1d56e075d ⟨Nat.le_of_ble_eq_true rfl, Nat.le_of_ble_eq_true rfl⟩ (rv_2 hC hI) hI rfl hl.1 rfl (Nat.le_of_ble_eq_true rfl) dTypeBook_subtype_86 ⟨(by show 0 + (0 + wc (κ 12) (κ 2 + 1) + wc (κ 12) (κ 2 + 1) + wc (κ 12) (κ 2 + 1) + wc (κ 12) (κ 2 + 1) + wc (κ 12) (κ 2 + 1)) ≤ 50000; omega), (by show 0 + (0 + wm (κ 12) (κ 2 + 1) + wm (κ 12) (κ 2 + 1) + wm (κ 12) (κ 2 + 1) + wm (κ 12) (κ 2 + 1) + wm (κ 12) (κ 2 + 1)) ≤ 1000000; omega)⟩ (fun H locs hI hS _ _ => ?_)
          refine W.cs (cells' := 0 + (0 + wc (κ 12) (κ 2 + 1) + wc (κ 12) (κ 2 + 1) + wc (κ 12) (κ 2 + 1) + wc (κ 12) (κ 2 + 1) + wc (κ 12) (κ 2 + 1))) (slots' := 0 + (0 + wm (κ 12) (κ 2 + 1) + wm (κ 12) (κ 2 + 1) + wm (κ 12) (κ 2 + 1) + wm (κ 12) (κ 2 + 1) + wm (κ 12) (κ 2 + 1))) rfl rfl ?_
          have hI : INV γ A (ku (ku κ 2 (κ 2 + 1)) 12 (wl (κ 12) (κ 2 + 1))) _ := hI
          refine lv_aload_n hx hb dTypeBook_subtype_89 rfl (lv_at hl 0 rfl) ?_
          refine lv_iconst (v := (-1)) hx hb dTypeBook_subtype_90 (by decide) ?_
          refine iv_fault S hC hI (fun q h => hA q (Nat.le_trans hS.1 h)) hS qw_464f80981e dTypeBook_subtype_91 (fun H locs hI hS => ?_)
          refine lv_iconst (v := 0) hx hb dTypeBook_subtype_94 (by decide) ?_
          rw [hQ]
          refine tx_endI S hret hlk hS (by show 0 + (0 + wc (κ 12) (κ 2 + 1) + wc (κ 12) (κ 2 + 1) + wc (κ 12) (κ 2 + 1) + wc (κ 12) (κ 2 + 1) + wc (κ 12) (κ 2 + 1)) ≤ 50000; omega) (by show 0 + (0 + wm (κ 12) (κ 2 + 1) + wm (κ 12) (κ 2 + 1) + wm (κ 12) (κ 2 + 1) + wm (κ 12) (κ 2 + 1) + wm (κ 12) (κ 2 + 1)) ≤ 1000000; omega) (fun hG => ?_) dTypeBook_subtype_95
          exact (pb_of (ku (ku κ 2 (κ 2 + 1)) 12 (wl (κ 12) (κ 2 + 1))) hI (show κ 3 = κ 3 ∧ κ 0 = κ 0 ∧ κ 1 = κ 1 from ⟨rfl, rfl, rfl⟩) hG (by show 5 * (κ 6) + 5 * (κ 7) + 4 * (κ 8) + 4 * (κ 9) + 4 * (κ 10) + 4 * (κ 11) + 5 * (κ 12) + 4 * (κ 13) + 3 * (κ 14) + 1 * (κ 15) ≤ 5 * (κ 6) + 5 * (κ 7) + 4 * (κ 8) + 4 * (κ 9) + 4 * (κ 10) + 4 * (κ 11) + 5 * (wl (κ 12) (κ 2 + 1)) + 4 * (κ 13) + 3 * (κ 14) + 1 * (κ 15); omega) (by show 0 + (0 + wc (κ 12) (κ 2 + 1) + wc (κ 12) (κ 2 + 1) + wc (κ 12) (κ 2 + 1) + wc (κ 12) (κ 2 + 1) + wc (κ 12) (κ 2 + 1)) ≤ (5 * (κ 6) + 5 * (κ 7) + 4 * (κ 8) + 4 * (κ 9) + 4 * (κ 10) + 4 * (κ 11) + 5 * (wl (κ 12) (κ 2 + 1)) + 4 * (κ 13) + 3 * (κ 14) + 1 * (κ 15)) - (5 * (κ 6) + 5 * (κ 7) + 4 * (κ 8) + 4 * (κ 9) + 4 * (κ 10) + 4 * (κ 11) + 5 * (κ 12) + 4 * (κ 13) + 3 * (κ 14) + 1 * (κ 15)) + 1; omega) (by show 0 + (0 + wm (κ 12) (κ 2 + 1) + wm (κ 12) (κ 2 + 1) + wm (κ 12) (κ 2 + 1) + wm (κ 12) (κ 2 + 1) + wm (κ 12) (κ 2 + 1)) ≤ 2 * ((5 * (κ 6) + 5 * (κ 7) + 4 * (κ 8) + 4 * (κ 9) + 4 * (κ 10) + 4 * (κ 11) + 5 * (wl (κ 12) (κ 2 + 1)) + 4 * (κ 13) + 3 * (κ 14) + 1 * (κ 15)) - (5 * (κ 6) + 5 * (κ 7) + 4 * (κ 8) + 4 * (κ 9) + 4 * (κ 10) + 4 * (κ 11) + 5 * (κ 12) + 4 * (κ 13) + 3 * (κ 14) + 1 * (κ 15))) + 6; omega))
        · obtain ⟨sa68, hsa68⟩ := hw0.2.2.2.1 R_TypeBook 180 "no room for a name" (in_tables_1_5 (List.mem_of_getElem? (i := 53) rfl))
          rw [hQ]
          refine tx_throw (s0 := s0) (names := ["java/lang/RuntimeException", "java/lang/Exception"]) (text := "no room for a name") (sa := sa68) S hst hX hlk (by decide +kernel) (by decide +kernel) qw_8038d8d33c qw_f529d83890 (hF0.step hA0 hS.1 hS.2.1) hsa68 (ta_ISE hW hw0) hl.1 dTypeBook_subtype_68 dTypeBook_subtype_71 dTypeBook_subtype_72 dTypeBook_subtype_74 dTypeBook_subtype_77 (Nat.lt_of_lt_of_le (by decide) (Nat.le_of_ble_eq_true rfl : 6 ≤ _)) (Nat.le_of_ble_eq_true rfl) (by show 0 + 1 ≤ 50000; omega) (by show 0 + 6 ≤ 1000000; omega) (fun H1 hG hz ho => ?_) hS.2.2 (by show 0 + 1 ≤ 50000; omega) (by show 0 + 6 ≤ 1000000; omega)
          exact ⟨by decide, (pb_of κ (inv_more hI ho) (show κ 3 = κ 3 ∧ κ 0 = κ 0 ∧ κ 1 = κ 1 from ⟨rfl, rfl, rfl⟩) hG (by show 5 * (κ 6) + 5 * (κ 7) + 4 * (κ 8) + 4 * (κ 9) + 4 * (κ 10) + 4 * (κ 11) + 5 * (κ 12) + 4 * (κ 13) + 3 * (κ 14) + 1 * (κ 15) ≤ 5 * (κ 6) + 5 * (κ 7) + 4 * (κ 8) + 4 * (κ 9) + 4 * (κ 10) + 4 * (κ 11) + 5 * (κ 12) + 4 * (κ 13) + 3 * (κ 14) + 1 * (κ 15); omega) (by show 0 + 1 ≤ (5 * (κ 6) + 5 * (κ 7) + 4 * (κ 8) + 4 * (κ 9) + 4 * (κ 10) + 4 * (κ 11) + 5 * (κ 12) + 4 * (κ 13) + 3 * (κ 14) + 1 * (κ 15)) - (5 * (κ 6) + 5 * (κ 7) + 4 * (κ 8) + 4 * (κ 9) + 4 * (κ 10) + 4 * (κ 11) + 5 * (κ 12) + 4 * (κ 13) + 3 * (κ 14) + 1 * (κ 15)) + 1; omega) (by show 0 + 6 ≤ 2 * ((5 * (κ 6) + 5 * (κ 7) + 4 * (κ 8) + 4 * (κ 9) + 4 * (κ 10) + 4 * (κ 11) + 5 * (κ 12) + 4 * (κ 13) + 3 * (κ 14) + 1 * (κ 15)) - (5 * (κ 6) + 5 * (κ 7) + 4 * (κ 8) + 4 * (κ 9) + 4 * (κ 10) + 4 * (κ 11) + 5 * (κ 12) + 4 * (κ 13) + 3 * (κ 14) + 1 * (κ 15))) + 6; omega)), fr_more hS hz ho⟩
      · refine lv_aload_n hx hb dTypeBook_subtype_49 rfl (lv_at hl 0 rfl) ?_
        refine lv_bipush (v := 7) hx hb dTypeBook_subtype_50 (by decide) ?_
        refine lv_iconst (v := (-1)) hx hb dTypeBook_subtype_52 (by decide) ?_
        refine mu_Vi (rest := []) S hC (fun q h => hA q (Nat.le_trans hS.1 h)) (fun q h => h) hS (k_TypeBook_refused l γ A κ 7 (-1)) meTypeBook_refused qw_fa3e8c2955 ⟨Nat.le_of_ble_eq_true rfl, Nat.le_of_ble_eq_true rfl⟩ (rv_0 hC hI) hI rfl hl.1 rfl (Nat.le_of_ble_eq_true rfl) dTypeBook_subtype_53 ⟨(by show 0 + 0 ≤ 50000; omega), (by show 0 + 0 ≤ 1000000; omega)⟩ (fun r20 H locs ⟨hr20, hI⟩ hS _ _ => ?_)
        rw [hQ]
        refine tx_endI S hret hlk hS (by show 0 ≤ 50000; omega) (by show 0 ≤ 1000000; omega) (fun hG => ?_) dTypeBook_subtype_56
        exact (pb_of κ hI (show κ 3 = κ 3 ∧ κ 0 = κ 0 ∧ κ 1 = κ 1 from ⟨rfl, rfl, rfl⟩) hG (by show 5 * (κ 6) + 5 * (κ 7) + 4 * (κ 8) + 4 * (κ 9) + 4 * (κ 10) + 4 * (κ 11) + 5 * (κ 12) + 4 * (κ 13) + 3 * (κ 14) + 1 * (κ 15) ≤ 5 * (κ 6) + 5 * (κ 7) + 4 * (κ 8) + 4 * (κ 9) + 4 * (κ 10) + 4 * (κ 11) + 5 * (κ 12) + 4 * (κ 13) + 3 * (κ 14) + 1 * (κ 15); omega) (by show 0 ≤ (5 * (κ 6) + 5 * (κ 7) + 4 * (κ 8) + 4 * (κ 9) + 4 * (κ 10) + 4 * (κ 11) + 5 * (κ 12) + 4 * (κ 13) + 3 * (κ 14) + 1 * (κ 15)) - (5 * (κ 6) + 5 * (κ 7) + 4 * (κ 8) + 4 * (κ 9) + 4 * (κ 10) + 4 * (κ 11) + 5 * (κ 12) + 4 * (κ 13) + 3 * (κ 14) + 1 * (κ 15)) + 1; omega) (by show 0 ≤ 2 * ((5 * (κ 6) + 5 * (κ 7) + 4 * (κ 8) + 4 * (κ 9) + 4 * (κ 10) + 4 * (κ 11) + 5 * (κ 12) + 4 * (κ 13) + 3 * (κ 14) + 1 * (κ 15)) - (5 * (κ 6) + 5 * (κ 7) + 4 * (κ 8) + 4 * (κ 9) + 4 * (κ 10) + 4 * (κ 11) + 5 * (κ 12) + 4 * (κ 13) + 3 * (κ 14) + 1 * (κ 15))) + 6; omega))
    · obtain ⟨sa28, hsa28⟩ := hw0.2.2.2.1 R_TypeBook 74 "no such name" (in_tables_1_2 (List.mem_of_getElem? (i := 169) rfl))
      rw [hQ]
      refine tx_throw (s0 := s0) (names := ["java/lang/RuntimeException", "java/lang/Exception"]) (text := "no such name") (sa := sa28) S hst hX hlk (by decide +kernel) (by decide +kernel) qw_b17894d46b qw_ed8d893ebf (hF0.step hA0 hS.1 hS.2.1) hsa28 (ta_IAE hW hw0) hl.1 dTypeBook_subtype_28 dTypeBook_subtype_31 dTypeBook_subtype_32 dTypeBook_subtype_34 dTypeBook_subtype_37 (Nat.lt_of_lt_of_le (by decide) (Nat.le_of_ble_eq_true rfl : 6 ≤ _)) (Nat.le_of_ble_eq_true rfl) (by show 0 + 1 ≤ 50000; omega) (by show 0 + 6 ≤ 1000000; omega) (fun H1 hG hz ho => ?_) hS.2.2 (by show 0 + 1 ≤ 50000; omega) (by show 0 + 6 ≤ 1000000; omega)
      exact ⟨by decide, (pb_of κ (inv_more hI ho) (show κ 3 = κ 3 ∧ κ 0 = κ 0 ∧ κ 1 = κ 1 from ⟨rfl, rfl, rfl⟩) hG (by show 5 * (κ 6) + 5 * (κ 7) + 4 * (κ 8) + 4 * (κ 9) + 4 * (κ 10) + 4 * (κ 11) + 5 * (κ 12) + 4 * (κ 13) + 3 * (κ 14) + 1 * (κ 15) ≤ 5 * (κ 6) + 5 * (κ 7) + 4 * (κ 8) + 4 * (κ 9) + 4 * (κ 10) + 4 * (κ 11) + 5 * (κ 12) + 4 * (κ 13) + 3 * (κ 14) + 1 * (κ 15); omega) (by show 0 + 1 ≤ (5 * (κ 6) + 5 * (κ 7) + 4 * (κ 8) + 4 * (κ 9) + 4 * (κ 10) + 4 * (κ 11) + 5 * (κ 12) + 4 * (κ 13) + 3 * (κ 14) + 1 * (κ 15)) - (5 * (κ 6) + 5 * (κ 7) + 4 * (κ 8) + 4 * (κ 9) + 4 * (κ 10) + 4 * (κ 11) + 5 * (κ 12) + 4 * (κ 13) + 3 * (κ 14) + 1 * (κ 15)) + 1; omega) (by show 0 + 6 ≤ 2 * ((5 * (κ 6) + 5 * (κ 7) + 4 * (κ 8) + 4 * (κ 9) + 4 * (κ 10) + 4 * (κ 11) + 5 * (κ 12) + 4 * (κ 13) + 3 * (κ 14) + 1 * (κ 15)) - (5 * (κ 6) + 5 * (κ 7) + 4 * (κ 8) + 4 * (κ 9) + 4 * (κ 10) + 4 * (κ 11) + 5 * (κ 12) + 4 * (κ 13) + 3 * (κ 14) + 1 * (κ 15))) + 6; omega)), fr_more hS hz ho⟩
  · obtain ⟨sa11, hsa11⟩ := hw0.2.2.2.1 R_TypeBook 175 "no such type" (in_tables_1_5 (List.mem_of_getElem? (i := 52) rfl))
    rw [hQ]
    refine tx_throw (s0 := s0) (names := ["java/lang/RuntimeException", "java/lang/Exception"]) (text := "no such type") (sa := sa11) S hst hX hlk (by decide +kernel) (by decide +kernel) qw_ae3ba0ca69 qw_d4b771d349 (hF0.step hA0 hS.1 hS.2.1) hsa11 (ta_IOB hW hw0) hl.1 dTypeBook_subtype_11 dTypeBook_subtype_14 dTypeBook_subtype_15 dTypeBook_subtype_17 dTypeBook_subtype_20 (Nat.lt_of_lt_of_le (by decide) (Nat.le_of_ble_eq_true rfl : 6 ≤ _)) (Nat.le_of_ble_eq_true rfl) (by show 0 + 1 ≤ 50000; omega) (by show 0 + 6 ≤ 1000000; omega) (fun H1 hG hz ho => ?_) hS.2.2 (by show 0 + 1 ≤ 50000; omega) (by show 0 + 6 ≤ 1000000; omega)
    exact ⟨by decide, (pb_of κ (inv_more hI ho) (show κ 3 = κ 3 ∧ κ 0 = κ 0 ∧ κ 1 = κ 1 from ⟨rfl, rfl, rfl⟩) hG (by show 5 * (κ 6) + 5 * (κ 7) + 4 * (κ 8) + 4 * (κ 9) + 4 * (κ 10) + 4 * (κ 11) + 5 * (κ 12) + 4 * (κ 13) + 3 * (κ 14) + 1 * (κ 15) ≤ 5 * (κ 6) + 5 * (κ 7) + 4 * (κ 8) + 4 * (κ 9) + 4 * (κ 10) + 4 * (κ 11) + 5 * (κ 12) + 4 * (κ 13) + 3 * (κ 14) + 1 * (κ 15); omega) (by show 0 + 1 ≤ (5 * (κ 6) + 5 * (κ 7) + 4 * (κ 8) + 4 * (κ 9) + 4 * (κ 10) + 4 * (κ 11) + 5 * (κ 12) + 4 * (κ 13) + 3 * (κ 14) + 1 * (κ 15)) - (5 * (κ 6) + 5 * (κ 7) + 4 * (κ 8) + 4 * (κ 9) + 4 * (κ 10) + 4 * (κ 11) + 5 * (κ 12) + 4 * (κ 13) + 3 * (κ 14) + 1 * (κ 15)) + 1; omega) (by show 0 + 6 ≤ 2 * ((5 * (κ 6) + 5 * (κ 7) + 4 * (κ 8) + 4 * (κ 9) + 4 * (κ 10) + 4 * (κ 11) + 5 * (κ 12) + 4 * (κ 13) + 3 * (κ 14) + 1 * (κ 15)) - (5 * (κ 6) + 5 * (κ 7) + 4 * (κ 8) + 4 * (κ 9) + 4 * (κ 10) + 4 * (κ 11) + 5 * (κ 12) + 4 * (κ 13) + 3 * (κ 14) + 1 * (κ 15))) + 6; omega)), fr_more hS hz ho⟩
