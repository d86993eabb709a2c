theorem qn_cf408b0714 : (Cond.fieldLinkNest R_TypeBook 57 R_Trees "roots" "I" "TypeBook") ∈ lw_tbl := in_tables_1_1 (List.mem_of_getElem? (i := 45) rfl)
theorem qw_697d580e16 : (Cond.methodLink R_TypeBook 67 yTrees_bearsName) ∈ bs_W0 := bs_in (in_tables_1_2 (List.mem_of_getElem? (i := 163) rfl)) rfl
theorem qw_87c028f095 : (Cond.methodLink R_TypeBook 71 yTypeBook_isName) ∈ bs_W0 := bs_in (in_tables_1_2 (List.mem_of_getElem? (i := 166) rfl)) rfl
theorem qw_b17894d46b : (Cond.classLink R_TypeBook 60 "java/lang/IllegalArgumentException") ∈ bs_W0 := bs_in (in_tables_1_2 (List.mem_of_getElem? (i := 95) rfl)) rfl
theorem qw_ed8d893ebf : (Cond.initialized "java/lang/IllegalArgumentException") ∈ bs_W0 := bs_in (in_tables_1_1 (List.mem_of_getElem? (i := 18) rfl)) rfl
theorem qn_307125c060 : (Cond.fieldLinkNest R_TypeBook 76 R_Trees "size" "I" "TypeBook") ∈ lw_tbl := in_tables_1_1 (List.mem_of_getElem? (i := 43) rfl)
theorem qw_d8f39e7603 : (Cond.methodLink R_TypeBook 84 yTrees_grow) ∈ bs_W0 := bs_in (in_tables_1_2 (List.mem_of_getElem? (i := 186) rfl)) rfl
theorem qw_ce6a8385d0 : (Cond.fieldLink R_TypeBook 40 R_TypeBook "known" "LTypeBook$Looks;") ∈ bs_W0 := bs_in (in_tables_1_2 (List.mem_of_getElem? (i := 56) rfl)) rfl
theorem qw_23eabf8a60 : (Cond.methodLink R_TypeBook 88 yLooks_makeRoom) ∈ bs_W0 := bs_in (in_tables_1_2 (List.mem_of_getElem? (i := 199) rfl)) rfl
theorem qw_58d2a16fbc : (Cond.methodLink R_TypeBook 92 yLooks_forget) ∈ bs_W0 := bs_in (in_tables_1_2 (List.mem_of_getElem? (i := 216) rfl)) rfl
theorem qw_130a6323a2 : (Cond.fieldLink R_TypeBook 49 R_TypeBook "looker" "LTypeBook$Looker;") ∈ bs_W0 := bs_in (in_tables_1_2 (List.mem_of_getElem? (i := 57) rfl)) rfl
theorem qw_524cf24ff5 : (Cond.methodLink R_TypeBook 95 yLooker_makeRoom) ∈ bs_W0 := bs_in (in_tables_1_2 (List.mem_of_getElem? (i := 224) rfl)) rfl
theorem qw_8038d8d33c : (Cond.classLink R_TypeBook 79 "java/lang/IllegalStateException") ∈ bs_W0 := bs_in (in_tables_1_2 (List.mem_of_getElem? (i := 170) rfl)) rfl
theorem qw_f529d83890 : (Cond.initialized "java/lang/IllegalStateException") ∈ bs_W0 := bs_in (in_tables_1_1 (List.mem_of_getElem? (i := 19) rfl)) rfl
set_option maxHeartbeats 4000000 in
set_option maxRecDepth 100000 in
theorem x_add (l : Launch) (hst : l.stackTraces = false) (γ : gE) (A : Nat → Prop) (κ : Nat → Nat) (s0 : State) (hw0 : SW s0) (hA0 : ∀ q, A q → s0.heap.size ≤ q) (H0 : Heap) (x1 : Int32) (x2 : Int32) (x3 : Int32) : XM l yTypeBook_add bTypeBook_add 5 (some .int) 6 145 50000 1000000 [.ref (γ.2.2.2 0), .int x1, .int x2, .int x3] γ A (fun U => FB s0 U U.heap ∧ U.heap = H0 ∧ INV γ A κ U.heap) (mQi (fun r H => PB γ A κ H0 (fun κ' => κ' 3 = κ 3) H) A) (fun E H => E ∈ ["java/lang/IllegalArgumentException", "java/lang/IllegalStateException"] ∧ PB γ A κ H0 (fun κ' => κ' 3 = κ 3) H ∧ fr_A A H0 H) := by
  refine tx_openI (by decide) (Nat.le_of_ble_eq_true rfl) ?_
  intro p e s m args below meth c ls Q S hret hlk hX hC hA hP hQ hl
  obtain ⟨hF0, hH0, hI⟩ := hP
  subst hH0
  obtain ⟨hx, hb, hml, hown, hW⟩ := id S
  have hS : va_S A s.heap s.heap [] := va_S.rf
  have hl : lv_has ls 5 [(0, .ref (γ.2.2.2 0)), (1, .int x1), (2, .int x2), (3, .int x3)] := hl
  obtain ⟨hlen, hsz⟩ := inv_len hI
  have J59 : ∀ (ls : Array Slot) (H : Heap) (locs : List Loc) (i1 : Int32) (i2 : Int32) (i3 : Int32), INV γ A κ H → va_S A s.heap H locs → (∃ k3, k3 ≤ κ 1 ∧ i3 = nI k3) → lv_has ls 5 [(0, .ref (γ.2.2.2 0)), (1, .int i1), (2, .int i2), (3, .int i3)] → W p l e (bs_rm 6 50000 1000000 145) s m args below meth c H locs 0 0 Q (F0 m 59 ls []) := by
    intro ls H locs i1 i2 i3 hI hS ⟨k3, hk3, ei3⟩ hl
    refine lv_aload_n hx hb dTypeBook_add_59 rfl (lv_at hl 0 rfl) ?_
    refine of_get S hC (of_0_0 hI) in_TypeBook rfl (by decide) qw_6151ee7924 dTypeBook_add_60 ?_
    refine of_getN S hC (of_1_4 hI) in_Trees rfl (by decide) qn_307125c060 dTypeBook_add_63 ?_
    refine lv_topi (fun v18 ev18 => ?_)
    have ev18 : v18 = nI (κ 0) := ev18
    refine lv_sipush (v := 4000) hx hb dTypeBook_add_66 (by decide) ?_
    refine lv_icmp_lt (tgt := 82) hx hb dTypeBook_add_69 (by decide) (fun c19 => ?_) (fun c19 => ?_)
    · have hN : κ 0 < 4000 := lt_ok (M := 4000) (by assumption) rfl (by assumption) (by omega) (by omega)
      have hwc11 := wcm (n := κ 11) (N := κ 0 + 1) (by omega) (by omega)
      have hwc6 := wcm (n := κ 6) (N := κ 0 + 1) (by omega) (by omega)
      have hwc9 := wcm (n := κ 9) (N := κ 0 + 1) (by omega) (by omega)
      have hwc7 := wcm (n := κ 7) (N := κ 0 + 1) (by omega) (by omega)
      have hwc10 := wcm (n := κ 10) (N := κ 0 + 1) (by omega) (by omega)
      have hwc15 := wcm (n := κ 15) (N := κ 0 + 1) (by omega) (by omega)
      refine lv_aload_n hx hb dTypeBook_add_82 rfl (lv_at hl 0 rfl) ?_
      refine of_get S hC (of_0_0 hI) in_TypeBook rfl (by decide) qw_6151ee7924 dTypeBook_add_83 ?_
      refine lv_iload_n hx hb dTypeBook_add_86 rfl (lv_at hl 1 rfl) ?_
      refine lv_iload_n hx hb dTypeBook_add_87 rfl (lv_at hl 2 rfl) ?_
      refine lv_iload_n hx hb dTypeBook_add_88 rfl (lv_at hl 3 rfl) ?_
      obtain rfl : i3 = nI (k3) := ei3
      refine mu_Vi (rest := []) S hC (fun q h => hA q (Nat.le_trans hS.1 h)) (fun q h => h) hS (k1_Trees_grow l γ A κ i1 i2 k3 (by show κ 0 ≤ 4000; omega) (by show k3 ≤ κ 1; omega)) meTrees_grow qw_d8f39e7603 ⟨Nat.le_of_ble_eq_true rfl, Nat.le_of_ble_eq_true rfl⟩ (rv_1 hC hI) hI rfl hl.1 rfl (Nat.le_of_ble_eq_true rfl) dTypeBook_add_89 ⟨(by show 0 + (0 + wc (κ 11) (κ 0 + 1) + wc (κ 11) (κ 0 + 1) + wc (κ 11) (κ 0 + 1) + wc (κ 11) (κ 0 + 1)) ≤ 50000; omega), (by show 0 + (0 + wm (κ 11) (κ 0 + 1) + wm (κ 11) (κ 0 + 1) + wm (κ 11) (κ 0 + 1) + wm (κ 11) (κ 0 + 1)) ≤ 1000000; omega)⟩ (fun r20 H locs ⟨hr20, hI⟩ hS _ _ => ?_)
      refine W.cs (cells' := 0 + (0 + wc (κ 11) (κ 0 + 1) + wc (κ 11) (κ 0 + 1) + wc (κ 11) (κ 0 + 1) + wc (κ 11) (κ 0 + 1))) (slots' := 0 + (0 + wm (κ 11) (κ 0 + 1) + wm (κ 11) (κ 0 + 1) + wm (κ 11) (κ 0 + 1) + wm (κ 11) (κ 0 + 1))) rfl rfl ?_
      have hI : INV γ A (ku (ku (ku κ 0 (κ 0 + 1)) 1 (κ 1 + 1 - k3)) 11 (wl (κ 11) (κ 0 + 1))) _ := hI
      have er20 : r20 = nI (κ 0) := hr20
      refine lv_istore (lv' := [(4, .int r20), (0, .ref (γ.2.2.2 0)), (1, .int i1), (2, .int i2), (3, .int (nI (k3)))]) hx hb dTypeBook_add_92 hl (by decide) rfl (fun ls hl => ?_)
      refine lv_aload_n hx hb dTypeBook_add_94 rfl (lv_at hl 1 rfl) ?_
      refine of_get S hC (of_0_4 hI) in_TypeBook rfl (by decide) qw_ce6a8385d0 dTypeBook_add_95 ?_
      refine lv_aload_n hx hb dTypeBook_add_98 rfl (lv_at hl 1 rfl) ?_
      refine of_get S hC (of_0_0 hI) in_TypeBook rfl (by decide) qw_6151ee7924 dTypeBook_add_99 ?_
      refine of_getN S hC (of_1_4 hI) in_Trees rfl (by decide) qn_307125c060 dTypeBook_add_102 ?_
      refine lv_topi (fun v21 ev21 => ?_)
      have ev21 : v21 = nI (κ 0 + 1) := ev21
      obtain rfl : v21 = nI (κ 0 + 1) := ev21
      refine mu_Vv (rest := []) S hC (fun q h => hA q (Nat.le_trans hS.1 h)) (fun q h => h) hS (k6_Looks_makeRoom l γ A (ku (ku (ku κ 0 (κ 0 + 1)) 1 (κ 1 + 1 - k3)) 11 (wl (κ 11) (κ 0 + 1))) (κ 0 + 1) (by omega)) meLooks_makeRoom qw_23eabf8a60 ⟨Nat.le_of_ble_eq_true rfl, Nat.le_of_ble_eq_true rfl⟩ (rv_6 hC hI) hI rfl hl.1 rfl (Nat.le_of_ble_eq_true rfl) dTypeBook_add_105 ⟨(by show 0 + (0 + wc (κ 11) (κ 0 + 1) + wc (κ 11) (κ 0 + 1) + wc (κ 11) (κ 0 + 1) + wc (κ 11) (κ 0 + 1)) + (0 + wc (κ 6) ((κ 0 + 1)) + wc (κ 6) ((κ 0 + 1)) + wc (κ 6) ((κ 0 + 1)) + wc (κ 6) ((κ 0 + 1)) + wc (κ 6) ((κ 0 + 1)) + wc (κ 9) (κ 0 + 1)) ≤ 50000; omega), (by show 0 + (0 + wm (κ 11) (κ 0 + 1) + wm (κ 11) (κ 0 + 1) + wm (κ 11) (κ 0 + 1) + wm (κ 11) (κ 0 + 1)) + (0 + wm (κ 6) ((κ 0 + 1)) + wm (κ 6) ((κ 0 + 1)) + wm (κ 6) ((κ 0 + 1)) + wm (κ 6) ((κ 0 + 1)) + wm (κ 6) ((κ 0 + 1)) + 4 * wm (κ 9) (κ 0 + 1)) ≤ 1000000; omega)⟩ (fun H locs hI hS _ _ => ?_)
      refine W.cs (cells' := 0 + (0 + wc (κ 11) (κ 0 + 1) + wc (κ 11) (κ 0 + 1) + wc (κ 11) (κ 0 + 1) + wc (κ 11) (κ 0 + 1)) + (0 + wc (κ 6) ((κ 0 + 1)) + wc (κ 6) ((κ 0 + 1)) + wc (κ 6) ((κ 0 + 1)) + wc (κ 6) ((κ 0 + 1)) + wc (κ 6) ((κ 0 + 1)) + wc (κ 9) (κ 0 + 1))) (slots' := 0 + (0 + wm (κ 11) (κ 0 + 1) + wm (κ 11) (κ 0 + 1) + wm (κ 11) (κ 0 + 1) + wm (κ 11) (κ 0 + 1)) + (0 + wm (κ 6) ((κ 0 + 1)) + wm (κ 6) ((κ 0 + 1)) + wm (κ 6) ((κ 0 + 1)) + wm (κ 6) ((κ 0 + 1)) + wm (κ 6) ((κ 0 + 1)) + 4 * wm (κ 9) (κ 0 + 1))) rfl rfl ?_
      have hI : INV γ A (ku (ku (ku (ku (ku κ 0 (κ 0 + 1)) 1 (κ 1 + 1 - k3)) 11 (wl (κ 11) (κ 0 + 1))) 6 (wl (κ 6) ((κ 0 + 1)))) 9 (wl (κ 9) (κ 0 + 1))) _ := hI
      refine lv_aload_n hx hb dTypeBook_add_108 rfl (lv_at hl 1 rfl) ?_
      refine of_get S hC (of_0_4 hI) in_TypeBook rfl (by decide) qw_ce6a8385d0 dTypeBook_add_109 ?_
      refine lv_iload hx hb dTypeBook_add_112 (lv_at hl 0 rfl) ?_
      refine mu_Vv (rest := []) S hC (fun q h => hA q (Nat.le_trans hS.1 h)) (fun q h => h) hS (k6_Looks_forget l γ A (ku (ku (ku (ku (ku κ 0 (κ 0 + 1)) 1 (κ 1 + 1 - k3)) 11 (wl (κ 11) (κ 0 + 1))) 6 (wl (κ 6) ((κ 0 + 1)))) 9 (wl (κ 9) (κ 0 + 1))) r20) meLooks_forget qw_58d2a16fbc ⟨Nat.le_of_ble_eq_true rfl, Nat.le_of_ble_eq_true rfl⟩ (rv_6 hC hI) hI rfl hl.1 rfl (Nat.le_of_ble_eq_true rfl) dTypeBook_add_114 ⟨(by show 0 + (0 + wc (κ 11) (κ 0 + 1) + wc (κ 11) (κ 0 + 1) + wc (κ 11) (κ 0 + 1) + wc (κ 11) (κ 0 + 1)) + (0 + wc (κ 6) ((κ 0 + 1)) + wc (κ 6) ((κ 0 + 1)) + wc (κ 6) ((κ 0 + 1)) + wc (κ 6) ((κ 0 + 1)) + wc (κ 6) ((κ 0 + 1)) + wc (κ 9) (κ 0 + 1)) + 0 ≤ 50000; omega), (by show 0 + (0 + wm (κ 11) (κ 0 + 1) + wm (κ 11) (κ 0 + 1) + wm (κ 11) (κ 0 + 1) + wm (κ 11) (κ 0 + 1)) + (0 + wm (κ 6) ((κ 0 + 1)) + wm (κ 6) ((κ 0 + 1)) + wm (κ 6) ((κ 0 + 1)) + wm (κ 6) ((κ 0 + 1)) + wm (κ 6) ((κ 0 + 1)) + 4 * wm (κ 9) (κ 0 + 1)) + 0 ≤ 1000000; omega)⟩ (fun H locs hI hS _ _ => ?_)
      refine lv_aload_n hx hb dTypeBook_add_117 rfl (lv_at hl 1 rfl) ?_
      refine of_get S hC (of_0_5 hI) in_TypeBook rfl (by decide) qw_130a6323a2 dTypeBook_add_118 ?_
      refine lv_aload_n hx hb dTypeBook_add_121 rfl (lv_at hl 1 rfl) ?_
      refine of_get S hC (of_0_0 hI) in_TypeBook rfl (by decide) qw_6151ee7924 dTypeBook_add_122 ?_
      refine of_getN S hC (of_1_4 hI) in_Trees rfl (by decide) qn_307125c060 dTypeBook_add_125 ?_
      refine lv_topi (fun v24 ev24 => ?_)
      have ev24 : v24 = nI (κ 0 + 1) := ev24
      obtain rfl : v24 = nI (κ 0 + 1) := ev24
      refine mu_Vv (rest := []) S hC (fun q h => hA q (Nat.le_trans hS.1 h)) (fun q h => h) hS (k_Looker_makeRoom l γ A (ku (ku (ku (ku (ku κ 0 (κ 0 + 1)) 1 (κ 1 + 1 - k3)) 11 (wl (κ 11) (κ 0 + 1))) 6 (wl (κ 6) ((κ 0 + 1)))) 9 (wl (κ 9) (κ 0 + 1))) (κ 0 + 1) (by omega)) meLooker_makeRoom qw_524cf24ff5 ⟨Nat.le_of_ble_eq_true rfl, Nat.le_of_ble_eq_true rfl⟩ (rv_8 hC hI) hI rfl hl.1 rfl (Nat.le_of_ble_eq_true rfl) dTypeBook_add_128 ⟨(by show 0 + (0 + wc (κ 11) (κ 0 + 1) + wc (κ 11) (κ 0 + 1) + wc (κ 11) (κ 0 + 1) + wc (κ 11) (κ 0 + 1)) + (0 + wc (κ 6) ((κ 0 + 1)) + wc (κ 6) ((κ 0 + 1)) + wc (κ 6) ((κ 0 + 1)) + wc (κ 6) ((κ 0 + 1)) + wc (κ 6) ((κ 0 + 1)) + wc (κ 9) (κ 0 + 1)) + (0 + (0 + wc (κ 7) ((κ 0 + 1)) + wc (κ 7) ((κ 0 + 1)) + wc (κ 7) ((κ 0 + 1)) + wc (κ 7) ((κ 0 + 1)) + wc (κ 7) ((κ 0 + 1)) + wc (κ 10) (κ 0 + 1)) + wc (κ 15) ((κ 0 + 1))) ≤ 50000; omega), (by show 0 + (0 + wm (κ 11) (κ 0 + 1) + wm (κ 11) (κ 0 + 1) + wm (κ 11) (κ 0 + 1) + wm (κ 11) (κ 0 + 1)) + (0 + wm (κ 6) ((κ 0 + 1)) + wm (κ 6) ((κ 0 + 1)) + wm (κ 6) ((κ 0 + 1)) + wm (κ 6) ((κ 0 + 1)) + wm (κ 6) ((κ 0 + 1)) + 4 * wm (κ 9) (κ 0 + 1)) + (0 + (0 + wm (κ 7) ((κ 0 + 1)) + wm (κ 7) ((κ 0 + 1)) + wm (κ 7) ((κ 0 + 1)) + wm (κ 7) ((κ 0 + 1)) + wm (κ 7) ((κ 0 + 1)) + 4 * wm (κ 10) (κ 0 + 1)) + wm (κ 15) ((κ 0 + 1))) ≤ 1000000; omega)⟩ (fun H locs hI hS _ _ => ?_)
      refine W.cs (cells' := 0 + (0 + wc (κ 11) (κ 0 + 1) + wc (κ 11) (κ 0 + 1) + wc (κ 11) (κ 0 + 1) + wc (κ 11) (κ 0 + 1)) + (0 + wc (κ 6) ((κ 0 + 1)) + wc (κ 6) ((κ 0 + 1)) + wc (κ 6) ((κ 0 + 1)) + wc (κ 6) ((κ 0 + 1)) + wc (κ 6) ((κ 0 + 1)) + wc (κ 9) (κ 0 + 1)) + (0 + (0 + wc (κ 7) ((κ 0 + 1)) + wc (κ 7) ((κ 0 + 1)) + wc (κ 7) ((κ 0 + 1)) + wc (κ 7) ((κ 0 + 1)) + wc (κ 7) ((κ 0 + 1)) + wc (κ 10) (κ 0 + 1)) + wc (κ 15) ((κ 0 + 1)))) (slots' := 0 + (0 + wm (κ 11) (κ 0 + 1) + wm (κ 11) (κ 0 + 1) + wm (κ 11) (κ 0 + 1) + wm (κ 11) (κ 0 + 1)) + (0 + wm (κ 6) ((κ 0 + 1)) + wm (κ 6) ((κ 0 + 1)) + wm (κ 6) ((κ 0 + 1)) + wm (κ 6) ((κ 0 + 1)) + wm (κ 6) ((κ 0 + 1)) + 4 * wm (κ 9) (κ 0 + 1)) + (0 + (0 + wm (κ 7) ((κ 0 + 1)) + wm (κ 7) ((κ 0 + 1)) + wm (κ 7) ((κ 0 + 1)) + wm (κ 7) ((κ 0 + 1)) + wm (κ 7) ((κ 0 + 1)) + 4 * wm (κ 10) (κ 0 + 1)) + wm (κ 15) ((κ 0 + 1)))) rfl rfl ?_
      have hI : INV γ A (ku (ku (ku (ku (ku (ku (ku (ku κ 0 (κ 0 + 1)) 1 (κ 1 + 1 - k3)) 11 (wl (κ 11) (κ 0 + 1))) 6 (wl (κ 6) ((κ 0 + 1)))) 9 (wl (κ 9) (κ 0 + 1))) 7 (wl (κ 7) ((κ 0 + 1)))) 10 (wl (κ 10) (κ 0 + 1))) 15 (wl (κ 15) ((κ 0 + 1)))) _ := hI
      refine lv_iload hx hb dTypeBook_add_131 (lv_at hl 0 rfl) ?_
      rw [hQ]
      refine tx_endI S hret hlk hS (by show 0 + (0 + wc (κ 11) (κ 0 + 1) + wc (κ 11) (κ 0 + 1) + wc (κ 11) (κ 0 + 1) + wc (κ 11) (κ 0 + 1)) + (0 + wc (κ 6) ((κ 0 + 1)) + wc (κ 6) ((κ 0 + 1)) + wc (κ 6) ((κ 0 + 1)) + wc (κ 6) ((κ 0 + 1)) + wc (κ 6) ((κ 0 + 1)) + wc (κ 9) (κ 0 + 1)) + (0 + (0 + wc (κ 7) ((κ 0 + 1)) + wc (κ 7) ((κ 0 + 1)) + wc (κ 7) ((κ 0 + 1)) + wc (κ 7) ((κ 0 + 1)) + wc (κ 7) ((κ 0 + 1)) + wc (κ 10) (κ 0 + 1)) + wc (κ 15) ((κ 0 + 1))) ≤ 50000; omega) (by show 0 + (0 + wm (κ 11) (κ 0 + 1) + wm (κ 11) (κ 0 + 1) + wm (κ 11) (κ 0 + 1) + wm (κ 11) (κ 0 + 1)) + (0 + wm (κ 6) ((κ 0 + 1)) + wm (κ 6) ((κ 0 + 1)) + wm (κ 6) ((κ 0 + 1)) + wm (κ 6) ((κ 0 + 1)) + wm (κ 6) ((κ 0 + 1)) + 4 * wm (κ 9) (κ 0 + 1)) + (0 + (0 + wm (κ 7) ((κ 0 + 1)) + wm (κ 7) ((κ 0 + 1)) + wm (κ 7) ((κ 0 + 1)) + wm (κ 7) ((κ 0 + 1)) + wm (κ 7) ((κ 0 + 1)) + 4 * wm (κ 10) (κ 0 + 1)) + wm (κ 15) ((κ 0 + 1))) ≤ 1000000; omega) (fun hG => ?_) dTypeBook_add_133
      exact (pb_of (ku (ku (ku (ku (ku (ku (ku (ku κ 0 (κ 0 + 1)) 1 (κ 1 + 1 - k3)) 11 (wl (κ 11) (κ 0 + 1))) 6 (wl (κ 6) ((κ 0 + 1)))) 9 (wl (κ 9) (κ 0 + 1))) 7 (wl (κ 7) ((κ 0 + 1)))) 10 (wl (κ 10) (κ 0 + 1))) 15 (wl (κ 15) ((κ 0 + 1)))) hI (show κ 3 = κ 3 from rfl) hG (by show 5 * (κ 6) + 5 * (κ 7) + 4 * (κ 8) + 4 * (κ 9) + 4 * (κ 10) + 4 * (κ 11) + 5 * (κ 12) + 4 * (κ 13) + 3 * (κ 14) + 1 * (κ 15) ≤ 5 * (wl (κ 6) ((κ 0 + 1))) + 5 * (wl (κ 7) ((κ 0 + 1))) + 4 * (κ 8) + 4 * (wl (κ 9) (κ 0 + 1)) + 4 * (wl (κ 10) (κ 0 + 1)) + 4 * (wl (κ 11) (κ 0 + 1)) + 5 * (κ 12) + 4 * (κ 13) + 3 * (κ 14) + 1 * (wl (κ 15) ((κ 0 + 1))); omega) (by show 0 + (0 + wc (κ 11) (κ 0 + 1) + wc (κ 11) (κ 0 + 1) + wc (κ 11) (κ 0 + 1) + wc (κ 11) (κ 0 + 1)) + (0 + wc (κ 6) ((κ 0 + 1)) + wc (κ 6) ((κ 0 + 1)) + wc (κ 6) ((κ 0 + 1)) + wc (κ 6) ((κ 0 + 1)) + wc (κ 6) ((κ 0 + 1)) + wc (κ 9) (κ 0 + 1)) + (0 + (0 + wc (κ 7) ((κ 0 + 1)) + wc (κ 7) ((κ 0 + 1)) + wc (κ 7) ((κ 0 + 1)) + wc (κ 7) ((κ 0 + 1)) + wc (κ 7) ((κ 0 + 1)) + wc (κ 10) (κ 0 + 1)) + wc (κ 15) ((κ 0 + 1))) ≤ (5 * (wl (κ 6) ((κ 0 + 1))) + 5 * (wl (κ 7) ((κ 0 + 1))) + 4 * (κ 8) + 4 * (wl (κ 9) (κ 0 + 1)) + 4 * (wl (κ 10) (κ 0 + 1)) + 4 * (wl (κ 11) (κ 0 + 1)) + 5 * (κ 12) + 4 * (κ 13) + 3 * (κ 14) + 1 * (wl (κ 15) ((κ 0 + 1)))) - (5 * (κ 6) + 5 * (κ 7) + 4 * (κ 8) + 4 * (κ 9) + 4 * (κ 10) + 4 * (κ 11) + 5 * (κ 12) + 4 * (κ 13) + 3 * (κ 14) + 1 * (κ 15)) + 1; omega) (by show 0 + (0 + wm (κ 11) (κ 0 + 1) + wm (κ 11) (κ 0 + 1) + wm (κ 11) (κ 0 + 1) + wm (κ 11) (κ 0 + 1)) + (0 + wm (κ 6) ((κ 0 + 1)) + wm (κ 6) ((κ 0 + 1)) + wm (κ 6) ((κ 0 + 1)) + wm (κ 6) ((κ 0 + 1)) + wm (κ 6) ((κ 0 + 1)) + 4 * wm (κ 9) (κ 0 + 1)) + (0 + (0 + wm (κ 7) ((κ 0 + 1)) + wm (κ 7) ((κ 0 + 1)) + wm (κ 7) ((κ 0 + 1)) + wm (κ 7) ((κ 0 + 1)) + wm (κ 7) ((κ 0 + 1)) + 4 * wm (κ 10) (κ 0 + 1)) + wm (κ 15) ((κ 0 + 1))) ≤ 2 * ((5 * (wl (κ 6) ((κ 0 + 1))) + 5 * (wl (κ 7) ((κ 0 + 1))) + 4 * (κ 8) + 4 * (wl (κ 9) (κ 0 + 1)) + 4 * (wl (κ 10) (κ 0 + 1)) + 4 * (wl (κ 11) (κ 0 + 1)) + 5 * (κ 12) + 4 * (κ 13) + 3 * (κ 14) + 1 * (wl (κ 15) ((κ 0 + 1)))) - (5 * (κ 6) + 5 * (κ 7) + 4 * (κ 8) + 4 * (κ 9) + 4 * (κ 10) + 4 * (κ 11) + 5 * (κ 12) + 4 * (κ 13) + 3 * (κ 14) + 1 * (κ 15))) + 6; omega))
    · obtain ⟨sa72, hsa72⟩ := hw0.2.2.2.1 R_TypeBook 81 "no room for a node" (in_tables_1_2 (List.mem_of_getElem? (i := 179) rfl))
      rw [hQ]
      refine tx_throw (s0 := s0) (names := ["java/lang/RuntimeException", "java/lang/Exception"]) (text := "no room for a node") (sa := sa72) S hst hX hlk (by decide +kernel) (by decide +kernel) qw_8038d8d33c qw_f529d83890 (hF0.step hA0 hS.1 hS.2.1) hsa72 (ta_ISE hW hw0) hl.1 dTypeBook_add_72 dTypeBook_add_75 dTypeBook_add_76 dTypeBook_add_78 dTypeBook_add_81 (Nat.lt_of_lt_of_le (by decide) (Nat.le_of_ble_eq_true rfl : 6 ≤ _)) (Nat.le_of_ble_eq_true rfl) (by show 0 + 1 ≤ 50000; omega) (by show 0 + 6 ≤ 1000000; omega) (fun H1 hG hz ho => ?_) hS.2.2 (by show 0 + 1 ≤ 50000; omega) (by show 0 + 6 ≤ 1000000; omega)
      exact ⟨by decide, (pb_of κ (inv_more hI ho) (show κ 3 = κ 3 from rfl) hG (by show 5 * (κ 6) + 5 * (κ 7) + 4 * (κ 8) + 4 * (κ 9) + 4 * (κ 10) + 4 * (κ 11) + 5 * (κ 12) + 4 * (κ 13) + 3 * (κ 14) + 1 * (κ 15) ≤ 5 * (κ 6) + 5 * (κ 7) + 4 * (κ 8) + 4 * (κ 9) + 4 * (κ 10) + 4 * (κ 11) + 5 * (κ 12) + 4 * (κ 13) + 3 * (κ 14) + 1 * (κ 15); omega) (by show 0 + 1 ≤ (5 * (κ 6) + 5 * (κ 7) + 4 * (κ 8) + 4 * (κ 9) + 4 * (κ 10) + 4 * (κ 11) + 5 * (κ 12) + 4 * (κ 13) + 3 * (κ 14) + 1 * (κ 15)) - (5 * (κ 6) + 5 * (κ 7) + 4 * (κ 8) + 4 * (κ 9) + 4 * (κ 10) + 4 * (κ 11) + 5 * (κ 12) + 4 * (κ 13) + 3 * (κ 14) + 1 * (κ 15)) + 1; omega) (by show 0 + 6 ≤ 2 * ((5 * (κ 6) + 5 * (κ 7) + 4 * (κ 8) + 4 * (κ 9) + 4 * (κ 10) + 4 * (κ 11) + 5 * (κ 12) + 4 * (κ 13) + 3 * (κ 14) + 1 * (κ 15)) - (5 * (κ 6) + 5 * (κ 7) + 4 * (κ 8) + 4 * (κ 9) + 4 * (κ 10) + 4 * (κ 11) + 5 * (κ 12) + 4 * (κ 13) + 3 * (κ 14) + 1 * (κ 15))) + 6; omega)), fr_more hS hz ho⟩
  have J25 : ∀ (ls : Array Slot) (H : Heap) (locs : List Loc) (i1 : Int32) (i2 : Int32) (i3 : Int32), INV γ A κ H → va_S A s.heap H locs → lv_has ls 5 [(0, .ref (γ.2.2.2 0)), (1, .int i1), (2, .int i2), (3, .int i3)] → W p l e (bs_rm 6 50000 1000000 145) s m args below meth c H locs 0 0 Q (F0 m 25 ls []) := by
    intro ls H locs i1 i2 i3 hI hS hl
    obtain ⟨sa25, hsa25⟩ := hw0.2.2.2.1 R_TypeBook 62 "no such kind, or not so many trees" (in_tables_1_2 (List.mem_of_getElem? (i := 136) rfl))
    rw [hQ]
    refine tx_throw (s0 := s0) (names := ["java/lang/RuntimeException", "java/lang/Exception"]) (text := "no such kind, or not so many trees") (sa := sa25) S hst hX hlk (by decide +kernel) (by decide +kernel) qw_b17894d46b qw_ed8d893ebf (hF0.step hA0 hS.1 hS.2.1) hsa25 (ta_IAE hW hw0) hl.1 dTypeBook_add_25 dTypeBook_add_28 dTypeBook_add_29 dTypeBook_add_31 dTypeBook_add_34 (Nat.lt_of_lt_of_le (by decide) (Nat.le_of_ble_eq_true rfl : 6 ≤ _)) (Nat.le_of_ble_eq_true rfl) (by show 0 + 1 ≤ 50000; omega) (by show 0 + 6 ≤ 1000000; omega) (fun H1 hG hz ho => ?_) hS.2.2 (by show 0 + 1 ≤ 50000; omega) (by show 0 + 6 ≤ 1000000; omega)
    exact ⟨by decide, (pb_of κ (inv_more hI ho) (show κ 3 = κ 3 from rfl) hG (by show 5 * (κ 6) + 5 * (κ 7) + 4 * (κ 8) + 4 * (κ 9) + 4 * (κ 10) + 4 * (κ 11) + 5 * (κ 12) + 4 * (κ 13) + 3 * (κ 14) + 1 * (κ 15) ≤ 5 * (κ 6) + 5 * (κ 7) + 4 * (κ 8) + 4 * (κ 9) + 4 * (κ 10) + 4 * (κ 11) + 5 * (κ 12) + 4 * (κ 13) + 3 * (κ 14) + 1 * (κ 15); omega) (by show 0 + 1 ≤ (5 * (κ 6) + 5 * (κ 7) + 4 * (κ 8) + 4 * (κ 9) + 4 * (κ 10) + 4 * (κ 11) + 5 * (κ 12) + 4 * (κ 13) + 3 * (κ 14) + 1 * (κ 15)) - (5 * (κ 6) + 5 * (κ 7) + 4 * (κ 8) + 4 * (κ 9) + 4 * (κ 10) + 4 * (κ 11) + 5 * (κ 12) + 4 * (κ 13) + 3 * (κ 14) + 1 * (κ 15)) + 1; omega) (by show 0 + 6 ≤ 2 * ((5 * (κ 6) + 5 * (κ 7) + 4 * (κ 8) + 4 * (κ 9) + 4 * (κ 10) + 4 * (κ 11) + 5 * (κ 12) + 4 * (κ 13) + 3 * (κ 14) + 1 * (κ 15)) - (5 * (κ 6) + 5 * (κ 7) + 4 * (κ 8) + 4 * (κ 9) + 4 * (κ 10) + 4 * (κ 11) + 5 * (κ 12) + 4 * (κ 13) + 3 * (κ 14) + 1 * (κ 15))) + 6; omega)), fr_more hS hz ho⟩
  refine lv_iload_n hx hb dTypeBook_add_0 rfl (lv_at hl 1 rfl) ?_
  refine lv_if_lt (tgt := 25) hx hb dTypeBook_add_1 (by decide) (fun c26 => ?_) (fun c26 => ?_)
  · refine W.up (k := 0) (n := 0) (by show 0 ≤ _; omega) (by show 0 ≤ _; omega) ?_
    exact J25 ls _ _ x1 x2 x3 hI hS (lv_sub hl [0, 1, 2, 3] rfl)
  · refine lv_iload_n hx hb dTypeBook_add_4 rfl (lv_at hl 1 rfl) ?_
    refine lv_bipush (v := 99) hx hb dTypeBook_add_5 (by decide) ?_
    refine lv_icmp_gt (tgt := 25) hx hb dTypeBook_add_7 (by decide) (fun c27 => ?_) (fun c27 => ?_)
    · refine W.up (k := 0) (n := 0) (by show 0 ≤ _; omega) (by show 0 ≤ _; omega) ?_
      exact J25 ls _ _ x1 x2 x3 hI hS (lv_sub hl [0, 1, 2, 3] rfl)
    · refine lv_iload_n hx hb dTypeBook_add_10 rfl (lv_at hl 3 rfl) ?_
      refine lv_if_lt (tgt := 25) hx hb dTypeBook_add_11 (by decide) (fun c28 => ?_) (fun c28 => ?_)
      · refine W.up (k := 0) (n := 0) (by show 0 ≤ _; omega) (by show 0 ≤ _; omega) ?_
        exact J25 ls _ _ x1 x2 x3 hI hS (lv_sub hl [0, 1, 2, 3] rfl)
      · refine lv_iload_n hx hb dTypeBook_add_14 rfl (lv_at hl 3 rfl) ?_
        refine lv_aload_n hx hb dTypeBook_add_15 rfl (lv_at hl 0 rfl) ?_
        refine of_get S hC (of_0_0 hI) in_TypeBook rfl (by decide) qw_6151ee7924 dTypeBook_add_16 ?_
        refine of_getN S hC (of_1_5 hI) in_Trees rfl (by decide) qn_cf408b0714 dTypeBook_add_19 ?_
        refine lv_topi (fun v29 ev29 => ?_)
        have ev29 : v29 = nI (κ 1) := ev29
        refine lv_icmp_le (tgt := 35) hx hb dTypeBook_add_22 (by decide) (fun c30 => ?_) (fun c30 => ?_)
        · refine lv_iload_n hx hb dTypeBook_add_35 rfl (lv_at hl 1 rfl) ?_
          refine pu_Si (rest := []) S hC (s_Trees_bearsName l γ (INV γ A κ) x1) meTrees_bearsName qw_697d580e16 ⟨Nat.le_of_ble_eq_true rfl, Nat.le_of_ble_eq_true rfl⟩ hI rfl hl.1 rfl (Nat.le_of_ble_eq_true rfl) dTypeBook_add_36 ⟨(by show _ ≤ 50000; omega), (by show _ ≤ 1000000; omega)⟩ (fun r31 hr31 => ?_)
          refine lv_if_eq (tgt := 59) hx hb dTypeBook_add_39 (by decide) (fun c32 => ?_) (fun c32 => ?_)
          · refine W.up (k := 0) (n := 0) (by show 0 ≤ _; omega) (by show 0 ≤ _; omega) ?_
            exact J59 ls _ _ x1 x2 x3 hI hS (le_ok (x := x3) (N := κ 1) (by assumption) (by assumption) (by assumption) (by omega)) (lv_sub hl [0, 1, 2, 3] rfl)
          · refine lv_iload_n hx hb dTypeBook_add_42 rfl (lv_at hl 2 rfl) ?_
            refine pu_Si (rest := []) S hC (s_TypeBook_isName l γ (INV γ A κ) x2) meTypeBook_isName qw_87c028f095 ⟨Nat.le_of_ble_eq_true rfl, Nat.le_of_ble_eq_true rfl⟩ hI rfl hl.1 rfl (Nat.le_of_ble_eq_true rfl) dTypeBook_add_43 ⟨(by show _ ≤ 50000; omega), (by show _ ≤ 1000000; omega)⟩ (fun r33 hr33 => ?_)
            refine lv_if_ne (tgt := 59) hx hb dTypeBook_add_46 (by decide) (fun c34 => ?_) (fun c34 => ?_)
            · refine W.up (k := 0) (n := 0) (by show 0 ≤ _; omega) (by show 0 ≤ _; omega) ?_
              exact J59 ls _ _ x1 x2 x3 hI hS (le_ok (x := x3) (N := κ 1) (by assumption) (by assumption) (by assumption) (by omega)) (lv_sub hl [0, 1, 2, 3] rfl)
            · obtain ⟨sa49, hsa49⟩ := hw0.2.2.2.1 R_TypeBook 74 "no such name" (in_tables_1_2 (List.mem_of_getElem? (i := 169) rfl))
              rw [hQ]
              refine tx_throw (s0 := s0) (names := ["java/lang/RuntimeException", "java/lang/Exception"]) (text := "no such name") (sa := sa49) S hst hX hlk (by decide +kernel) (by decide +kernel) qw_b17894d46b qw_ed8d893ebf (hF0.step hA0 hS.1 hS.2.1) hsa49 (ta_IAE hW hw0) hl.1 dTypeBook_add_49 dTypeBook_add_52 dTypeBook_add_53 dTypeBook_add_55 dTypeBook_add_58 (Nat.lt_of_lt_of_le (by decide) (Nat.le_of_ble_eq_true rfl : 6 ≤ _)) (Nat.le_of_ble_eq_true rfl) (by show 0 + 1 ≤ 50000; omega) (by show 0 + 6 ≤ 1000000; omega) (fun H1 hG hz ho => ?_) hS.2.2 (by show 0 + 1 ≤ 50000; omega) (by show 0 + 6 ≤ 1000000; omega)
              exact ⟨by decide, (pb_of κ (inv_more hI ho) (show κ 3 = κ 3 from rfl) hG (by show 5 * (κ 6) + 5 * (κ 7) + 4 * (κ 8) + 4 * (κ 9) + 4 * (κ 10) + 4 * (κ 11) + 5 * (κ 12) + 4 * (κ 13) + 3 * (κ 14) + 1 * (κ 15) ≤ 5 * (κ 6) + 5 * (κ 7) + 4 * (κ 8) + 4 * (κ 9) + 4 * (κ 10) + 4 * (κ 11) + 5 * (κ 12) + 4 * (κ 13) + 3 * (κ 14) + 1 * (κ 15); omega) (by show 0 + 1 ≤ (5 * (κ 6) + 5 * (κ 7) + 4 * (κ 8) + 4 * (κ 9) + 4 * (κ 10) + 4 * (κ 11) + 5 * (κ 12) + 4 * (κ 13) + 3 * (κ 14) + 1 * (κ 15)) - (5 * (κ 6) + 5 * (κ 7) + 4 * (κ 8) + 4 * (κ 9) + 4 * (κ 10) + 4 * (κ 11) + 5 * (κ 12) + 4 * (κ 13) + 3 * (κ 14) + 1 * (κ 15)) + 1; omega) (by show 0 + 6 ≤ 2 * ((5 * (κ 6) + 5 * (κ 7) + 4 * (κ 8) + 4 * (κ 9) + 4 * (κ 10) + 4 * (κ 11) + 5 * (κ 12) + 4 * (κ 13) + 3 * (κ 14) + 1 * (κ 15)) - (5 * (κ 6) + 5 * (κ 7) + 4 * (κ 8) + 4 * (κ 9) + 4 * (κ 10) + 4 * (κ 11) + 5 * (κ 12) + 4 * (κ 13) + 3 * (κ 14) + 1 * (κ 15))) + 6; omega)), fr_more hS hz ho⟩
        · refine W.up (k := 0) (n := 0) (by show 0 ≤ _; omega) (by show 0 ≤ _; omega) ?_
          exact J25 ls _ _ x1 x2 x3 hI hS (lv_sub hl [0, 1, 2, 3] rfl)
