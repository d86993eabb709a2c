theorem qn_cf408b0714 : (Cond.fieldLinkNest R_TypeBook 57 R_Trees "roots" "I" "TypeBook") ∈ lw_tbl := in_tables_1_1 (List.mem_of_getElem? (i := 45) rfl)
theorem qw_697d580e16 : (Cond.methodLink R_TypeBook 67 yTrees_bearsName) ∈ bs_W0 := bs_in (in_tables_1_2 (List.mem_of_getElem? (i := 163) rfl)) rfl
theorem qw_87c028f095 : (Cond.methodLink R_TypeBook 71 yTypeBook_isName) ∈ bs_W0 := bs_in (in_tables_1_2 (List.mem_of_getElem? (i := 166) rfl)) rfl
theorem qw_b17894d46b : (Cond.classLink R_TypeBook 60 "java/lang/IllegalArgumentException") ∈ bs_W0 := bs_in (in_tables_1_2 (List.mem_of_getElem? (i := 95) rfl)) rfl
theorem qw_ed8d893ebf : (Cond.initialized "java/lang/IllegalArgumentException") ∈ bs_W0 := bs_in (in_tables_1_1 (List.mem_of_getElem? (i := 18) rfl)) rfl
theorem qn_307125c060 : (Cond.fieldLinkNest R_TypeBook 76 R_Trees "size" "I" "TypeBook") ∈ lw_tbl := in_tables_1_1 (List.mem_of_getElem? (i := 43) rfl)
theorem qw_d8f39e7603 : (Cond.methodLink R_TypeBook 84 yTrees_grow) ∈ bs_W0 := bs_in (in_tables_1_2 (List.mem_of_getElem? (i := 186) rfl)) rfl
theorem qw_ce6a8385d0 : (Cond.fieldLink R_TypeBook 40 R_TypeBook "known" "LTypeBook$Looks;") ∈ bs_W0 := bs_in (in_tables_1_2 (List.mem_of_getElem? (i := 56) rfl)) rfl
theorem qw_23eabf8a60 : (Cond.methodLink R_TypeBook 88 yLooks_makeRoom) ∈ bs_W0 := bs_in (in_tables_1_2 (List.mem_of_getElem? (i := 199) rfl)) rfl
theorem qw_58d2a16fbc : (Cond.methodLink R_TypeBook 92 yLooks_forget) ∈ bs_W0 := bs_in (in_tables_1_2 (List.mem_of_getElem? (i := 216) rfl)) rfl
theorem qw_130a6323a2 : (Cond.fieldLink R_TypeBook 49 R_TypeBook "looker" "LTypeBook$Looker;") ∈ bs_W0 := bs_in (in_tables_1_2 (List.mem_of_getElem? (i := 57) rfl)) rfl
theorem qw_524cf24ff5 : (Cond.methodLink R_TypeBook 95 yLooker_makeRoom) ∈ bs_W0 := bs_in (in_tables_1_2 (List.mem_of_getElem? (i := 224) rfl)) rfl
theorem qw_8038d8d33c : (Cond.classLink R_TypeBook 79 "java/lang/IllegalStateException") ∈ bs_W0 := bs_in (in_tables_1_2 (List.mem_of_getElem? (i := 170) rfl)) rfl
theorem qw_f529d83890 : (Cond.initialized "java/lang/IllegalStateException") ∈ bs_W0 := bs_in (in_tables_1_1 (List.mem_of_getElem? (i := 19) rfl)) rfl
set_option maxHeartbeats 4000000 in
set_option maxRecDepth 100000 in
theorem x_add (l : Launch) (hst : l.stackTraces = false) (γ : gE) (A : Nat → Prop) (κ : Nat → Nat) (s0 : State) (hw0 : SW s0) (hA0 : ∀ q, A q → s0.heap.size ≤ q) (H0 : Heap) (x1 : Int32) (x2 : Int32) (x3 : Int32) : XM l yTypeBook_add bTypeBook_add 5 (some .int) 6 145 50000 1000000 [.ref (γ.2.2.2 0), .int x1, .int x2, .int x3] γ A (fun U => FB s0 U U.heap ∧ U.heap = H0 ∧ INV γ A κ U.heap) (mQi (fun r H => (¬ BA (κ 1) x1 x2 x3 ∧ κ 0 < 4000 ∧ r = nI (κ 0)) ∧ PB γ A κ H0 (fun κ' => κ' 3 = κ 3 ∧ κ' 0 = κ 0 + 1 ∧ ∃ k, x3 = nI k ∧ k ≤ κ 1 ∧ κ' 1 = κ 1 + 1 - k) H) A) (fun E H => E ∈ ["java/lang/IllegalArgumentException", "java/lang/IllegalStateException"] ∧ ((E = "java/lang/IllegalArgumentException" ∧ BA (κ 1) x1 x2 x3) ∨ (E = "java/lang/IllegalStateException" ∧ ¬ BA (κ 1) x1 x2 x3 ∧ 4000 ≤ κ 0)) ∧ PB γ A κ H0 (fun κ' => κ' 3 = κ 3 ∧ κ' 0 = κ 0 ∧ κ' 1 = κ 1) H ∧ fr_A A H0 H) := by
  refine tx_openI (by decide) (Nat.le_of_ble_eq_true rfl) ?_
  intro p e s m args below meth c ls Q S hret hlk hX hC hA hP hQ hl
  obtain ⟨hF0, hH0, hI⟩ := hP
  subst hH0
  obtain ⟨hx, hb, hml, hown, hW⟩ := id S
  have hS : va_S A s.heap s.heap [] := va_S.rf
  have hl : lv_has ls 5 [(0, .ref (γ.2.2.2 0)), (1, .int x1), (2, .int x2), (3, .int x3)] := hl
  obtain ⟨hlen, hsz⟩ := inv_len hI
  have J59 : ∀ (ls : Array Slot) (H : Heap) (locs : List Loc) (i1 : Int32) (i2 : Int32) (i3 : Int32), INV γ A κ H → va_S A s.heap H locs → (∃ k3, k3 ≤ κ 1 ∧ i3 = nI k3) → (¬ BA (κ 1) x1 x2 x3) → (i3 = x3) → lv_has ls 5 [(0, .ref (γ.2.2.2 0)), (1, .int i1), (2, .int i2), (3, .int i3)] → W p l e (bs_rm 6 50000 1000000 145) s m args below meth c H locs 0 0 Q (F0 m 59 ls []) := by
    intro ls H locs i1 i2 i3 hI hS ⟨k3, hk3, ei3⟩ hok ex3 hl
    refine lv_aload_n hx hb dTypeBook_add_59 rfl (lv_at hl 0 rfl) ?_
    refine of_get S hC (of_0_0 hI) in_TypeBook rfl (by decide) qw_6151ee7924 dTypeBook_add_60 ?_
    refine of_getN S hC (of_1_4 hI) in_Trees rfl (by decide) qn_307125c060 dTypeBook_add_63 ?_
    refine lv_topi (fun v18 ev18 => ?_)
    have ev18 : v18 = nI (κ 0) := ev18
    refine lv_sipush (v := 4000) hx hb dTypeBook_add_66 (by decide) ?_
    refine lv_icmp_lt (tgt := 82) hx hb dTypeBook_add_69 (by decide) (fun c19 => ?_) (fun c19 => ?_)
    · have hN : κ 0 < 4000 := lt_ok (M := 4000) (by assumption) rfl (by assumption) (by omega) (by omega)
      have hwc11 := wcm (n := κ 11) (N := κ 0 + 1) (by omega) (by omega)
      have hwc6 := wcm (n := κ 6) (N := κ 0 + 1) (by omega) (by omega)
      have hwc9 := wcm (n := κ 9) (N := κ 0 + 1) (by omega) (by omega)
      have hwc7 := wcm (n := κ 7) (N := κ 0 + 1) (by omega) (by omega)
      have hwc10 := wcm (n := κ 10) (N := κ 0 + 1) (by omega) (by omega)
      have hwc15 := wcm (n := κ 15) (N := κ 0 + 1) (by omega) (by omega)
      refine lv_aload_n hx hb dTypeBook_add_82 rfl (lv_at hl 0 rfl) ?_
      refine of_get S hC (of_0_0 hI) in_TypeBook rfl (by decide) qw_6151ee7924 dTypeBook_add_83 ?_
      refine lv_iload_n hx hb dTypeBook_add_86 rfl (lv_at hl 1 rfl) ?_
      refine lv_iload_n hx hb dTypeBook_add_87 rfl (lv_at hl 2 rfl) ?_
      refine lv_iload_n hx hb dTypeBook_add_88 rfl (lv_at hl 3 rfl) ?_
      obtain rfl : i3 = nI (k3) := ei3
      refine mu_Vi (rest := []) S hC (fun q h => hA q (Nat.le_trans hS.1 h)) (fun q h => h) hS (k1_Trees_grow l γ A κ i1 i2 k3 (by show κ 0 ≤ 4000; omega) (by show k3 ≤ κ 1; omega)) meTrees_grow qw_d8f39e7603 ⟨Nat.le_of_ble_eq_true rfl, Nat.le_of_ble_eq_true rfl⟩ (rv_1 hC hI) hI rfl hl.1 rfl (Nat.le_of_ble_eq_true rfl) dTypeBook_add_89 ⟨(by show 0 + (0 + wc (κ 11) (κ 0 + 1) + wc (κ 11) (κ 0 + 1) + wc (κ 11) (κ 0 + 1) + wc (κ 11) (κ 0 + 1)) ≤ 50000; omega), (by show 0 + (0 + wm (κ 11) (κ 0 + 1) + wm (κ 11) (κ 0 + 1) + wm (κ 11) (κ 0 + 1) + wm (κ 11) (κ 0 + 1)) ≤ 1000000; omega)⟩ (fun r20 H locs ⟨hr20, hI⟩ hS _ _ => ?_)
      refine W.cs (cells' := 0 + (0 + wc (κ 11) (κ 0 + 1) + wc (κ 11) (κ 0 + 1) + wc (κ 11) (κ 0 + 1) + wc (κ 11) (κ 0 + 1))) (slots' := 0 + (0 + wm (κ 11) (κ 0 + 1) + wm (κ 11) (κ 0 + 1) + wm (κ 11) (κ 0 + 1) + wm (κ 11) (κ 0 + 1))) rfl rfl ?_
      have hI : INV γ A (ku (ku (ku κ 0 (κ 0 + 1)) 1 (κ 1 + 1 - k3)) 11 (wl (κ 11) (κ 0 + 1))) _ := hI
      have er20 : r20 = nI (κ 0) := hr20
      refine lv_istore (lv' := [(4, .int r20), (0, .ref (γ.2.2.2 0)), (1, .int i1), (2, .int i2), (3, .int (nI (k3)))]) hx hb dTypeBook_add_92 hl (by decide) rfl (fun ls hl => ?_)
      refine lv_aload_n hx hb dTypeBook_add_94 rfl (lv_at hl 1 rfl) ?_
      refine of_get S hC (of_0_4 hI) in_TypeBook rfl (by decide) qw_ce6a8385d0 dTypeBook_add_95 ?_
      refine lv_aload_n hx hb dTypeBook_add_98 rfl (lv_at hl 1 rfl) ?_
      refine of_get S hC (of_0_0 hI) in_TypeBook rfl (by decide) qw_6151ee7924 dTypeBook_add_99 ?_
      refine of_getN S hC (of_1_4 hI) in_Trees rfl (by decide) qn_307125c060 dTypeBook_add_102 ?_
      refine lv_topi (fun v21 ev21 => ?_)
      have ev21 : v21 = nI (κ 0 + 1) := ev21
      obtain rfl : v21 = nI (κ 0 + 1) := ev21
      refine mu_Vv (rest := []) S hC (fun q h => hA q (Nat.le_trans hS.1 h)) (fun q h => h) hS (k6_Looks_makeRoom l γ A (ku (ku (ku κ 0 (κ 0 + 1)) 1 (κ 1 + 1 - k3)) 11 (wl (κ 11) (κ 0 + 1))) (κ 0 + 1) (by omega)) meLooks_makeRoom qw_23eabf8a60 ⟨Nat.le_of_ble_eq_true rfl, Nat.le_of_ble_eq_true rfl⟩ (rv_6 hC hI) hI rfl hl.1 rfl (Nat.le_of_ble_eq_true rfl) dTypeBook_add_105 ⟨(by show 0 + (0 + wc (κ 11) (κ 0 + 1) + wc (κ 11) (κ 0 + 1) + wc (κ 11) (κ 0 + 1) + wc (κ 11) (κ 0 + 1)) + (0 + wc (κ 6) ((κ 0 + 1)) + wc (κ 6) ((κ 0 + 1)) + wc (κ 6) ((κ 0 + 1)) + wc (κ 6) ((κ 0 + 1)) + wc (κ 6) ((κ 0 + 1)) + wc (κ 9) (κ 0 + 1)) ≤ 50000; omega), (by show 0 + (0 + wm (κ 11) (κ 0 + 1) + wm (κ 11) (κ 0 + 1) + wm (κ 11) (κ 0 + 1) + wm (κ 11) (κ 0 + 1)) + (0 + wm (κ 6) ((κ 0 + 1)) + wm (κ 6) ((κ 0 + 1)) + wm (κ 6) ((κ 0 + 1)) + wm (κ 6) ((κ 0 + 1)) + wm (κ 6) ((κ 0 + 1)) + 4 * wm (κ 9) (κ 0 + 1)) ≤ 1000000; omega)⟩ (fun H locs hI hS _ _ => ?_)
      refine W.cs (cells' := 0 + (0 + wc (κ 11) (κ 0 + 1) + wc (κ 11) (κ 0 + 1) + wc (κ 11) (κ 0 + 1) + wc (κ 11) (κ 0 + 1)) + (0 + wc (κ 6) ((κ 0 + 1)) + wc (κ 6) ((κ 0 + 1)) + wc (κ 6) ((κ 0 + 1)) + wc (κ 6) ((κ 0 + 1)) + wc (κ 6) ((κ 0 + 1)) + wc (κ 9) (κ 0 + 1))) (slots' := 0 + (0 + wm (κ 11) (κ 0 + 1) + wm (κ 11) (κ 0 + 1) + wm (κ 11) (κ 0 + 1) + wm (κ 11) (κ 0 + 1)) + (0 + wm (κ 6) ((κ 0 + 1)) + wm (κ 6) ((κ 0 + 1)) + wm (κ 6) ((κ 0 + 1)) + wm (κ 6) ((κ 0 + 1)) + wm (κ 6) ((κ 0 + 1)) + 4 * wm (κ 9) (κ 0 + 1))) rfl rfl ?_
      have hI : INV γ A (ku (ku (ku (ku (ku κ 0 (κ 0 + 1)) 1 (κ 1 + 1 - k3)) 11 (wl (κ 11) (κ 0 + 1))) 6 (wl (κ 6) ((κ 0 + 1)))) 9 (wl (κ 9) (κ 0 + 1))) _ := hI
      refine lv_aload_n hx hb dTypeBook_add_108 rfl (lv_at hl 1 rfl) ?_
      refine of_get S hC (of_0_4 hI) in_TypeBook rfl (by decide) qw_ce6a8385d0 dTypeBook_add_109 ?_
      refine lv_iload hx hb dTypeBook_add_112 (lv_at hl 0 rfl) ?_
      refine mu_Vv (rest := []) S hC (fun q h => hA q (Nat.le_trans hS.1 h)) (fun q h => h) hS (k6_Looks_forget l γ A (ku (ku (ku (ku (ku κ 0 (κ 0 + 1)) 1 (κ 1 + 1 - k3)) 11 (wl (κ 11) (κ 0 + 1))) 6 (wl (κ 6) ((κ 0 + 1)))) 9 (wl (κ 9) (κ 0 + 1))) r20) meLooks_forget qw_58d2a16fbc ⟨Nat.le_of_ble_eq_true rfl, Nat.le_of_ble_eq_true rfl⟩ (rv_6 hC hI) hI rfl hl.1 rfl (Nat.le_of_ble_eq_true rfl) dTypeBook_add_114 ⟨(by show 0 + (0 + wc (κ 11) (κ 0 + 1) + wc (κ 11) (κ 0 + 1) + wc (κ 11) (κ 0 + 1) + wc (κ 11) (κ 0 + 1)) + (0 + wc (κ 6) ((κ 0 + 1)) + wc (κ 6) ((κ 0 + 1)) + wc (κ 6) ((κ 0 + 1)) + wc (κ 6) ((κ 0 + 1)) + wc (κ 6) ((κ 0 + 1)) + wc (κ 9) (κ 0 + 1)) + 0 ≤ 50000; omega), (by show 0 + (0 + wm (κ 11) (κ 0 + 1) + wm (κ 11) (κ 0 + 1) + wm (κ 11) (κ 0 + 1) + wm (κ 11) (κ 0 + 1)) + (0 + wm (κ 6) ((κ 0 + 1)) + wm (κ 6) ((κ 0 + 1)) + wm (κ 6) ((κ 0 + 1)) + wm (κ 6) ((κ 0 + 1)) + wm (κ 6) ((κ 0 + 1)) + 4 * wm (κ 9) (κ 0 + 1)) + 0 ≤ 1000000; omega)⟩ (fun H locs hI hS _ _ => ?_)
      refine lv_aload_n hx hb dTypeBook_add_117 rfl (lv_at hl 1 rfl) ?_
      refine of_get S hC (of_0_5 hI) in_TypeBook rfl (by decide) qw_130a6323a2 dTypeBook_add_118 ?_
      refine lv_aload_n hx hb dTypeBook_add_121 rfl (lv_at hl 1 rfl) ?_
      refine of_get S hC (of_0_0 hI) in_TypeBook rfl (by decide) qw_6151ee7924 dTypeBook_add_122 ?_
      refine of_getN S hC (of_1_4 hI) in_Trees rfl (by decide) qn_307125c060 dTypeBook_add_125 ?_
      refine lv_topi (fun v24 ev24 => ?_)
      have ev24 : v24 = nI (κ 0 + 1) := ev24
      obtain rfl : v24 = nI (κ 0 + 1) := ev24
      refine mu_Vv (rest := []) S hC (fun q h => hA q (Nat.le_trans hS.1 h)) (fun q h => h) hS (k_Looker_makeRoom l γ A (ku (ku (ku (ku (ku κ 0 (κ 0 + 1)) 1 (κ 1 + 1 - k3)) 11 (wl (κ 11) (κ 0 + 1))) 6 (wl (κ 6) ((κ 0 + 1)))) 9 (wl (κ 9) (κ 0 + 1))) (κ 0 + 1) (by omega)) meLooker_makeRoom qw_524cf24ff5 ⟨Nat.le_of_ble_eq_true rfl, Nat.le_of_ble_eq_true rfl⟩ (rv_8 hC hI) hI rfl hl.1 rfl (Nat.le_of_ble_eq_true rfl) dTypeBook_add_128 ⟨(by show 0 + (0 + wc (κ 11) (κ 0 + 1) + wc (κ 11) (κ 0 + 1) + wc (κ 11) (κ 0 + 1) + wc (κ 11) (κ 0 + 1)) + (0 + wc (κ 6) ((κ 0 + 1)) + wc (κ 6) ((κ 0 + 1)) + wc (κ 6) ((κ 0 + 1)) + wc (κ 6) ((κ 0 + 1)) + wc (κ 6) ((κ 0 + 1)) + wc (κ 9) (κ 0 + 1)) + (0 + (0 + wc (κ 7) ((κ 0 + 1)) + wc (κ 7) ((κ 0 + 1)) + wc (κ 7) ((κ 0 + 1)) + wc (κ 7) ((κ 0 + 1)) + wc (κ 7) ((κ 0 + 1)) + wc (κ 10) (κ 0 + 1)) + wc (κ 15) ((κ 0 + 1))) ≤ 50000; omega), (by show 0 + (0 + wm (κ 11) (κ 0 + 1) + wm (κ 11) (κ 0 + 1) + wm (κ 11) (κ 0 + 1) + wm (κ 11) (κ 0 + 1)) + (0 + wm (κ 6) ((κ 0 + 1)) + wm (κ 6) ((κ 0 + 1)) + wm (κ 6) ((κ 0 + 1)) + wm (κ 6) ((κ 0 + 1)) + wm (κ 6) ((κ 0 + 1)) + 4 * wm (κ 9) (κ 0 + 1)) + (0 + (0 + wm (κ 7) ((κ 0 + 1)) + wm (κ 7) ((κ 0 + 1)) + wm (κ 7) ((κ 0 + 1)) + wm (κ 7) ((κ 0 + 1)) + wm (κ 7) ((κ 0 + 1)) + 4 * wm (κ 10) (κ 0 + 1)) + wm (κ 15) ((κ 0 + 1))) ≤ 1000000; omega)⟩ (fun H locs hI hS _ _ => ?_)
      refine W.cs (cells' := 0 + (0 + wc (κ 11) (κ 0 + 1) + wc (κ 11) (κ 0 + 1) + wc (κ 11) (κ 0 + 1) + wc (κ 11) (κ 0 + 1)) + (0 + wc (κ 6) ((κ 0 + 1)) + wc (κ 6) ((κ 0 + 1)) + wc (κ 6) ((κ 0 + 1)) + wc (κ 6) ((κ 0 + 1)) + wc (κ 6) ((κ 0 + 1)) + wc (κ 9) (κ 0 + 1)) + (0 + (0 + wc (κ 7) ((κ 0 + 1)) + wc (κ 7) ((κ 0 + 1)) + wc (κ 7) ((κ 0 + 1)) + wc (κ 7) ((κ 0 + 1)) + wc (κ 7) ((κ 0 + 1)) + wc (κ 10) (κ 0 + 1)) + wc (κ 15) ((κ 0 + 1)))) (slots' := 0 + (0 + wm (κ 11) (κ 0 + 1) + wm (κ 11) (κ 0 + 1) + wm (κ 11) (κ 0 + 1) + wm (κ 11) (κ 0 + 1)) + (0 + wm (κ 6) ((κ 0 + 1)) + wm (κ 6) ((κ 0 + 1)) + wm (κ 6) ((κ 0 + 1)) + wm (κ 6) ((κ 0 + 1)) + wm (κ 6) ((κ 0 + 1)) + 4 * wm (κ 9) (κ 0 + 1)) + (0 + (0 + wm (κ 7) ((κ 0 + 1)) + wm (κ 7) ((κ 0 + 1)) + wm (κ 7) ((κ 0 + 1)) + wm (κ 7) ((κ 0 + 1)) + wm (κ 7) ((κ 0 + 1)) + 4 * wm (κ 10) (κ 0 + 1)) + wm (κ 15) ((κ 0 + 1)))) rfl rfl ?_
      have hI : INV γ A (ku (ku (ku (ku (ku (ku (ku (ku κ 0 (κ 0 + 1)) 1 (κ 1 + 1 - k3)) 11 (wl (κ 11) (κ 0 + 1))) 6 (wl (κ 6) ((κ 0 + 1)))) 9 (wl (κ 9) (κ 0 + 1))) 7 (wl (κ 7) ((κ 0 + 1)))) 10 (wl (κ 10) (κ 0 + 1))) 15 (wl (κ 15) ((κ 0 + 1)))) _ := hI
      refine lv_iload hx hb dTypeBook_add_131 (lv_at hl 0 rfl) ?_
      rw [hQ]
      refine tx_endI S hret hlk hS (by show 0 + (0 + wc (κ 11) (κ 0 + 1) + wc (κ 11) (κ 0 + 1) + wc (κ 11) (κ 0 + 1) + wc (κ 11) (κ 0 + 1)) + (0 + wc (κ 6) ((κ 0 + 1)) + wc (κ 6) ((κ 0 + 1)) + wc (κ 6) ((κ 0 + 1)) + wc (κ 6) ((κ 0 + 1)) + wc (κ 6) ((κ 0 + 1)) + wc (κ 9) (κ 0 + 1)) + (0 + (0 + wc (κ 7) ((κ 0 + 1)) + wc (κ 7) ((κ 0 + 1)) + wc (κ 7) ((κ 0 + 1)) + wc (κ 7) ((κ 0 + 1)) + wc (κ 7) ((κ 0 + 1)) + wc (κ 10) (κ 0 + 1)) + wc (κ 15) ((κ 0 + 1))) ≤ 50000; omega) (by show 0 + (0 + wm (κ 11) (κ 0 + 1) + wm (κ 11) (κ 0 + 1) + wm (κ 11) (κ 0 + 1) + wm (κ 11) (κ 0 + 1)) + (0 + wm (κ 6) ((κ 0 + 1)) + wm (κ 6) ((κ 0 + 1)) + wm (κ 6) ((κ 0 + 1)) + wm (κ 6) ((κ 0 + 1)) + wm (κ 6) ((κ 0 + 1)) + 4 * wm (κ 9) (κ 0 + 1)) + (0 + (0 + wm (κ 7) ((κ 0 + 1)) + wm (κ 7) ((κ 0 + 1)) + wm (κ 7) ((κ 0 + 1)) + wm (κ 7) ((κ 0 + 1)) + wm (κ 7) ((κ 0 + 1)) + 4 * wm (κ 10) (κ 0 + 1)) + wm (κ 15) ((κ 0 + 1))) ≤ 1000000; omega) (fun hG => ?_) dTypeBook_add_133
      exact ⟨⟨hok, hN, by assumption⟩, (pb_of (ku (ku (ku (ku (ku (ku (ku (ku κ 0 (κ 0 + 1)) 1 (κ 1 + 1 - k3)) 11 (wl (κ 11) (κ 0 + 1))) 6 (wl (κ 6) ((κ 0 + 1)))) 9 (wl (κ 9) (κ 0 + 1))) 7 (wl (κ 7) ((κ 0 + 1)))) 10 (wl (κ 10) (κ 0 + 1))) 15 (wl (κ 15) ((κ 0 + 1)))) hI (show κ 3 = κ 3 ∧ κ 0 + 1 = κ 0 + 1 ∧ ∃ k, x3 = nI k ∧ k ≤ κ 1 ∧ κ 1 + 1 - k3 = κ 1 + 1 - k from ⟨rfl, rfl, k3, ex3.symm, hk3, rfl⟩) hG (by show 5 * (κ 6) + 5 * (κ 7) + 4 * (κ 8) + 4 * (κ 9) + 4 * (κ 10) + 4 * (κ 11) + 5 * (κ 12) + 4 * (κ 13) + 3 * (κ 14) + 1 * (κ 15) ≤ 5 * (wl (κ 6) ((κ 0 + 1))) + 5 * (wl (κ 7) ((κ 0 + 1))) + 4 * (κ 8) + 4 * (wl (κ 9) (κ 0 + 1)) + 4 * (wl (κ 10) (κ 0 + 1)) + 4 * (wl (κ 11) (κ 0 + 1)) + 5 * (κ 12) + 4 * (κ 13) + 3 * (κ 14) + 1 * (wl (κ 15) ((κ 0 + 1))); omega) (by show 0 + (0 + wc (κ 11) (κ 0 + 1) + wc (κ 11) (κ 0 + 1) + wc (κ 11) (κ 0 + 1) + wc (κ 11) (κ 0 + 1)) + (0 + wc (κ 6) ((κ 0 + 1)) + wc (κ 6) ((κ 0 + 1)) + wc (κ 6) ((κ 0 + 1)) + wc (κ 6) ((κ 0 + 1)) + wc (κ 6) ((κ 0 + 1)) + wc (κ 9) (κ 0 + 1)) + (0 + (0 + wc (κ 7) ((κ 0 + 1)) + wc (κ 7) ((κ 0 + 1)) + wc (κ 7) ((κ 0 + 1)) + wc (κ 7) ((κ 0 + 1)) + wc (κ 7) ((κ 0 + 1)) + wc (κ 10) (κ 0 + 1)) + wc (κ 15) ((κ 0 + 1))) ≤ (5 * (wl (κ 6) ((κ 0 + 1))) + 5 * (wl (κ 7) ((κ 0 + 1))) + 4 * (κ 8) + 4 * (wl (κ 9) (κ 0 + 1)) + 4 * (wl (κ 10) (κ 0 + 1)) + 4 * (wl (κ 11) (κ 0 + 1)) + 5 * (κ 12) + 4 * (κ 13) + 3 * (κ 14) + 1 * (wl (κ 15) ((κ 0 + 1)))) - (5 * (κ 6) + 5 * (κ 7) + 4 * (κ 8) + 4 * (κ 9) + 4 * (κ 10) + 4 * (κ 11) + 5 * (κ 12) + 4 * (κ 13) + 3 * (κ 14) + 1 * (κ 15)) + 1; omega) (by show 0 + (0 + wm (κ 11) (κ 0 + 1) + wm (κ 11) (κ 0 + 1) + wm (κ 11) (κ 0 + 1) + wm (κ 11) (κ 0 + 1)) + (0 + wm (κ 6) ((κ 0 + 1)) + wm (κ 6) ((κ 0 + 1)) + wm (κ 6) ((κ 0 + 1)) + wm (κ 6) ((κ 0 + 1)) + wm (κ 6) ((κ 0 + 1)) + 4 * wm (κ 9) (κ 0 + 1)) + (0 + (0 + wm (κ 7) ((κ 0 + 1)) + wm (κ 7) ((κ 0 + 1)) + wm (κ 7) ((κ 0 + 1)) + wm (κ 7) ((κ 0 + 1)) + wm (κ 7) ((κ 0 + 1)) + 4 * wm (κ 10) (κ 0 + 1)) + wm (κ 15) ((κ 0 + 1))) ≤ 2 * ((5 * (wl (κ 6) ((κ 0 + 1))) + 5 * (wl (κ 7) ((κ 0 + 1))) + 4 * (κ 8) + 4 * (wl (κ 9) (κ 0 + 1)) + 4 * (wl (κ 10) (κ 0 + 1)) + 4 * (wl (κ 11) (κ 0 + 1)) + 5 * (κ 12) + 4 * (κ 13) + 3 * (κ 14) + 1 * (wl (κ 15) ((κ 0 + 1)))) - (5 * (κ 6) + 5 * (κ 7) + 4 * (κ 8) + 4 * (κ 9) + 4 * (κ 10) + 4 * (κ 11) + 5 * (κ 12) + 4 * (κ 13) + 3 * (κ 14) + 1 * (κ 15))) + 6; omega))⟩
    · obtain ⟨sa72, hsa72⟩ := hw0.2.2.2.1 R_TypeBook 81 "no room for a node" (in_tables_1_2 (List.mem_of_getElem? (i := 179) rfl))
      rw [hQ]
      refine tx_throw (s0 := s0) (names := ["java/lang/RuntimeException", "java/lang/Exception"]) (text := "no room for a node") (sa := sa72) S hst hX hlk (by decide +kernel) (by decide +kernel) qw_8038d8d33c qw_f529d83890 (hF0.step hA0 hS.1 hS.2.1) hsa72 (ta_ISE hW hw0) hl.1 dTypeBook_add_72 dTypeBook_add_75 dTypeBook_add_76 dTypeBook_add_78 dTypeBook_add_81 (Nat.lt_of_lt_of_le (by decide) (Nat.le_of_ble_eq_true rfl : 6 ≤ _)) (Nat.le_of_ble_eq_true rfl) (by show 0 + 1 ≤ 50000; omega) (by show 0 + 6 ≤ 1000000; omega) (fun H1 hG hz ho => ?_) hS.2.2 (by show 0 + 1 ≤ 50000; omega) (by show 0 + 6 ≤ 1000000; omega)
      exact ⟨by decide, Or.inr ⟨rfl, hok, ge_ok (M := 4000) (by assumption) rfl (by assumption) (by omega) (by omega)⟩, (pb_of κ (inv_more hI ho) (show κ 3 = κ 3 ∧ κ 0 = κ 0 ∧ κ 1 = κ 1 from ⟨rfl, rfl, rfl⟩) hG (by show 5 * (κ 6) + 5 * (κ 7) + 4 * (κ 8) + 4 * (κ 9) + 4 * (κ 10) + 4 * (κ 11) + 5 * (κ 12) + 4 * (κ 13) + 3 * (κ 14) + 1 * (κ 15) ≤ 5 * (κ 6) + 5 * (κ 7) + 4 * (κ 8) + 4 * (κ 9) + 4 * (κ 10) + 4 * (κ 11) + 5 * (κ 12) + 4 * (κ 13) + 3 * (κ 14) + 1 * (κ 15); omega) (by show 0 + 1 ≤ (5 * (κ 6) + 5 * (κ 7) + 4 * (κ 8) + 4 * (κ 9) + 4 * (κ 10) + 4 * (κ 11) + 5 * (κ 12) + 4 * (κ 13) + 3 * (κ 14) + 1 * (κ 15)) - (5 * (κ 6) + 5 * (κ 7) + 4 * (κ 8) + 4 * (κ 9) + 4 * (κ 10) + 4 * (κ 11) + 5 * (κ 12) + 4 * (κ 13) + 3 * (κ 14) + 1 * (κ 15)) + 1; omega) (by show 0 + 6 ≤ 2 * ((5 * (κ 6) + 5 * (κ 7) + 4 * (κ 8) + 4 * (κ 9) + 4 * (κ 10) + 4 * (κ 11) + 5 * (κ 12) + 4 * (κ 13) + 3 * (κ 14) + 1 * (κ 15)) - (5 * (κ 6) + 5 * (κ 7) + 4 * (κ 8) + 4 * (κ 9) + 4 * (κ 10) + 4 * (κ 11) + 5 * (κ 12) + 4 * (κ 13) + 3 * (κ 14) + 1 * (κ 15))) + 6; omega)), fr_more hS hz ho⟩
  have J25 : ∀ (ls : Array Slot) (H : Heap) (locs : List Loc) (i1 : Int32) (i2 : Int32) (i3 : Int32), INV γ A κ H → va_S A s.heap H locs → (BA (κ 1) x1 x2 x3) → lv_has ls 5 [(0, .ref (γ.2.2.2 0)), (1, .int i1), (2, .int i2), (3, .int i3)] → W p l e (bs_rm 6 50000 1000000 145) s m args below meth c H locs 0 0 Q (F0 m 25 ls []) := by
    intro ls H locs i1 i2 i3 hI hS hbad hl
    obtain ⟨sa25, hsa25⟩ := hw0.2.2.2.1 R_TypeBook 62 "no such kind, or not so many trees" (in_tables_1_2 (List.mem_of_getElem? (i := 136) rfl))
    rw [hQ]
    refine tx_throw (s0 := s0) (names := ["java/lang/RuntimeException", "java/lang/Exception"]) (text := "no such kind, or not so many trees") (sa := sa25) S hst hX hlk (by decide +kernel) (by decide +kernel) qw_b17894d46b qw_ed8d893ebf (hF0.step hA0 hS.1 hS.2.1) hsa25 (ta_IAE hW hw0) hl.1 dTypeBook_add_25 dTypeBook_add_28 dTypeBook_add_29 dTypeBook_add_31 dTypeBook_add_34 (Nat.lt_of_lt_of_le (by decide) (Nat.le_of_ble_eq_true rfl : 6 ≤ _)) (Nat.le_of_ble_eq_true rfl) (by show 0 + 1 ≤ 50000; omega) (by show 0 + 6 ≤ 1000000; omega) (fun H1 hG hz ho => ?_) hS.2.2 (by show 0 + 1 ≤ 50000; omega) (by show 0 + 6 ≤ 1000000; omega)
    exact ⟨by decide, Or.inl ⟨rfl, hbad⟩, (pb_of κ (inv_more hI ho) (show κ 3 = κ 3 ∧ κ 0 = κ 0 ∧ κ 1 = κ 1 from ⟨rfl, rfl, rfl⟩) hG (by show 5 * (κ 6) + 5 * (κ 7) + 4 * (κ 8) + 4 * (κ 9) + 4 * (κ 10) + 4 * (κ 11) + 5 * (κ 12) + 4 * (κ 13) + 3 * (κ 14) + 1 * (κ 15) ≤ 5 * (κ 6) + 5 * (κ 7) + 4 * (κ 8) + 4 * (κ 9) + 4 * (κ 10) + 4 * (κ 11) + 5 * (κ 12) + 4 * (κ 13) + 3 * (κ 14) + 1 * (κ 15); omega) (by show 0 + 1 ≤ (5 * (κ 6) + 5 * (κ 7) + 4 * (κ 8) + 4 * (κ 9) + 4 * (κ 10) + 4 * (κ 11) + 5 * (κ 12) + 4 * (κ 13) + 3 * (κ 14) + 1 * (κ 15)) - (5 * (κ 6) + 5 * (κ 7) + 4 * (κ 8) + 4 * (κ 9) + 4 * (κ 10) + 4 * (κ 11) + 5 * (κ 12) + 4 * (κ 13) + 3 * (κ 14) + 1 * (κ 15)) + 1; omega) (by show 0 + 6 ≤ 2 * ((5 * (κ 6) + 5 * (κ 7) + 4 * (κ 8) + 4 * (κ 9) + 4 * (κ 10) + 4 * (κ 11) + 5 * (κ 12) + 4 * (κ 13) + 3 * (κ 14) + 1 * (κ 15)) - (5 * (κ 6) + 5 * (κ 7) + 4 * (κ 8) + 4 * (κ 9) + 4 * (κ 10) + 4 * (κ 11) + 5 * (κ 12) + 4 * (κ 13) + 3 * (κ 14) + 1 * (κ 15))) + 6; omega)), fr_more hS hz ho⟩
  refine lv_iload_n hx hb dTypeBook_add_0 rfl (lv_at hl 1 rfl) ?_
  refine lv_if_lt (tgt := 25) hx hb dTypeBook_add_1 (by decide) (fun c26 => ?_) (fun c26 => ?_)
  · refine W.up (k := 0) (n := 0) (by show 0 ≤ _; omega) (by show 0 ≤ _; omega) ?_
    exact J25 ls _ _ x1 x2 x3 hI hS (by first | exact Or.inl (by assumption) | exact Or.inr (Or.inl (by assumption)) | exact Or.inr (Or.inr (Or.inl (by assumption))) | exact Or.inr (Or.inr (Or.inr (Or.inl (ba_n (by assumption) (by assumption)))))) (lv_sub hl [0, 1, 2, 3] rfl)
  · refine lv_iload_n hx hb dTypeBook_add_4 rfl (lv_at hl 1 rfl) ?_
    refine lv_bipush (v := 99) hx hb dTypeBook_add_5 (by decide) ?_
    refine lv_icmp_gt (tgt := 25) hx hb dTypeBook_add_7 (by decide) (fun c27 => ?_) (fun c27 => ?_)
    · refine W.up (k := 0) (n := 0) (by show 0 ≤ _; omega) (by show 0 ≤ _; omega) ?_
      exact J25 ls _ _ x1 x2 x3 hI hS (by first | exact Or.inl (by assumption) | exact Or.inr (Or.inl (by assumption)) | exact Or.inr (Or.inr (Or.inl (by assumption))) | exact Or.inr (Or.inr (Or.inr (Or.inl (ba_n (by assumption) (by assumption)))))) (lv_sub hl [0, 1, 2, 3] rfl)
    · refine lv_iload_n hx hb dTypeBook_add_10 rfl (lv_at hl 3 rfl) ?_
      refine lv_if_lt (tgt := 25) hx hb dTypeBook_add_11 (by decide) (fun c28 => ?_) (fun c28 => ?_)
      · refine W.up (k := 0) (n := 0) (by show 0 ≤ _; omega) (by show 0 ≤ _; omega) ?_
        exact J25 ls _ _ x1 x2 x3 hI hS (by first | exact Or.inl (by assumption) | exact Or.inr (Or.inl (by assumption)) | exact Or.inr (Or.inr (Or.inl (by assumption))) | exact Or.inr (Or.inr (Or.inr (Or.inl (ba_n (by assumption) (by assumption)))))) (lv_sub hl [0, 1, 2, 3] rfl)
      · refine lv_iload_n hx hb dTypeBook_add_14 rfl (lv_at hl 3 rfl) ?_
        refine lv_aload_n hx hb dTypeBook_add_15 rfl (lv_at hl 0 rfl) ?_
        refine of_get S hC (of_0_0 hI) in_TypeBook rfl (by decide) qw_6151ee7924 dTypeBook_add_16 ?_
        refine of_getN S hC (of_1_5 hI) in_Trees rfl (by decide) qn_cf408b0714 dTypeBook_add_19 ?_
        refine lv_topi (fun v29 ev29 => ?_)
        have ev29 : v29 = nI (κ 1) := ev29
        refine lv_icmp_le (tgt := 35) hx hb dTypeBook_add_22 (by decide) (fun c30 => ?_) (fun c30 => ?_)
        · refine lv_iload_n hx hb dTypeBook_add_35 rfl (lv_at hl 1 rfl) ?_
          refine pu_Si (rest := []) S hC (s_Trees_bearsName l γ (INV γ A κ) x1) meTrees_bearsName qw_697d580e16 ⟨Nat.le_of_ble_eq_true rfl, Nat.le_of_ble_eq_true rfl⟩ hI rfl hl.1 rfl (Nat.le_of_ble_eq_true rfl) dTypeBook_add_36 ⟨(by show _ ≤ 50000; omega), (by show _ ≤ 1000000; omega)⟩ (fun r31 hr31 => ?_)
          refine lv_if_eq (tgt := 59) hx hb dTypeBook_add_39 (by decide) (fun c32 => ?_) (fun c32 => ?_)
          · refine W.up (k := 0) (n := 0) (by show 0 ≤ _; omega) (by show 0 ≤ _; omega) ?_
            exact J59 ls _ _ x1 x2 x3 hI hS (le_ok (x := x3) (N := κ 1) (by assumption) (by assumption) (by assumption) (by omega)) (ba_ok (by assumption) (by assumption) (by assumption) (by assumption) (by assumption) (by first | exact (fun h9 => bt_f (P := BN x1) (by assumption) (by assumption) h9.1) | exact (fun h9 => h9.2 (bt_t (P := GNm x2) (by assumption) (by assumption))))) rfl (lv_sub hl [0, 1, 2, 3] rfl)
          · refine lv_iload_n hx hb dTypeBook_add_42 rfl (lv_at hl 2 rfl) ?_
            refine pu_Si (rest := []) S hC (s_TypeBook_isName l γ (INV γ A κ) x2) meTypeBook_isName qw_87c028f095 ⟨Nat.le_of_ble_eq_true rfl, Nat.le_of_ble_eq_true rfl⟩ hI rfl hl.1 rfl (Nat.le_of_ble_eq_true rfl) dTypeBook_add_43 ⟨(by show _ ≤ 50000; omega), (by show _ ≤ 1000000; omega)⟩ (fun r33 hr33 => ?_)
            refine lv_if_ne (tgt := 59) hx hb dTypeBook_add_46 (by decide) (fun c34 => ?_) (fun c34 => ?_)
            · refine W.up (k := 0) (n := 0) (by show 0 ≤ _; omega) (by show 0 ≤ _; omega) ?_
              exact J59 ls _ _ x1 x2 x3 hI hS (le_ok (x := x3) (N := κ 1) (by assumption) (by assumption) (by assumption) (by omega)) (ba_ok (by assumption) (by assumption) (by assumption) (by assumption) (by assumption) (by first | exact (fun h9 => bt_f (P := BN x1) (by assumption) (by assumption) h9.1) | exact (fun h9 => h9.2 (bt_t (P := GNm x2) (by assumption) (by assumption))))) rfl (lv_sub hl [0, 1, 2, 3] rfl)
            · obtain ⟨sa49, hsa49⟩ := hw0.2.2.2.1 R_TypeBook 74 "no such name" (in_tables_1_2 (List.mem_of_getElem? (i := 169) rfl))
              rw [hQ]
              refine tx_throw (s0 := s0) (names := ["java/lang/RuntimeException", "java/lang/Exception"]) (text := "no such name") (sa := sa49) S hst hX hlk (by decide +kernel) (by decide +kernel) qw_b17894d46b qw_ed8d893ebf (hF0.step hA0 hS.1 hS.2.1) hsa49 (ta_IAE hW hw0) hl.1 dTypeBook_add_49 dTypeBook_add_52 dTypeBook_add_53 dTypeBook_add_55 dTypeBook_add_58 (Nat.lt_of_lt_of_le (by decide) (Nat.le_of_ble_eq_true rfl : 6 ≤ _)) (Nat.le_of_ble_eq_true rfl) (by show 0 + 1 ≤ 50000; omega) (by show 0 + 6 ≤ 1000000; omega) (fun H1 hG hz ho => ?_) hS.2.2 (by show 0 + 1 ≤ 50000; omega) (by show 0 + 6 ≤ 1000000; omega)
              exact ⟨by decide, Or.inl ⟨rfl, Or.inr (Or.inr (Or.inr (Or.inr ⟨bt_t (P := BN x1) (by assumption) (by assumption), bt_f (P := GNm x2) (by assumption) (by assumption)⟩)))⟩, (pb_of κ (inv_more hI ho) (show κ 3 = κ 3 ∧ κ 0 = κ 0 ∧ κ 1 = κ 1 from ⟨rfl, rfl, rfl⟩) hG (by show 5 * (κ 6) + 5 * (κ 7) + 4 * (κ 8) + 4 * (κ 9) + 4 * (κ 10) + 4 * (κ 11) + 5 * (κ 12) + 4 * (κ 13) + 3 * (κ 14) + 1 * (κ 15) ≤ 5 * (κ 6) + 5 * (κ 7) + 4 * (κ 8) + 4 * (κ 9) + 4 * (κ 10) + 4 * (κ 11) + 5 * (κ 12) + 4 * (κ 13) + 3 * (κ 14) + 1 * (κ 15); omega) (by show 0 + 1 ≤ (5 * (κ 6) + 5 * (κ 7) + 4 * (κ 8) + 4 * (κ 9) + 4 * (κ 10) + 4 * (κ 11) + 5 * (κ 12) + 4 * (κ 13) + 3 * (κ 14) + 1 * (κ 15)) - (5 * (κ 6) + 5 * (κ 7) + 4 * (κ 8) + 4 * (κ 9) + 4 * (κ 10) + 4 * (κ 11) + 5 * (κ 12) + 4 * (κ 13) + 3 * (κ 14) + 1 * (κ 15)) + 1; omega) (by show 0 + 6 ≤ 2 * ((5 * (κ 6) + 5 * (κ 7) + 4 * (κ 8) + 4 * (κ 9) + 4 * (κ 10) + 4 * (κ 11) + 5 * (κ 12) + 4 * (κ 13) + 3 * (κ 14) + 1 * (κ 15)) - (5 * (κ 6) + 5 * (κ 7) + 4 * (κ 8) + 4 * (κ 9) + 4 * (κ 10) + 4 * (κ 11) + 5 * (κ 12) + 4 * (κ 13) + 3 * (κ 14) + 1 * (κ 15))) + 6; omega)), fr_more hS hz ho⟩
        · refine W.up (k := 0) (n := 0) (by show 0 ≤ _; omega) (by show 0 ≤ _; omega) ?_
          exact J25 ls _ _ x1 x2 x3 hI hS (by first | exact Or.inl (by assumption) | exact Or.inr (Or.inl (by assumption)) | exact Or.inr (Or.inr (Or.inl (by assumption))) | exact Or.inr (Or.inr (Or.inr (Or.inl (ba_n (by assumption) (by assumption)))))) (lv_sub hl [0, 1, 2, 3] rfl)
theorem qn_75616f261a : (Cond.fieldLinkNest R_TypeBook 99 R_Names "scopes" "I" "TypeBook") ∈ lw_tbl := in_tables_1_1 (List.mem_of_getElem? (i := 108) rfl)
theorem qw_0f394564bc : (Cond.methodLink R_TypeBook 104 yNames_open) ∈ bs_W0 := bs_in (in_tables_1_2 (List.mem_of_getElem? (i := 238) rfl)) rfl
set_option maxHeartbeats 4000000 in
set_option maxRecDepth 100000 in
theorem x_enter (l : Launch) (hst : l.stackTraces = false) (γ : gE) (A : Nat → Prop) (κ : Nat → Nat) (s0 : State) (hw0 : SW s0) (hA0 : ∀ q, A q → s0.heap.size ≤ q) (H0 : Heap)  : XM l yTypeBook_enter bTypeBook_enter 1 (some .int) 6 82 50000 1000000 [.ref (γ.2.2.2 0)] γ A (fun U => FB s0 U U.heap ∧ U.heap = H0 ∧ INV γ A κ U.heap) (mQi (fun r H => (κ 3 < 32 ∧ r = nI (κ 3 + 1)) ∧ PB γ A κ H0 (fun κ' => κ' 3 = κ 3 + 1 ∧ κ' 0 = κ 0 ∧ κ' 1 = κ 1) H) A) (fun E H => E ∈ ["java/lang/IllegalStateException"] ∧ κ 3 = 32 ∧ PB γ A κ H0 (fun κ' => κ' 3 = κ 3 ∧ κ' 0 = κ 0 ∧ κ' 1 = κ 1) H ∧ fr_A A H0 H) := by
  refine tx_openI (by decide) (Nat.le_of_ble_eq_true rfl) ?_
  intro p e s m args below meth c ls Q S hret hlk hX hC hA hP hQ hl
  obtain ⟨hF0, hH0, hI⟩ := hP
  subst hH0
  obtain ⟨hx, hb, hml, hown, hW⟩ := id S
  have hS : va_S A s.heap s.heap [] := va_S.rf
  have hl : lv_has ls 1 [(0, .ref (γ.2.2.2 0))] := hl
  obtain ⟨hlen, hsz⟩ := inv_len hI
  refine lv_aload_n hx hb dTypeBook_enter_0 rfl (lv_at hl 0 rfl) ?_
  refine of_get S hC (of_0_1 hI) in_TypeBook rfl (by decide) qw_a088f6ef48 dTypeBook_enter_1 ?_
  refine of_getN S hC (of_2_8 hI) in_Names rfl (by decide) qn_75616f261a dTypeBook_enter_4 ?_
  refine lv_topi (fun v5 ev5 => ?_)
  have ev5 : v5 = nI (κ 3) := ev5
  refine lv_bipush (v := 32) hx hb dTypeBook_enter_7 (by decide) ?_
  refine lv_icmp_lt (tgt := 22) hx hb dTypeBook_enter_9 (by decide) (fun c6 => ?_) (fun c6 => ?_)
  · have hN : κ 3 < 32 := lt_ok (M := 32) (by assumption) rfl (by assumption) (by omega) (by omega)
    refine lv_aload_n hx hb dTypeBook_enter_22 rfl (lv_at hl 0 rfl) ?_
    refine of_get S hC (of_0_1 hI) in_TypeBook rfl (by decide) qw_a088f6ef48 dTypeBook_enter_23 ?_
    refine mu_Vv (rest := []) S hC (fun q h => hA q (Nat.le_trans hS.1 h)) (fun q h => h) hS (k2_Names_open l γ A κ  (by show κ 3 < 32; omega)) meNames_open qw_0f394564bc ⟨Nat.le_of_ble_eq_true rfl, Nat.le_of_ble_eq_true rfl⟩ (rv_2 hC hI) hI rfl hl.1 rfl (Nat.le_of_ble_eq_true rfl) dTypeBook_enter_26 ⟨(by show 0 + 0 ≤ 50000; omega), (by show 0 + 0 ≤ 1000000; omega)⟩ (fun H locs hI hS _ _ => ?_)
    have hI : INV γ A (ku κ 3 (κ 3 + 1)) _ := hI
    refine lv_aload_n hx hb dTypeBook_enter_29 rfl (lv_at hl 0 rfl) ?_
    refine of_get S hC (of_0_1 hI) in_TypeBook rfl (by decide) qw_a088f6ef48 dTypeBook_enter_30 ?_
    refine of_getN S hC (of_2_8 hI) in_Names rfl (by decide) qn_75616f261a dTypeBook_enter_33 ?_
    refine lv_topi (fun v8 ev8 => ?_)
    have ev8 : v8 = nI (κ 3 + 1) := ev8
    rw [hQ]
    refine tx_endI S hret hlk hS (by show 0 ≤ 50000; omega) (by show 0 ≤ 1000000; omega) (fun hG => ?_) dTypeBook_enter_36
    exact ⟨⟨by omega, by assumption⟩, (pb_of (ku κ 3 (κ 3 + 1)) hI (show κ 3 + 1 = κ 3 + 1 ∧ κ 0 = κ 0 ∧ κ 1 = κ 1 from ⟨rfl, rfl, rfl⟩) hG (by show 5 * (κ 6) + 5 * (κ 7) + 4 * (κ 8) + 4 * (κ 9) + 4 * (κ 10) + 4 * (κ 11) + 5 * (κ 12) + 4 * (κ 13) + 3 * (κ 14) + 1 * (κ 15) ≤ 5 * (κ 6) + 5 * (κ 7) + 4 * (κ 8) + 4 * (κ 9) + 4 * (κ 10) + 4 * (κ 11) + 5 * (κ 12) + 4 * (κ 13) + 3 * (κ 14) + 1 * (κ 15); omega) (by show 0 ≤ (5 * (κ 6) + 5 * (κ 7) + 4 * (κ 8) + 4 * (κ 9) + 4 * (κ 10) + 4 * (κ 11) + 5 * (κ 12) + 4 * (κ 13) + 3 * (κ 14) + 1 * (κ 15)) - (5 * (κ 6) + 5 * (κ 7) + 4 * (κ 8) + 4 * (κ 9) + 4 * (κ 10) + 4 * (κ 11) + 5 * (κ 12) + 4 * (κ 13) + 3 * (κ 14) + 1 * (κ 15)) + 1; omega) (by show 0 ≤ 2 * ((5 * (κ 6) + 5 * (κ 7) + 4 * (κ 8) + 4 * (κ 9) + 4 * (κ 10) + 4 * (κ 11) + 5 * (κ 12) + 4 * (κ 13) + 3 * (κ 14) + 1 * (κ 15)) - (5 * (κ 6) + 5 * (κ 7) + 4 * (κ 8) + 4 * (κ 9) + 4 * (κ 10) + 4 * (κ 11) + 5 * (κ 12) + 4 * (κ 13) + 3 * (κ 14) + 1 * (κ 15))) + 6; omega))⟩
  · obtain ⟨sa12, hsa12⟩ := hw0.2.2.2.1 R_TypeBook 102 "no room for a scope" (in_tables_1_2 (List.mem_of_getElem? (i := 237) rfl))
    rw [hQ]
    refine tx_throw (s0 := s0) (names := ["java/lang/RuntimeException", "java/lang/Exception"]) (text := "no room for a scope") (sa := sa12) S hst hX hlk (by decide +kernel) (by decide +kernel) qw_8038d8d33c qw_f529d83890 (hF0.step hA0 hS.1 hS.2.1) hsa12 (ta_ISE hW hw0) hl.1 dTypeBook_enter_12 dTypeBook_enter_15 dTypeBook_enter_16 dTypeBook_enter_18 dTypeBook_enter_21 (Nat.lt_of_lt_of_le (by decide) (Nat.le_of_ble_eq_true rfl : 6 ≤ _)) (Nat.le_of_ble_eq_true rfl) (by show 0 + 1 ≤ 50000; omega) (by show 0 + 6 ≤ 1000000; omega) (fun H1 hG hz ho => ?_) hS.2.2 (by show 0 + 1 ≤ 50000; omega) (by show 0 + 6 ≤ 1000000; omega)
    exact ⟨by decide, Nat.le_antisymm hsz.2.2.2.2.2.2 (ge_ok (M := 32) (by assumption) rfl (by assumption) (by omega) (by omega)), (pb_of κ (inv_more hI ho) (show κ 3 = κ 3 ∧ κ 0 = κ 0 ∧ κ 1 = κ 1 from ⟨rfl, rfl, rfl⟩) hG (by show 5 * (κ 6) + 5 * (κ 7) + 4 * (κ 8) + 4 * (κ 9) + 4 * (κ 10) + 4 * (κ 11) + 5 * (κ 12) + 4 * (κ 13) + 3 * (κ 14) + 1 * (κ 15) ≤ 5 * (κ 6) + 5 * (κ 7) + 4 * (κ 8) + 4 * (κ 9) + 4 * (κ 10) + 4 * (κ 11) + 5 * (κ 12) + 4 * (κ 13) + 3 * (κ 14) + 1 * (κ 15); omega) (by show 0 + 1 ≤ (5 * (κ 6) + 5 * (κ 7) + 4 * (κ 8) + 4 * (κ 9) + 4 * (κ 10) + 4 * (κ 11) + 5 * (κ 12) + 4 * (κ 13) + 3 * (κ 14) + 1 * (κ 15)) - (5 * (κ 6) + 5 * (κ 7) + 4 * (κ 8) + 4 * (κ 9) + 4 * (κ 10) + 4 * (κ 11) + 5 * (κ 12) + 4 * (κ 13) + 3 * (κ 14) + 1 * (κ 15)) + 1; omega) (by show 0 + 6 ≤ 2 * ((5 * (κ 6) + 5 * (κ 7) + 4 * (κ 8) + 4 * (κ 9) + 4 * (κ 10) + 4 * (κ 11) + 5 * (κ 12) + 4 * (κ 13) + 3 * (κ 14) + 1 * (κ 15)) - (5 * (κ 6) + 5 * (κ 7) + 4 * (κ 8) + 4 * (κ 9) + 4 * (κ 10) + 4 * (κ 11) + 5 * (κ 12) + 4 * (κ 13) + 3 * (κ 14) + 1 * (κ 15))) + 6; omega)), fr_more hS hz ho⟩
theorem qw_90a02633e0 : (Cond.methodLink R_TypeBook 112 yTrees_has) ∈ bs_W0 := bs_in (in_tables_1_3 (List.mem_of_getElem? (i := 22) rfl)) rfl
theorem qw_393f431be6 : (Cond.fieldLink R_TypeBook 26 R_TypeBook "types" "LTypeBook$Types;") ∈ bs_W0 := bs_in (in_tables_1_2 (List.mem_of_getElem? (i := 54) rfl)) rfl
theorem qw_438f5fc1da : (Cond.methodLink R_TypeBook 174 yTypes_has) ∈ bs_W0 := bs_in (in_tables_1_5 (List.mem_of_getElem? (i := 51) rfl)) rfl
theorem qw_d8c2c64b31 : (Cond.methodLink R_TypeBook 120 yLooker_look) ∈ bs_W0 := bs_in (in_tables_1_3 (List.mem_of_getElem? (i := 39) rfl)) rfl
theorem qw_eb62b8f344 : (Cond.methodLink R_TypeBook 186 yLooker_judge) ∈ bs_W0 := bs_in (in_tables_1_5 (List.mem_of_getElem? (i := 63) rfl)) rfl
theorem qw_e2e3c61940 : (Cond.methodLink R_TypeBook 140 yLooker_tell) ∈ bs_W0 := bs_in (in_tables_1_4 (List.mem_of_getElem? (i := 223) rfl)) rfl
theorem qn_b283086a15 : (Cond.fieldLinkNest R_TypeBook 124 R_Looker "at" "I" "TypeBook") ∈ lw_tbl := in_tables_1_2 (List.mem_of_getElem? (i := 34) rfl)
theorem qw_fa3e8c2955 : (Cond.methodLink R_TypeBook 127 yTypeBook_refused) ∈ bs_W0 := bs_in (in_tables_1_4 (List.mem_of_getElem? (i := 197) rfl)) rfl
theorem qw_ae3ba0ca69 : (Cond.classLink R_TypeBook 115 "java/lang/IndexOutOfBoundsException") ∈ bs_W0 := bs_in (in_tables_1_3 (List.mem_of_getElem? (i := 23) rfl)) rfl
theorem qw_d4b771d349 : (Cond.initialized "java/lang/IndexOutOfBoundsException") ∈ bs_W0 := bs_in (in_tables_1_1 (List.mem_of_getElem? (i := 20) rfl)) rfl
set_option maxHeartbeats 4000000 in
set_option maxRecDepth 100000 in
theorem x_check (l : Launch) (hst : l.stackTraces = false) (γ : gE) (A : Nat → Prop) (κ : Nat → Nat) (s0 : State) (hw0 : SW s0) (hA0 : ∀ q, A q → s0.heap.size ≤ q) (H0 : Heap) (x1 : Int32) (x2 : Int32) : XM l yTypeBook_check bTypeBook_check 4 (some .int) 7 174 50000 1000000 [.ref (γ.2.2.2 0), .int x1, .int x2] γ A (fun U => FB s0 U U.heap ∧ U.heap = H0 ∧ INV γ A κ U.heap) (mQi (fun r H => PB γ A κ H0 (fun κ' => κ' 3 = κ 3 ∧ κ' 0 = κ 0 ∧ κ' 1 = κ 1) H) A) (fun E H => E ∈ ["java/lang/IndexOutOfBoundsException"] ∧ PB γ A κ H0 (fun κ' => κ' 3 = κ 3 ∧ κ' 0 = κ 0 ∧ κ' 1 = κ 1) H ∧ fr_A A H0 H) := by
  refine tx_openI (by decide) (Nat.le_of_ble_eq_true rfl) ?_
  intro p e s m args below meth c ls Q S hret hlk hX hC hA hP hQ hl
  obtain ⟨hF0, hH0, hI⟩ := hP
  subst hH0
  obtain ⟨hx, hb, hml, hown, hW⟩ := id S
  have hS : va_S A s.heap s.heap [] := va_S.rf
  have hl : lv_has ls 4 [(0, .ref (γ.2.2.2 0)), (1, .int x1), (2, .int x2)] := hl
  obtain ⟨hlen, hsz⟩ := inv_len hI
  have J37 : ∀ (ls : Array Slot) (H : Heap) (locs : List Loc) (i1 : Int32) (i2 : Int32), INV γ A κ H → va_S A s.heap H locs → (i1.toInt < 2147483647 ∧ (i1 - 1).toInt < 2147483647) → lv_has ls 4 [(0, .ref (γ.2.2.2 0)), (1, .int i1), (2, .int i2)] → W p l e (bs_rm 7 50000 1000000 174) s m args below meth c H locs 0 0 Q (F0 m 37 ls []) := by
    intro ls H locs i1 i2 hI hS ⟨hnode, hnode2⟩ hl
    refine lv_aload_n hx hb dTypeBook_check_37 rfl (lv_at hl 0 rfl) ?_
    refine of_get S hC (of_0_5 hI) in_TypeBook rfl (by decide) qw_130a6323a2 dTypeBook_check_38 ?_
    refine lv_aload_n hx hb dTypeBook_check_41 rfl (lv_at hl 0 rfl) ?_
    refine of_get S hC (of_0_5 hI) in_TypeBook rfl (by decide) qw_130a6323a2 dTypeBook_check_42 ?_
    refine lv_iload_n hx hb dTypeBook_check_45 rfl (lv_at hl 1 rfl) ?_
    refine lv_iload_n hx hb dTypeBook_check_46 rfl (lv_at hl 1 rfl) ?_
    refine mu_Vi (rest := [.ref (γ.2.2.2 8)]) S hC (fun q h => hA q (Nat.le_trans hS.1 h)) (fun q h => h) hS (k_Looker_look l γ A κ i1 i1 hnode) meLooker_look qw_d8c2c64b31 ⟨Nat.le_of_ble_eq_true rfl, Nat.le_of_ble_eq_true rfl⟩ (rv_8 hC hI) hI rfl hl.1 rfl (Nat.le_of_ble_eq_true rfl) dTypeBook_check_47 ⟨(by show 0 + 0 ≤ 50000; omega), (by show 0 + 0 ≤ 1000000; omega)⟩ (fun r12 H locs ⟨hr12, hI⟩ hS _ _ => ?_)
    refine lv_iload_n hx hb dTypeBook_check_50 rfl (lv_at hl 1 rfl) ?_
    refine lv_iload_n hx hb dTypeBook_check_51 rfl (lv_at hl 2 rfl) ?_
    refine lv_iconst (v := 0) hx hb dTypeBook_check_52 (by decide) ?_
    refine pu_Vi (rest := []) S hC (k_Looker_judge l γ A κ r12 i1 i2 0) meLooker_judge qw_eb62b8f344 ⟨Nat.le_of_ble_eq_true rfl, Nat.le_of_ble_eq_true rfl⟩ (rv_8 hC hI) hI rfl hl.1 rfl (Nat.le_of_ble_eq_true rfl) dTypeBook_check_53 ⟨(by show _ ≤ 50000; omega), (by show _ ≤ 1000000; omega)⟩ (fun r13 hr13 => ?_)
    refine lv_istore_n (lv' := [(3, .int r13), (0, .ref (γ.2.2.2 0)), (1, .int i1), (2, .int i2)]) hx hb dTypeBook_check_56 rfl hl (by decide) rfl (fun ls hl => ?_)
    refine lv_iload_n hx hb dTypeBook_check_57 rfl (lv_at hl 0 rfl) ?_
    refine lv_if_eq (tgt := 74) hx hb dTypeBook_check_58 (by decide) (fun c14 => ?_) (fun c14 => ?_)
    · refine lv_aload_n hx hb dTypeBook_check_74 rfl (lv_at hl 1 rfl) ?_
      refine of_get S hC (of_0_5 hI) in_TypeBook rfl (by decide) qw_130a6323a2 dTypeBook_check_75 ?_
      refine lv_aload_n hx hb dTypeBook_check_78 rfl (lv_at hl 1 rfl) ?_
      refine of_get S hC (of_0_4 hI) in_TypeBook rfl (by decide) qw_ce6a8385d0 dTypeBook_check_79 ?_
      refine lv_iload_n hx hb dTypeBook_check_82 rfl (lv_at hl 2 rfl) ?_
      refine lv_iload_n hx hb dTypeBook_check_83 rfl (lv_at hl 2 rfl) ?_
      refine mu_Vv (rest := []) S hC (fun q h => hA q (Nat.le_trans hS.1 h)) (fun q h => h) hS (k_Looker_tell l γ A κ i1 i1 hnode) meLooker_tell qw_e2e3c61940 ⟨Nat.le_of_ble_eq_true rfl, Nat.le_of_ble_eq_true rfl⟩ (rv_8 hC hI) hI rfl hl.1 rfl (Nat.le_of_ble_eq_true rfl) dTypeBook_check_84 ⟨(by show 0 + 0 ≤ 50000; omega), (by show 0 + 0 ≤ 1000000; omega)⟩ (fun H locs hI hS _ _ => ?_)
      refine lv_aload_n hx hb dTypeBook_check_87 rfl (lv_at hl 1 rfl) ?_
      refine lv_iconst (v := (-1)) hx hb dTypeBook_check_88 (by decide) ?_
      refine iv_fault S hC hI (fun q h => hA q (Nat.le_trans hS.1 h)) hS qw_464f80981e dTypeBook_check_89 (fun H locs hI hS => ?_)
      refine lv_iconst (v := 0) hx hb dTypeBook_check_92 (by decide) ?_
      rw [hQ]
      refine tx_endI S hret hlk hS (by show 0 ≤ 50000; omega) (by show 0 ≤ 1000000; omega) (fun hG => ?_) dTypeBook_check_93
      exact (pb_of κ hI (show κ 3 = κ 3 ∧ κ 0 = κ 0 ∧ κ 1 = κ 1 from ⟨rfl, rfl, rfl⟩) hG (by show 5 * (κ 6) + 5 * (κ 7) + 4 * (κ 8) + 4 * (κ 9) + 4 * (κ 10) + 4 * (κ 11) + 5 * (κ 12) + 4 * (κ 13) + 3 * (κ 14) + 1 * (κ 15) ≤ 5 * (κ 6) + 5 * (κ 7) + 4 * (κ 8) + 4 * (κ 9) + 4 * (κ 10) + 4 * (κ 11) + 5 * (κ 12) + 4 * (κ 13) + 3 * (κ 14) + 1 * (κ 15); omega) (by show 0 ≤ (5 * (κ 6) + 5 * (κ 7) + 4 * (κ 8) + 4 * (κ 9) + 4 * (κ 10) + 4 * (κ 11) + 5 * (κ 12) + 4 * (κ 13) + 3 * (κ 14) + 1 * (κ 15)) - (5 * (κ 6) + 5 * (κ 7) + 4 * (κ 8) + 4 * (κ 9) + 4 * (κ 10) + 4 * (κ 11) + 5 * (κ 12) + 4 * (κ 13) + 3 * (κ 14) + 1 * (κ 15)) + 1; omega) (by show 0 ≤ 2 * ((5 * (κ 6) + 5 * (κ 7) + 4 * (κ 8) + 4 * (κ 9) + 4 * (κ 10) + 4 * (κ 11) + 5 * (κ 12) + 4 * (κ 13) + 3 * (κ 14) + 1 * (κ 15)) - (5 * (κ 6) + 5 * (κ 7) + 4 * (κ 8) + 4 * (κ 9) + 4 * (κ 10) + 4 * (κ 11) + 5 * (κ 12) + 4 * (κ 13) + 3 * (κ 14) + 1 * (κ 15))) + 6; omega))
    · refine lv_aload_n hx hb dTypeBook_check_61 rfl (lv_at hl 1 rfl) ?_
      refine lv_iload_n hx hb dTypeBook_check_62 rfl (lv_at hl 0 rfl) ?_
      refine lv_aload_n hx hb dTypeBook_check_63 rfl (lv_at hl 1 rfl) ?_
      refine of_get S hC (of_0_5 hI) in_TypeBook rfl (by decide) qw_130a6323a2 dTypeBook_check_64 ?_
      obtain ⟨v16, hOv16⟩ := of_8_7 hI
      refine of_getN S hC hOv16 in_Looker rfl (by decide) qn_b283086a15 dTypeBook_check_67 ?_
      refine mu_Vi (rest := []) S hC (fun q h => hA q (Nat.le_trans hS.1 h)) (fun q h => h) hS (k_TypeBook_refused l γ A κ r13 v16) meTypeBook_refused qw_fa3e8c2955 ⟨Nat.le_of_ble_eq_true rfl, Nat.le_of_ble_eq_true rfl⟩ (rv_0 hC hI) hI rfl hl.1 rfl (Nat.le_of_ble_eq_true rfl) dTypeBook_check_70 ⟨(by show 0 + 0 ≤ 50000; omega), (by show 0 + 0 ≤ 1000000; omega)⟩ (fun r17 H locs ⟨hr17, hI⟩ hS _ _ => ?_)
      rw [hQ]
      refine tx_endI S hret hlk hS (by show 0 ≤ 50000; omega) (by show 0 ≤ 1000000; omega) (fun hG => ?_) dTypeBook_check_73
      exact (pb_of κ hI (show κ 3 = κ 3 ∧ κ 0 = κ 0 ∧ κ 1 = κ 1 from ⟨rfl, rfl, rfl⟩) hG (by show 5 * (κ 6) + 5 * (κ 7) + 4 * (κ 8) + 4 * (κ 9) + 4 * (κ 10) + 4 * (κ 11) + 5 * (κ 12) + 4 * (κ 13) + 3 * (κ 14) + 1 * (κ 15) ≤ 5 * (κ 6) + 5 * (κ 7) + 4 * (κ 8) + 4 * (κ 9) + 4 * (κ 10) + 4 * (κ 11) + 5 * (κ 12) + 4 * (κ 13) + 3 * (κ 14) + 1 * (κ 15); omega) (by show 0 ≤ (5 * (κ 6) + 5 * (κ 7) + 4 * (κ 8) + 4 * (κ 9) + 4 * (κ 10) + 4 * (κ 11) + 5 * (κ 12) + 4 * (κ 13) + 3 * (κ 14) + 1 * (κ 15)) - (5 * (κ 6) + 5 * (κ 7) + 4 * (κ 8) + 4 * (κ 9) + 4 * (κ 10) + 4 * (κ 11) + 5 * (κ 12) + 4 * (κ 13) + 3 * (κ 14) + 1 * (κ 15)) + 1; omega) (by show 0 ≤ 2 * ((5 * (κ 6) + 5 * (κ 7) + 4 * (κ 8) + 4 * (κ 9) + 4 * (κ 10) + 4 * (κ 11) + 5 * (κ 12) + 4 * (κ 13) + 3 * (κ 14) + 1 * (κ 15)) - (5 * (κ 6) + 5 * (κ 7) + 4 * (κ 8) + 4 * (κ 9) + 4 * (κ 10) + 4 * (κ 11) + 5 * (κ 12) + 4 * (κ 13) + 3 * (κ 14) + 1 * (κ 15))) + 6; omega))
  have J27 : ∀ (ls : Array Slot) (H : Heap) (locs : List Loc) (i1 : Int32) (i2 : Int32), INV γ A κ H → va_S A s.heap H locs → lv_has ls 4 [(0, .ref (γ.2.2.2 0)), (1, .int i1), (2, .int i2)] → W p l e (bs_rm 7 50000 1000000 174) s m args below meth c H locs 0 0 Q (F0 m 27 ls []) := by
    intro ls H locs i1 i2 hI hS hl
    obtain ⟨sa27, hsa27⟩ := hw0.2.2.2.1 R_TypeBook 199 "no such node or type" (in_tables_1_5 (List.mem_of_getElem? (i := 103) rfl))
    rw [hQ]
    refine tx_throw (s0 := s0) (names := ["java/lang/RuntimeException", "java/lang/Exception"]) (text := "no such node or type") (sa := sa27) S hst hX hlk (by decide +kernel) (by decide +kernel) qw_ae3ba0ca69 qw_d4b771d349 (hF0.step hA0 hS.1 hS.2.1) hsa27 (ta_IOB hW hw0) hl.1 dTypeBook_check_27 dTypeBook_check_30 dTypeBook_check_31 dTypeBook_check_33 dTypeBook_check_36 (Nat.lt_of_lt_of_le (by decide) (Nat.le_of_ble_eq_true rfl : 6 ≤ _)) (Nat.le_of_ble_eq_true rfl) (by show 0 + 1 ≤ 50000; omega) (by show 0 + 6 ≤ 1000000; omega) (fun H1 hG hz ho => ?_) hS.2.2 (by show 0 + 1 ≤ 50000; omega) (by show 0 + 6 ≤ 1000000; omega)
    exact ⟨by decide, (pb_of κ (inv_more hI ho) (show κ 3 = κ 3 ∧ κ 0 = κ 0 ∧ κ 1 = κ 1 from ⟨rfl, rfl, rfl⟩) hG (by show 5 * (κ 6) + 5 * (κ 7) + 4 * (κ 8) + 4 * (κ 9) + 4 * (κ 10) + 4 * (κ 11) + 5 * (κ 12) + 4 * (κ 13) + 3 * (κ 14) + 1 * (κ 15) ≤ 5 * (κ 6) + 5 * (κ 7) + 4 * (κ 8) + 4 * (κ 9) + 4 * (κ 10) + 4 * (κ 11) + 5 * (κ 12) + 4 * (κ 13) + 3 * (κ 14) + 1 * (κ 15); omega) (by show 0 + 1 ≤ (5 * (κ 6) + 5 * (κ 7) + 4 * (κ 8) + 4 * (κ 9) + 4 * (κ 10) + 4 * (κ 11) + 5 * (κ 12) + 4 * (κ 13) + 3 * (κ 14) + 1 * (κ 15)) - (5 * (κ 6) + 5 * (κ 7) + 4 * (κ 8) + 4 * (κ 9) + 4 * (κ 10) + 4 * (κ 11) + 5 * (κ 12) + 4 * (κ 13) + 3 * (κ 14) + 1 * (κ 15)) + 1; omega) (by show 0 + 6 ≤ 2 * ((5 * (κ 6) + 5 * (κ 7) + 4 * (κ 8) + 4 * (κ 9) + 4 * (κ 10) + 4 * (κ 11) + 5 * (κ 12) + 4 * (κ 13) + 3 * (κ 14) + 1 * (κ 15)) - (5 * (κ 6) + 5 * (κ 7) + 4 * (κ 8) + 4 * (κ 9) + 4 * (κ 10) + 4 * (κ 11) + 5 * (κ 12) + 4 * (κ 13) + 3 * (κ 14) + 1 * (κ 15))) + 6; omega)), fr_more hS hz ho⟩
  refine lv_aload_n hx hb dTypeBook_check_0 rfl (lv_at hl 0 rfl) ?_
  refine of_get S hC (of_0_0 hI) in_TypeBook rfl (by decide) qw_6151ee7924 dTypeBook_check_1 ?_
  refine lv_iload_n hx hb dTypeBook_check_4 rfl (lv_at hl 1 rfl) ?_
  refine pu_Vi (rest := []) S hC (k1_Trees_has l γ A κ x1) meTrees_has qw_90a02633e0 ⟨Nat.le_of_ble_eq_true rfl, Nat.le_of_ble_eq_true rfl⟩ (rv_1 hC hI) hI rfl hl.1 rfl (Nat.le_of_ble_eq_true rfl) dTypeBook_check_5 ⟨(by show _ ≤ 50000; omega), (by show _ ≤ 1000000; omega)⟩ (fun r18 hr18 => ?_)
  refine lv_if_eq (tgt := 27) hx hb dTypeBook_check_8 (by decide) (fun c19 => ?_) (fun c19 => ?_)
  · refine W.up (k := 0) (n := 0) (by show 0 ≤ _; omega) (by show 0 ≤ _; omega) ?_
    exact J27 ls _ _ x1 x2 hI hS (lv_sub hl [0, 1, 2] rfl)
  · refine lv_iload_n hx hb dTypeBook_check_11 rfl (lv_at hl 2 rfl) ?_
    refine lv_iconst (v := (-1)) hx hb dTypeBook_check_12 (by decide) ?_
    refine lv_icmp_eq (tgt := 37) hx hb dTypeBook_check_13 (by decide) (fun c20 => ?_) (fun c20 => ?_)
    · refine W.up (k := 0) (n := 0) (by show 0 ≤ _; omega) (by show 0 ≤ _; omega) ?_
      exact J37 ls _ _ x1 x2 hI hS (by first | exact ⟨hnode, hnode2⟩ | exact node_ok (x := x1) (by assumption) (by assumption) (by omega)) (lv_sub hl [0, 1, 2] rfl)
    · refine lv_aload_n hx hb dTypeBook_check_16 rfl (lv_at hl 0 rfl) ?_
      refine of_get S hC (of_0_2 hI) in_TypeBook rfl (by decide) qw_393f431be6 dTypeBook_check_17 ?_
      refine lv_iload_n hx hb dTypeBook_check_20 rfl (lv_at hl 2 rfl) ?_
      refine pu_Vi (rest := []) S hC (k3_Types_has l γ A κ x2) meTypes_has qw_438f5fc1da ⟨Nat.le_of_ble_eq_true rfl, Nat.le_of_ble_eq_true rfl⟩ (rv_3 hC hI) hI rfl hl.1 rfl (Nat.le_of_ble_eq_true rfl) dTypeBook_check_21 ⟨(by show _ ≤ 50000; omega), (by show _ ≤ 1000000; omega)⟩ (fun r21 hr21 => ?_)
      refine lv_if_ne (tgt := 37) hx hb dTypeBook_check_24 (by decide) (fun c22 => ?_) (fun c22 => ?_)
      · refine W.up (k := 0) (n := 0) (by show 0 ≤ _; omega) (by show 0 ≤ _; omega) ?_
        exact J37 ls _ _ x1 x2 hI hS (by first | exact ⟨hnode, hnode2⟩ | exact node_ok (x := x1) (by assumption) (by assumption) (by omega)) (lv_sub hl [0, 1, 2] rfl)
      · refine W.up (k := 0) (n := 0) (by show 0 ≤ _; omega) (by show 0 ≤ _; omega) ?_
        exact J27 ls _ _ x1 x2 hI hS (lv_sub hl [0, 1, 2] rfl)
