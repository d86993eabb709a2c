theorem qw_aa3d3bbcf9 : (Cond.fieldLink R_Meanings 27 R_Meanings "seen" "LTypeBook$Looks;") ∈ bs_W0 := bs_in (in_tables_1_2 (List.mem_of_getElem? (i := 14) rfl)) rfl
theorem qw_3b2c7270bb : (Cond.methodLink R_Meanings 72 yTypes_extentOf) ∈ bs_W0 := bs_in (in_tables_1_3 (List.mem_of_getElem? (i := 109) rfl)) rfl
theorem qw_39c162a16b : (Cond.methodLink R_Meanings 75 yMeanings_isConstant) ∈ bs_W0 := bs_in (in_tables_1_3 (List.mem_of_getElem? (i := 121) rfl)) rfl
theorem qw_454d4ae88d : (Cond.methodLink R_Meanings 79 yLooks_note) ∈ bs_W0 := bs_in (in_tables_1_3 (List.mem_of_getElem? (i := 129) rfl)) rfl
theorem qw_23315a9189 : (Cond.methodLink R_Meanings 85 yLooks_setMeaning) ∈ bs_W0 := bs_in (in_tables_1_3 (List.mem_of_getElem? (i := 133) rfl)) rfl
theorem qw_9efd1cd835 : (Cond.methodLink R_Meanings 88 yObjects_numberOf) ∈ bs_W0 := bs_in (in_tables_1_3 (List.mem_of_getElem? (i := 137) rfl)) rfl
theorem qw_86190d2de0 : (Cond.methodLink R_Meanings 89 yLooks_setNumber) ∈ bs_W0 := bs_in (in_tables_1_3 (List.mem_of_getElem? (i := 141) rfl)) rfl
theorem qn_3420aee8ba : (Cond.fieldLinkNest R_Meanings 92 R_Looks "rows" "LTypeBook$Rows;" "TypeBook") ∈ lw_tbl := in_tables_1_1 (List.mem_of_getElem? (i := 208) rfl)
theorem qn_d1f72cec6f : (Cond.fieldLinkNest R_Meanings 96 R_Objects "rows" "LTypeBook$Rows;" "TypeBook") ∈ lw_tbl := in_tables_1_1 (List.mem_of_getElem? (i := 180) rfl)
theorem qw_02f321e768 : (Cond.methodLink R_Meanings 97 yRows_copy) ∈ bs_W0 := bs_in (in_tables_1_3 (List.mem_of_getElem? (i := 145) rfl)) rfl
theorem qw_08981d77a7 : (Cond.methodLink R_Meanings 31 yTrees_countOf) ∈ bs_W0 := bs_in (in_tables_1_3 (List.mem_of_getElem? (i := 65) rfl)) rfl
theorem qw_2c479d8bd0 : (Cond.methodLink R_Meanings 51 yMeanings_noteObject) ∈ bs_W0 := bs_in (in_tables_1_3 (List.mem_of_getElem? (i := 89) rfl)) rfl
theorem qw_0d0f2aa427 : (Cond.methodLink R_Meanings 55 yNames_partOf) ∈ bs_W0 := bs_in (in_tables_1_3 (List.mem_of_getElem? (i := 154) rfl)) rfl
theorem qw_c5322992c7 : (Cond.methodLink R_Meanings 58 yMeanings_noteValue) ∈ bs_W0 := bs_in (in_tables_1_3 (List.mem_of_getElem? (i := 158) rfl)) rfl
theorem qw_631ccf37b6 : (Cond.methodLink R_Meanings 120 yLooks_classOf) ∈ bs_W0 := bs_in (in_tables_1_4 (List.mem_of_getElem? (i := 116) rfl)) rfl
theorem qw_e1e43cfc73 : (Cond.methodLink R_Meanings 121 yLooks_isFixed) ∈ bs_W0 := bs_in (in_tables_1_4 (List.mem_of_getElem? (i := 117) rfl)) rfl
theorem qw_58178e0f63 : (Cond.methodLink R_Meanings 124 yLooks_numberOf) ∈ bs_W0 := bs_in (in_tables_1_4 (List.mem_of_getElem? (i := 127) rfl)) rfl
theorem qw_de7e185c5e : (Cond.methodLink R_Meanings 125 yTypes_fromRight) ∈ bs_W0 := bs_in (in_tables_1_4 (List.mem_of_getElem? (i := 150) rfl)) rfl
theorem qw_a0ada774ee : (Cond.methodLink R_Meanings 128 yRows_get) ∈ bs_W0 := bs_in (in_tables_1_4 (List.mem_of_getElem? (i := 162) rfl)) rfl
theorem qw_6dd2778f5c : (Cond.methodLink R_Meanings 143 yTrees_kindOf) ∈ bs_W0 := bs_in (in_tables_1_4 (List.mem_of_getElem? (i := 133) rfl)) rfl
theorem qw_9ed826734f : (Cond.methodLink R_Meanings 146 yLooks_meaningOf) ∈ bs_W0 := bs_in (in_tables_1_4 (List.mem_of_getElem? (i := 134) rfl)) rfl
theorem qw_6a27f80c36 : (Cond.methodLink R_Meanings 149 yLooks_extentOf) ∈ bs_W0 := bs_in (in_tables_1_4 (List.mem_of_getElem? (i := 118) rfl)) rfl
theorem qw_94e5b643f7 : (Cond.methodLink R_Meanings 150 yRows_bitsOf) ∈ bs_W0 := bs_in (in_tables_1_4 (List.mem_of_getElem? (i := 119) rfl)) rfl
theorem qw_fd05335de5 : (Cond.methodLink R_Meanings 154 yRows_isClear) ∈ bs_W0 := bs_in (in_tables_1_4 (List.mem_of_getElem? (i := 120) rfl)) rfl
theorem qw_02cd7db582 : (Cond.constantLong R_Meanings 158 2147483647) ∈ bs_W0 := bs_in (in_tables_1_4 (List.mem_of_getElem? (i := 121) rfl)) rfl
theorem qw_5a6c519f0e : (Cond.methodLink R_Meanings 160 yRows_setBits) ∈ bs_W0 := bs_in (in_tables_1_4 (List.mem_of_getElem? (i := 128) rfl)) rfl
set_option maxHeartbeats 4000000 in
set_option maxRecDepth 100000 in
theorem k_Meanings_noteObject (l : Launch) (γ : gE) (A : Nat → Prop) (κ : Nat → Nat) (x1 : Int32) (x2 : Int32) : MU l yMeanings_noteObject bMeanings_noteObject 4 (none) 3 83 0 0 [.ref (γ.2.2.2 12), .int x1, .int x2] γ A (INV γ A κ) (mQv (fun H => INV γ A κ H) A) := by
  refine mu_openV (by decide) (Nat.le_of_ble_eq_true rfl) ?_
  intro p e s m args below meth c ls Q S hnm hC hA hI hE hl
  obtain ⟨hx, hb, hml, hown, hW⟩ := id S
  have hS : va_S A s.heap s.heap [] := va_S.rf
  have hl : lv_has ls 4 [(0, .ref (γ.2.2.2 12)), (1, .int x1), (2, .int x2)] := hl
  refine lv_aload_n hx hb dMeanings_noteObject_0 rfl (lv_at hl 0 rfl) ?_
  refine of_get S hC (of_12_3 hI) in_Meanings rfl (by decide) qw_9bfdade5f5 dMeanings_noteObject_1 ?_
  refine lv_iload_n hx hb dMeanings_noteObject_4 rfl (lv_at hl 2 rfl) ?_
  refine pu_Vi (rest := []) S hC (k4_Objects_typeOfObject l γ A κ x2) meObjects_typeOfObject qw_bc7306873f ⟨Nat.le_of_ble_eq_true rfl, Nat.le_of_ble_eq_true rfl⟩ (rv_4 hC hI) hI rfl hl.1 rfl (Nat.le_of_ble_eq_true rfl) dMeanings_noteObject_5 ⟨Nat.zero_le _, Nat.zero_le _⟩ (fun r10 hr10 => ?_)
  refine lv_istore_n (lv' := [(3, .int r10), (0, .ref (γ.2.2.2 12)), (1, .int x1), (2, .int x2)]) hx hb dMeanings_noteObject_8 rfl hl (by decide) rfl (fun ls hl => ?_)
  refine lv_aload_n hx hb dMeanings_noteObject_9 rfl (lv_at hl 1 rfl) ?_
  refine of_get S hC (of_12_4 hI) in_Meanings rfl (by decide) qw_aa3d3bbcf9 dMeanings_noteObject_10 ?_
  refine lv_iload_n hx hb dMeanings_noteObject_13 rfl (lv_at hl 2 rfl) ?_
  refine lv_aload_n hx hb dMeanings_noteObject_14 rfl (lv_at hl 1 rfl) ?_
  refine of_get S hC (of_12_2 hI) in_Meanings rfl (by decide) qw_e2a2dba4a9 dMeanings_noteObject_15 ?_
  refine lv_iload_n hx hb dMeanings_noteObject_18 rfl (lv_at hl 0 rfl) ?_
  refine pu_Vi (rest := [.int x1, .ref (γ.2.2.2 9)]) S hC (k3_Types_classOf l γ A κ r10) meTypes_classOf qw_ac19273b21 ⟨Nat.le_of_ble_eq_true rfl, Nat.le_of_ble_eq_true rfl⟩ (rv_3 hC hI) hI rfl hl.1 rfl (Nat.le_of_ble_eq_true rfl) dMeanings_noteObject_19 ⟨Nat.zero_le _, Nat.zero_le _⟩ (fun r11 hr11 => ?_)
  refine lv_aload_n hx hb dMeanings_noteObject_22 rfl (lv_at hl 1 rfl) ?_
  refine of_get S hC (of_12_2 hI) in_Meanings rfl (by decide) qw_e2a2dba4a9 dMeanings_noteObject_23 ?_
  refine lv_iload_n hx hb dMeanings_noteObject_26 rfl (lv_at hl 0 rfl) ?_
  refine pu_Vi (rest := [.int r11, .int x1, .ref (γ.2.2.2 9)]) S hC (k3_Types_extentOf l γ A κ r10) meTypes_extentOf qw_3b2c7270bb ⟨Nat.le_of_ble_eq_true rfl, Nat.le_of_ble_eq_true rfl⟩ (rv_3 hC hI) hI rfl hl.1 rfl (Nat.le_of_ble_eq_true rfl) dMeanings_noteObject_27 ⟨Nat.zero_le _, Nat.zero_le _⟩ (fun r12 hr12 => ?_)
  refine lv_aload_n hx hb dMeanings_noteObject_30 rfl (lv_at hl 1 rfl) ?_
  refine lv_iload_n hx hb dMeanings_noteObject_31 rfl (lv_at hl 3 rfl) ?_
  refine pu_Vi (rest := [.int r12, .int r11, .int x1, .ref (γ.2.2.2 9)]) S hC (k_Meanings_isConstant l γ A κ x2) meMeanings_isConstant qw_39c162a16b ⟨Nat.le_of_ble_eq_true rfl, Nat.le_of_ble_eq_true rfl⟩ (rv_12 hC hI) hI rfl hl.1 rfl (Nat.le_of_ble_eq_true rfl) dMeanings_noteObject_32 ⟨Nat.zero_le _, Nat.zero_le _⟩ (fun r13 hr13 => ?_)
  refine mu_Vv (rest := []) S hC (fun q h => hA q (Nat.le_trans hS.1 h)) (fun q h => h) hS (k9_Looks_note l γ A κ x1 r11 r12 r13) meLooks_note qw_454d4ae88d ⟨Nat.le_of_ble_eq_true rfl, Nat.le_of_ble_eq_true rfl⟩ (rv_9 hC hI) hI rfl hl.1 rfl (Nat.le_of_ble_eq_true rfl) dMeanings_noteObject_35 ⟨Nat.le_refl _, Nat.le_refl _⟩ (fun H locs hI hS _ _ => ?_)
  refine lv_aload_n hx hb dMeanings_noteObject_38 rfl (lv_at hl 1 rfl) ?_
  refine of_get S hC (of_12_4 hI) in_Meanings rfl (by decide) qw_aa3d3bbcf9 dMeanings_noteObject_39 ?_
  refine lv_iload_n hx hb dMeanings_noteObject_42 rfl (lv_at hl 2 rfl) ?_
  refine lv_iload_n hx hb dMeanings_noteObject_43 rfl (lv_at hl 3 rfl) ?_
  refine mu_Vv (rest := []) S hC (fun q h => hA q (Nat.le_trans hS.1 h)) (fun q h => h) hS (k9_Looks_setMeaning l γ A κ x1 x2) meLooks_setMeaning qw_23315a9189 ⟨Nat.le_of_ble_eq_true rfl, Nat.le_of_ble_eq_true rfl⟩ (rv_9 hC hI) hI rfl hl.1 rfl (Nat.le_of_ble_eq_true rfl) dMeanings_noteObject_44 ⟨Nat.le_refl _, Nat.le_refl _⟩ (fun H locs hI hS _ _ => ?_)
  refine lv_aload_n hx hb dMeanings_noteObject_47 rfl (lv_at hl 1 rfl) ?_
  refine of_get S hC (of_12_4 hI) in_Meanings rfl (by decide) qw_aa3d3bbcf9 dMeanings_noteObject_48 ?_
  refine lv_iload_n hx hb dMeanings_noteObject_51 rfl (lv_at hl 2 rfl) ?_
  refine lv_aload_n hx hb dMeanings_noteObject_52 rfl (lv_at hl 1 rfl) ?_
  refine of_get S hC (of_12_3 hI) in_Meanings rfl (by decide) qw_9bfdade5f5 dMeanings_noteObject_53 ?_
  refine lv_iload_n hx hb dMeanings_noteObject_56 rfl (lv_at hl 3 rfl) ?_
  refine pu_Vi (rest := [.int x1, .ref (γ.2.2.2 9)]) S hC (k4_Objects_numberOf l γ A κ x2) meObjects_numberOf qw_9efd1cd835 ⟨Nat.le_of_ble_eq_true rfl, Nat.le_of_ble_eq_true rfl⟩ (rv_4 hC hI) hI rfl hl.1 rfl (Nat.le_of_ble_eq_true rfl) dMeanings_noteObject_57 ⟨Nat.zero_le _, Nat.zero_le _⟩ (fun r16 hr16 => ?_)
  refine mu_Vv (rest := []) S hC (fun q h => hA q (Nat.le_trans hS.1 h)) (fun q h => h) hS (k9_Looks_setNumber l γ A κ x1 r16) meLooks_setNumber qw_86190d2de0 ⟨Nat.le_of_ble_eq_true rfl, Nat.le_of_ble_eq_true rfl⟩ (rv_9 hC hI) hI rfl hl.1 rfl (Nat.le_of_ble_eq_true rfl) dMeanings_noteObject_60 ⟨Nat.le_refl _, Nat.le_refl _⟩ (fun H locs hI hS _ _ => ?_)
  refine lv_aload_n hx hb dMeanings_noteObject_63 rfl (lv_at hl 1 rfl) ?_
  refine of_get S hC (of_12_4 hI) in_Meanings rfl (by decide) qw_aa3d3bbcf9 dMeanings_noteObject_64 ?_
  refine of_getN S hC (of_9_5 hI) in_Looks rfl (by decide) qn_3420aee8ba dMeanings_noteObject_67 ?_
  refine lv_iload_n hx hb dMeanings_noteObject_70 rfl (lv_at hl 2 rfl) ?_
  refine lv_aload_n hx hb dMeanings_noteObject_71 rfl (lv_at hl 1 rfl) ?_
  refine of_get S hC (of_12_3 hI) in_Meanings rfl (by decide) qw_9bfdade5f5 dMeanings_noteObject_72 ?_
  refine of_getN S hC (of_4_3 hI) in_Objects rfl (by decide) qn_d1f72cec6f dMeanings_noteObject_75 ?_
  refine lv_iload_n hx hb dMeanings_noteObject_78 rfl (lv_at hl 3 rfl) ?_
  refine mu_Vv (rest := []) S hC (fun q h => hA q (Nat.le_trans hS.1 h)) (fun q h => h) hS (k10_Rows_copy l γ A κ x1 x2) meRows_copy qw_02f321e768 ⟨Nat.le_of_ble_eq_true rfl, Nat.le_of_ble_eq_true rfl⟩ (rv_10 hC hI) hI rfl hl.1 rfl (Nat.le_of_ble_eq_true rfl) dMeanings_noteObject_79 ⟨Nat.le_refl _, Nat.le_refl _⟩ (fun H locs hI hS _ _ => ?_)
  exact hE _ _ _ _ hS hI dMeanings_noteObject_82

set_option maxHeartbeats 4000000 in
set_option maxRecDepth 100000 in
theorem k_Meanings_noteValue (l : Launch) (γ : gE) (A : Nat → Prop) (κ : Nat → Nat) (x1 : Int32) (x2 : Int32) (x3 : Int32) (x4 : Int32) : MU l yMeanings_noteValue bMeanings_noteValue 5 (none) 2 45 0 0 [.ref (γ.2.2.2 12), .int x1, .int x2, .int x3, .int x4] γ A (INV γ A κ) (mQv (fun H => INV γ A κ H) A) := by
  refine mu_openV (by decide) (Nat.le_of_ble_eq_true rfl) ?_
  intro p e s m args below meth c ls Q S hnm hC hA hI hE hl
  obtain ⟨hx, hb, hml, hown, hW⟩ := id S
  have hS : va_S A s.heap s.heap [] := va_S.rf
  have hl : lv_has ls 5 [(0, .ref (γ.2.2.2 12)), (1, .int x1), (2, .int x2), (3, .int x3), (4, .int x4)] := hl
  refine lv_aload_n hx hb dMeanings_noteValue_0 rfl (lv_at hl 0 rfl) ?_
  refine of_get S hC (of_12_4 hI) in_Meanings rfl (by decide) qw_aa3d3bbcf9 dMeanings_noteValue_1 ?_
  refine lv_iload_n hx hb dMeanings_noteValue_4 rfl (lv_at hl 1 rfl) ?_
  refine lv_iload_n hx hb dMeanings_noteValue_5 rfl (lv_at hl 2 rfl) ?_
  refine lv_iload_n hx hb dMeanings_noteValue_6 rfl (lv_at hl 3 rfl) ?_
  refine lv_iconst (v := 1) hx hb dMeanings_noteValue_7 (by decide) ?_
  refine mu_Vv (rest := []) S hC (fun q h => hA q (Nat.le_trans hS.1 h)) (fun q h => h) hS (k9_Looks_note l γ A κ x1 x2 x3 1) meLooks_note qw_454d4ae88d ⟨Nat.le_of_ble_eq_true rfl, Nat.le_of_ble_eq_true rfl⟩ (rv_9 hC hI) hI rfl hl.1 rfl (Nat.le_of_ble_eq_true rfl) dMeanings_noteValue_8 ⟨Nat.le_refl _, Nat.le_refl _⟩ (fun H locs hI hS _ _ => ?_)
  refine lv_aload_n hx hb dMeanings_noteValue_11 rfl (lv_at hl 0 rfl) ?_
  refine of_get S hC (of_12_4 hI) in_Meanings rfl (by decide) qw_aa3d3bbcf9 dMeanings_noteValue_12 ?_
  refine lv_iload_n hx hb dMeanings_noteValue_15 rfl (lv_at hl 1 rfl) ?_
  refine lv_sipush (v := 2000) hx hb dMeanings_noteValue_16 (by decide) ?_
  refine mu_Vv (rest := []) S hC (fun q h => hA q (Nat.le_trans hS.1 h)) (fun q h => h) hS (k9_Looks_setMeaning l γ A κ x1 2000) meLooks_setMeaning qw_23315a9189 ⟨Nat.le_of_ble_eq_true rfl, Nat.le_of_ble_eq_true rfl⟩ (rv_9 hC hI) hI rfl hl.1 rfl (Nat.le_of_ble_eq_true rfl) dMeanings_noteValue_19 ⟨Nat.le_refl _, Nat.le_refl _⟩ (fun H locs hI hS _ _ => ?_)
  refine lv_aload_n hx hb dMeanings_noteValue_22 rfl (lv_at hl 0 rfl) ?_
  refine of_get S hC (of_12_4 hI) in_Meanings rfl (by decide) qw_aa3d3bbcf9 dMeanings_noteValue_23 ?_
  refine lv_iload_n hx hb dMeanings_noteValue_26 rfl (lv_at hl 1 rfl) ?_
  refine lv_iload hx hb dMeanings_noteValue_27 (lv_at hl 4 rfl) ?_
  refine mu_Vv (rest := []) S hC (fun q h => hA q (Nat.le_trans hS.1 h)) (fun q h => h) hS (k9_Looks_setNumber l γ A κ x1 x4) meLooks_setNumber qw_86190d2de0 ⟨Nat.le_of_ble_eq_true rfl, Nat.le_of_ble_eq_true rfl⟩ (rv_9 hC hI) hI rfl hl.1 rfl (Nat.le_of_ble_eq_true rfl) dMeanings_noteValue_29 ⟨Nat.le_refl _, Nat.le_refl _⟩ (fun H locs hI hS _ _ => ?_)
  exact hE _ _ _ _ hS hI dMeanings_noteValue_32

set_option maxHeartbeats 4000000 in
set_option maxRecDepth 100000 in
theorem k_Meanings_name (l : Launch) (γ : gE) (A : Nat → Prop) (κ : Nat → Nat) (x1 : Int32) : MU l yMeanings_name bMeanings_name 4 (some .int) 4 106 0 0 [.ref (γ.2.2.2 12), .int x1] γ A (INV γ A κ) (mQi (fun r H => True ∧ INV γ A κ H) A) := by
  refine mu_openI (by decide) (Nat.le_of_ble_eq_true rfl) ?_
  intro p e s m args below meth c ls Q S hnm hC hA hI hE hl
  obtain ⟨hx, hb, hml, hown, hW⟩ := id S
  have hS : va_S A s.heap s.heap [] := va_S.rf
  have hl : lv_has ls 4 [(0, .ref (γ.2.2.2 12)), (1, .int x1)] := hl
  refine lv_aload_n hx hb dMeanings_name_0 rfl (lv_at hl 0 rfl) ?_
  refine of_get S hC (of_12_0 hI) in_Meanings rfl (by decide) qw_c54cffb97e dMeanings_name_1 ?_
  refine lv_iload_n hx hb dMeanings_name_4 rfl (lv_at hl 1 rfl) ?_
  refine pu_Vi (rest := []) S hC (k1_Trees_countOf l γ A κ x1) meTrees_countOf qw_08981d77a7 ⟨Nat.le_of_ble_eq_true rfl, Nat.le_of_ble_eq_true rfl⟩ (rv_1 hC hI) hI rfl hl.1 rfl (Nat.le_of_ble_eq_true rfl) dMeanings_name_5 ⟨Nat.zero_le _, Nat.zero_le _⟩ (fun r15 hr15 => ?_)
  refine lv_if_eq (tgt := 14) hx hb dMeanings_name_8 (by decide) (fun c16 => ?_) (fun c16 => ?_)
  · refine lv_aload_n hx hb dMeanings_name_14 rfl (lv_at hl 0 rfl) ?_
    refine of_get S hC (of_12_1 hI) in_Meanings rfl (by decide) qw_2a07109efc dMeanings_name_15 ?_
    refine lv_aload_n hx hb dMeanings_name_18 rfl (lv_at hl 0 rfl) ?_
    refine of_get S hC (of_12_0 hI) in_Meanings rfl (by decide) qw_c54cffb97e dMeanings_name_19 ?_
    refine lv_iload_n hx hb dMeanings_name_22 rfl (lv_at hl 1 rfl) ?_
    refine pu_Vi (rest := [.ref (γ.2.2.2 2)]) S hC (k1_Trees_valueOf l γ A κ x1) meTrees_valueOf qw_b5139988c8 ⟨Nat.le_of_ble_eq_true rfl, Nat.le_of_ble_eq_true rfl⟩ (rv_1 hC hI) hI rfl hl.1 rfl (Nat.le_of_ble_eq_true rfl) dMeanings_name_23 ⟨Nat.zero_le _, Nat.zero_le _⟩ (fun r17 hr17 => ?_)
    refine pu_Vi (rest := []) S hC (k2_Names_find l γ A κ r17) meNames_find qw_941b68ccbe ⟨Nat.le_of_ble_eq_true rfl, Nat.le_of_ble_eq_true rfl⟩ (rv_2 hC hI) hI rfl hl.1 rfl (Nat.le_of_ble_eq_true rfl) dMeanings_name_26 ⟨Nat.zero_le _, Nat.zero_le _⟩ (fun r18 hr18 => ?_)
    refine lv_istore_n (lv' := [(2, .int r18), (0, .ref (γ.2.2.2 12)), (1, .int x1)]) hx hb dMeanings_name_29 rfl hl (by decide) rfl (fun ls hl => ?_)
    refine lv_iload_n hx hb dMeanings_name_30 rfl (lv_at hl 0 rfl) ?_
    refine lv_iconst (v := (-1)) hx hb dMeanings_name_31 (by decide) ?_
    refine lv_icmp_ne (tgt := 37) hx hb dMeanings_name_32 (by decide) (fun c19 => ?_) (fun c19 => ?_)
    · refine lv_aload_n hx hb dMeanings_name_37 rfl (lv_at hl 1 rfl) ?_
      refine of_get S hC (of_12_1 hI) in_Meanings rfl (by decide) qw_2a07109efc dMeanings_name_38 ?_
      refine lv_iload_n hx hb dMeanings_name_41 rfl (lv_at hl 0 rfl) ?_
      refine pu_Vi (rest := []) S hC (k2_Names_numberOf l γ A κ r18) meNames_numberOf qw_f03e5d487b ⟨Nat.le_of_ble_eq_true rfl, Nat.le_of_ble_eq_true rfl⟩ (rv_2 hC hI) hI rfl hl.1 rfl (Nat.le_of_ble_eq_true rfl) dMeanings_name_42 ⟨Nat.zero_le _, Nat.zero_le _⟩ (fun r20 hr20 => ?_)
      refine lv_istore_n (lv' := [(3, .int r20), (2, .int r18), (0, .ref (γ.2.2.2 12)), (1, .int x1)]) hx hb dMeanings_name_45 rfl hl (by decide) rfl (fun ls hl => ?_)
      refine lv_aload_n hx hb dMeanings_name_46 rfl (lv_at hl 2 rfl) ?_
      refine of_get S hC (of_12_1 hI) in_Meanings rfl (by decide) qw_2a07109efc dMeanings_name_47 ?_
      refine lv_iload_n hx hb dMeanings_name_50 rfl (lv_at hl 1 rfl) ?_
      refine pu_Vi (rest := []) S hC (k2_Names_sortOf l γ A κ r18) meNames_sortOf qw_79c9b178a8 ⟨Nat.le_of_ble_eq_true rfl, Nat.le_of_ble_eq_true rfl⟩ (rv_2 hC hI) hI rfl hl.1 rfl (Nat.le_of_ble_eq_true rfl) dMeanings_name_51 ⟨Nat.zero_le _, Nat.zero_le _⟩ (fun r21 hr21 => ?_)
      by_cases k22 : r21 = 2
      · subst k22
        refine lv_tableIn (tgt := 80) hx hb dMeanings_name_54 (by decide) (by decide) rfl (by decide) ?_
        refine lv_aload_n hx hb dMeanings_name_80 rfl (lv_at hl 2 rfl) ?_
        refine lv_iload_n hx hb dMeanings_name_81 rfl (lv_at hl 3 rfl) ?_
        refine lv_iload_n hx hb dMeanings_name_82 rfl (lv_at hl 0 rfl) ?_
        refine mu_Vv (rest := []) S hC (fun q h => hA q (Nat.le_trans hS.1 h)) (fun q h => h) hS (k_Meanings_noteObject l γ A κ x1 r20) meMeanings_noteObject qw_2c479d8bd0 ⟨Nat.le_of_ble_eq_true rfl, Nat.le_of_ble_eq_true rfl⟩ (rv_12 hC hI) hI rfl hl.1 rfl (Nat.le_of_ble_eq_true rfl) dMeanings_name_83 ⟨Nat.le_refl _, Nat.le_refl _⟩ (fun H locs hI hS _ _ => ?_)
        refine lv_iconst (v := 0) hx hb dMeanings_name_86 (by decide) ?_
        exact hE _ _ _ _ _ hS ⟨trivial, hI⟩ dMeanings_name_87
      by_cases k24 : r21 = 3
      · subst k24
        refine lv_tableIn (tgt := 88) hx hb dMeanings_name_54 (by decide) (by decide) rfl (by decide) ?_
        refine lv_aload_n hx hb dMeanings_name_88 rfl (lv_at hl 2 rfl) ?_
        refine lv_iload_n hx hb dMeanings_name_89 rfl (lv_at hl 3 rfl) ?_
        refine lv_iconst (v := 4) hx hb dMeanings_name_90 (by decide) ?_
        refine lv_iload_n hx hb dMeanings_name_91 rfl (lv_at hl 0 rfl) ?_
        refine lv_aload_n hx hb dMeanings_name_92 rfl (lv_at hl 2 rfl) ?_
        refine of_get S hC (of_12_1 hI) in_Meanings rfl (by decide) qw_2a07109efc dMeanings_name_93 ?_
        refine lv_iload_n hx hb dMeanings_name_96 rfl (lv_at hl 1 rfl) ?_
        refine pu_Vi (rest := [.int r20, .int 4, .int x1, .ref (γ.2.2.2 12)]) S hC (k2_Names_partOf l γ A κ r18) meNames_partOf qw_0d0f2aa427 ⟨Nat.le_of_ble_eq_true rfl, Nat.le_of_ble_eq_true rfl⟩ (rv_2 hC hI) hI rfl hl.1 rfl (Nat.le_of_ble_eq_true rfl) dMeanings_name_97 ⟨Nat.zero_le _, Nat.zero_le _⟩ (fun r25 hr25 => ?_)
        refine mu_Vv (rest := []) S hC (fun q h => hA q (Nat.le_trans hS.1 h)) (fun q h => h) hS (k_Meanings_noteValue l γ A κ x1 4 r20 r25) meMeanings_noteValue qw_c5322992c7 ⟨Nat.le_of_ble_eq_true rfl, Nat.le_of_ble_eq_true rfl⟩ (rv_12 hC hI) hI rfl hl.1 rfl (Nat.le_of_ble_eq_true rfl) dMeanings_name_100 ⟨Nat.le_refl _, Nat.le_refl _⟩ (fun H locs hI hS _ _ => ?_)
        refine lv_iconst (v := 0) hx hb dMeanings_name_103 (by decide) ?_
        exact hE _ _ _ _ _ hS ⟨trivial, hI⟩ dMeanings_name_104
      by_cases k27 : r21 = 4
      · subst k27
        refine lv_tableIn (tgt := 105) hx hb dMeanings_name_54 (by decide) (by decide) rfl (by decide) ?_
        refine lv_aload_n hx hb dMeanings_name_105 rfl (lv_at hl 2 rfl) ?_
        refine lv_iload_n hx hb dMeanings_name_106 rfl (lv_at hl 3 rfl) ?_
        refine lv_iconst (v := 1) hx hb dMeanings_name_107 (by decide) ?_
        refine lv_iconst (v := 0) hx hb dMeanings_name_108 (by decide) ?_
        refine lv_iload_n hx hb dMeanings_name_109 rfl (lv_at hl 0 rfl) ?_
        refine mu_Vv (rest := []) S hC (fun q h => hA q (Nat.le_trans hS.1 h)) (fun q h => h) hS (k_Meanings_noteValue l γ A κ x1 1 0 r20) meMeanings_noteValue qw_c5322992c7 ⟨Nat.le_of_ble_eq_true rfl, Nat.le_of_ble_eq_true rfl⟩ (rv_12 hC hI) hI rfl hl.1 rfl (Nat.le_of_ble_eq_true rfl) dMeanings_name_110 ⟨Nat.le_refl _, Nat.le_refl _⟩ (fun H locs hI hS _ _ => ?_)
        refine lv_iconst (v := 0) hx hb dMeanings_name_113 (by decide) ?_
        exact hE _ _ _ _ _ hS ⟨trivial, hI⟩ dMeanings_name_114
      refine lv_tableOut (tgt := 115) hx hb dMeanings_name_54 (by have qk22 := lv_neT (a := 2) k22 (by decide); have qk24 := lv_neT (a := 3) k24 (by decide); have qk27 := lv_neT (a := 4) k27 (by decide); omega) (by decide) ?_
      refine lv_iconst (v := 2) hx hb dMeanings_name_115 (by decide) ?_
      exact hE _ _ _ _ _ hS ⟨trivial, hI⟩ dMeanings_name_116
    · refine lv_iconst (v := 1) hx hb dMeanings_name_35 (by decide) ?_
      exact hE _ _ _ _ _ hS ⟨trivial, hI⟩ dMeanings_name_36
  · refine lv_bipush (v := 11) hx hb dMeanings_name_11 (by decide) ?_
    exact hE _ _ _ _ _ hS ⟨trivial, hI⟩ dMeanings_name_13

set_option maxHeartbeats 4000000 in
set_option maxRecDepth 100000 in
theorem k_Meanings_element (l : Launch) (γ : gE) (A : Nat → Prop) (κ : Nat → Nat) (x1 : Int32) (x2 : Int32) (x3 : Int32) : MU l yMeanings_element bMeanings_element 5 (some .int) 3 66 0 0 [.ref (γ.2.2.2 12), .int x1, .int x2, .int x3] γ A (INV γ A κ) (mQi (fun r H => True ∧ INV γ A κ H) A) := by
  refine mu_openI (by decide) (Nat.le_of_ble_eq_true rfl) ?_
  intro p e s m args below meth c ls Q S hnm hC hA hI hE hl
  obtain ⟨hx, hb, hml, hown, hW⟩ := id S
  have hS : va_S A s.heap s.heap [] := va_S.rf
  have hl : lv_has ls 5 [(0, .ref (γ.2.2.2 12)), (1, .int x1), (2, .int x2), (3, .int x3)] := hl
  have J45 : ∀ (ls : Array Slot) (H : Heap) (locs : List Loc) (i1 : Int32) (i2 : Int32) (i3 : Int32) (t0 : Int32) (t1 : Int32) (t2 : Int32) (t3 : Int32), INV γ A κ H → va_S A s.heap H locs → lv_has ls 5 [(0, .ref (γ.2.2.2 12)), (1, .int i1), (2, .int i2), (3, .int i3)] → W p l e (bs_rm 3 0 0 66) s m args below meth c H locs 0 0 Q (F0 m 45 ls [.int t0, .int t1, .int t2, .int t3, .ref (γ.2.2.2 9)]) := by
    intro ls H locs i1 i2 i3 t0 t1 t2 t3 hI hS hl
    refine mu_Vv (rest := []) S hC (fun q h => hA q (Nat.le_trans hS.1 h)) (fun q h => h) hS (k9_Looks_note l γ A κ t3 t2 t1 t0) meLooks_note qw_454d4ae88d ⟨Nat.le_of_ble_eq_true rfl, Nat.le_of_ble_eq_true rfl⟩ (rv_9 hC hI) hI rfl hl.1 rfl (Nat.le_of_ble_eq_true rfl) dMeanings_element_45 ⟨Nat.le_refl _, Nat.le_refl _⟩ (fun H locs hI hS _ _ => ?_)
    refine lv_aload_n hx hb dMeanings_element_48 rfl (lv_at hl 0 rfl) ?_
    refine of_get S hC (of_12_4 hI) in_Meanings rfl (by decide) qw_aa3d3bbcf9 dMeanings_element_49 ?_
    refine lv_iload_n hx hb dMeanings_element_52 rfl (lv_at hl 1 rfl) ?_
    refine lv_iload_n hx hb dMeanings_element_53 rfl (lv_at hl 2 rfl) ?_
    refine mu_Vv (rest := []) S hC (fun q h => hA q (Nat.le_trans hS.1 h)) (fun q h => h) hS (k9_Looks_setMeaning l γ A κ i1 i2) meLooks_setMeaning qw_23315a9189 ⟨Nat.le_of_ble_eq_true rfl, Nat.le_of_ble_eq_true rfl⟩ (rv_9 hC hI) hI rfl hl.1 rfl (Nat.le_of_ble_eq_true rfl) dMeanings_element_54 ⟨Nat.le_refl _, Nat.le_refl _⟩ (fun H locs hI hS _ _ => ?_)
    refine lv_aload_n hx hb dMeanings_element_57 rfl (lv_at hl 0 rfl) ?_
    refine of_get S hC (of_12_4 hI) in_Meanings rfl (by decide) qw_aa3d3bbcf9 dMeanings_element_58 ?_
    refine lv_iload_n hx hb dMeanings_element_61 rfl (lv_at hl 3 rfl) ?_
    refine pu_Vi (rest := []) S hC (k9_Looks_isFixed l γ A κ i3) meLooks_isFixed qw_e1e43cfc73 ⟨Nat.le_of_ble_eq_true rfl, Nat.le_of_ble_eq_true rfl⟩ (rv_9 hC hI) hI rfl hl.1 rfl (Nat.le_of_ble_eq_true rfl) dMeanings_element_62 ⟨Nat.zero_le _, Nat.zero_le _⟩ (fun r19 hr19 => ?_)
    refine lv_if_ne (tgt := 70) hx hb dMeanings_element_65 (by decide) (fun c20 => ?_) (fun c20 => ?_)
    · refine lv_aload_n hx hb dMeanings_element_70 rfl (lv_at hl 0 rfl) ?_
      refine of_get S hC (of_12_2 hI) in_Meanings rfl (by decide) qw_e2a2dba4a9 dMeanings_element_71 ?_
      refine lv_aload_n hx hb dMeanings_element_74 rfl (lv_at hl 0 rfl) ?_
      refine of_get S hC (of_12_3 hI) in_Meanings rfl (by decide) qw_9bfdade5f5 dMeanings_element_75 ?_
      refine lv_iload_n hx hb dMeanings_element_78 rfl (lv_at hl 2 rfl) ?_
      refine pu_Vi (rest := [.ref (γ.2.2.2 3)]) S hC (k4_Objects_typeOfObject l γ A κ i2) meObjects_typeOfObject qw_bc7306873f ⟨Nat.le_of_ble_eq_true rfl, Nat.le_of_ble_eq_true rfl⟩ (rv_4 hC hI) hI rfl hl.1 rfl (Nat.le_of_ble_eq_true rfl) dMeanings_element_79 ⟨Nat.zero_le _, Nat.zero_le _⟩ (fun r21 hr21 => ?_)
      refine lv_aload_n hx hb dMeanings_element_82 rfl (lv_at hl 0 rfl) ?_
      refine of_get S hC (of_12_4 hI) in_Meanings rfl (by decide) qw_aa3d3bbcf9 dMeanings_element_83 ?_
      refine lv_iload_n hx hb dMeanings_element_86 rfl (lv_at hl 3 rfl) ?_
      refine pu_Vi (rest := [.int r21, .ref (γ.2.2.2 3)]) S hC (k9_Looks_numberOf l γ A κ i3) meLooks_numberOf qw_58178e0f63 ⟨Nat.le_of_ble_eq_true rfl, Nat.le_of_ble_eq_true rfl⟩ (rv_9 hC hI) hI rfl hl.1 rfl (Nat.le_of_ble_eq_true rfl) dMeanings_element_87 ⟨Nat.zero_le _, Nat.zero_le _⟩ (fun r22 hr22 => ?_)
      refine pu_Vi (rest := []) S hC (k3_Types_fromRight l γ A κ r21 r22) meTypes_fromRight qw_de7e185c5e ⟨Nat.le_of_ble_eq_true rfl, Nat.le_of_ble_eq_true rfl⟩ (rv_3 hC hI) hI rfl hl.1 rfl (Nat.le_of_ble_eq_true rfl) dMeanings_element_90 ⟨Nat.zero_le _, Nat.zero_le _⟩ (fun r23 hr23 => ?_)
      refine lv_istore (lv' := [(4, .int r23), (0, .ref (γ.2.2.2 12)), (1, .int i1), (2, .int i2), (3, .int i3)]) hx hb dMeanings_element_93 hl (by decide) rfl (fun ls hl => ?_)
      refine lv_iload hx hb dMeanings_element_95 (lv_at hl 0 rfl) ?_
      refine lv_iconst (v := (-1)) hx hb dMeanings_element_97 (by decide) ?_
      refine lv_icmp_ne (tgt := 104) hx hb dMeanings_element_98 (by decide) (fun c24 => ?_) (fun c24 => ?_)
      · refine lv_aload_n hx hb dMeanings_element_104 rfl (lv_at hl 1 rfl) ?_
        refine of_get S hC (of_12_4 hI) in_Meanings rfl (by decide) qw_aa3d3bbcf9 dMeanings_element_105 ?_
        refine lv_iload_n hx hb dMeanings_element_108 rfl (lv_at hl 2 rfl) ?_
        refine lv_aload_n hx hb dMeanings_element_109 rfl (lv_at hl 1 rfl) ?_
        refine of_get S hC (of_12_3 hI) in_Meanings rfl (by decide) qw_9bfdade5f5 dMeanings_element_110 ?_
        refine of_getN S hC (of_4_3 hI) in_Objects rfl (by decide) qn_d1f72cec6f dMeanings_element_113 ?_
        refine lv_iload_n hx hb dMeanings_element_116 rfl (lv_at hl 3 rfl) ?_
        refine lv_iload hx hb dMeanings_element_117 (lv_at hl 0 rfl) ?_
        refine pu_Vi (rest := [.int i1, .ref (γ.2.2.2 9)]) S hC (k5_Rows_get l γ A κ i2 r23) meRows_get qw_a0ada774ee ⟨Nat.le_of_ble_eq_true rfl, Nat.le_of_ble_eq_true rfl⟩ (rv_5 hC hI) hI rfl hl.1 rfl (Nat.le_of_ble_eq_true rfl) dMeanings_element_119 ⟨Nat.zero_le _, Nat.zero_le _⟩ (fun r25 hr25 => ?_)
        refine mu_Vv (rest := []) S hC (fun q h => hA q (Nat.le_trans hS.1 h)) (fun q h => h) hS (k9_Looks_setNumber l γ A κ i1 r25) meLooks_setNumber qw_86190d2de0 ⟨Nat.le_of_ble_eq_true rfl, Nat.le_of_ble_eq_true rfl⟩ (rv_9 hC hI) hI rfl hl.1 rfl (Nat.le_of_ble_eq_true rfl) dMeanings_element_122 ⟨Nat.le_refl _, Nat.le_refl _⟩ (fun H locs hI hS _ _ => ?_)
        refine lv_iconst (v := 0) hx hb dMeanings_element_125 (by decide) ?_
        exact hE _ _ _ _ _ hS ⟨trivial, hI⟩ dMeanings_element_126
      · refine lv_bipush (v := 6) hx hb dMeanings_element_101 (by decide) ?_
        exact hE _ _ _ _ _ hS ⟨trivial, hI⟩ dMeanings_element_103
    · refine lv_iconst (v := 0) hx hb dMeanings_element_68 (by decide) ?_
      exact hE _ _ _ _ _ hS ⟨trivial, hI⟩ dMeanings_element_69
  have J44 : ∀ (ls : Array Slot) (H : Heap) (locs : List Loc) (i1 : Int32) (i2 : Int32) (i3 : Int32) (t0 : Int32) (t1 : Int32) (t2 : Int32), INV γ A κ H → va_S A s.heap H locs → lv_has ls 5 [(0, .ref (γ.2.2.2 12)), (1, .int i1), (2, .int i2), (3, .int i3)] → W p l e (bs_rm 3 0 0 66) s m args below meth c H locs 0 0 Q (F0 m 44 ls [.int t0, .int t1, .int t2, .ref (γ.2.2.2 9)]) := by
    intro ls H locs i1 i2 i3 t0 t1 t2 hI hS hl
    refine lv_iconst (v := 0) hx hb dMeanings_element_44 (by decide) ?_
    exact J45 ls _ _ i1 i2 i3 0 t0 t1 t2 hI hS (lv_sub hl [0, 1, 2, 3] rfl)
  refine lv_aload_n hx hb dMeanings_element_0 rfl (lv_at hl 0 rfl) ?_
  refine of_get S hC (of_12_4 hI) in_Meanings rfl (by decide) qw_aa3d3bbcf9 dMeanings_element_1 ?_
  refine lv_iload_n hx hb dMeanings_element_4 rfl (lv_at hl 3 rfl) ?_
  refine pu_Vi (rest := []) S hC (k9_Looks_classOf l γ A κ x3) meLooks_classOf qw_631ccf37b6 ⟨Nat.le_of_ble_eq_true rfl, Nat.le_of_ble_eq_true rfl⟩ (rv_9 hC hI) hI rfl hl.1 rfl (Nat.le_of_ble_eq_true rfl) dMeanings_element_5 ⟨Nat.zero_le _, Nat.zero_le _⟩ (fun r27 hr27 => ?_)
  refine lv_iconst (v := 2) hx hb dMeanings_element_8 (by decide) ?_
  refine lv_icmp_eq (tgt := 14) hx hb dMeanings_element_9 (by decide) (fun c28 => ?_) (fun c28 => ?_)
  · refine lv_aload_n hx hb dMeanings_element_14 rfl (lv_at hl 0 rfl) ?_
    refine of_get S hC (of_12_4 hI) in_Meanings rfl (by decide) qw_aa3d3bbcf9 dMeanings_element_15 ?_
    refine lv_iload_n hx hb dMeanings_element_18 rfl (lv_at hl 1 rfl) ?_
    refine lv_iconst (v := 0) hx hb dMeanings_element_19 (by decide) ?_
    refine lv_iconst (v := 0) hx hb dMeanings_element_20 (by decide) ?_
    refine lv_aload_n hx hb dMeanings_element_21 rfl (lv_at hl 0 rfl) ?_
    refine lv_iload_n hx hb dMeanings_element_22 rfl (lv_at hl 2 rfl) ?_
    refine pu_Vi (rest := [.int 0, .int 0, .int x1, .ref (γ.2.2.2 9)]) S hC (k_Meanings_isConstant l γ A κ x2) meMeanings_isConstant qw_39c162a16b ⟨Nat.le_of_ble_eq_true rfl, Nat.le_of_ble_eq_true rfl⟩ (rv_12 hC hI) hI rfl hl.1 rfl (Nat.le_of_ble_eq_true rfl) dMeanings_element_23 ⟨Nat.zero_le _, Nat.zero_le _⟩ (fun r29 hr29 => ?_)
    refine lv_if_eq (tgt := 44) hx hb dMeanings_element_26 (by decide) (fun c30 => ?_) (fun c30 => ?_)
    · exact J44 ls _ _ x1 x2 x3 0 0 x1 hI hS (lv_sub hl [0, 1, 2, 3] rfl)
    · refine lv_aload_n hx hb dMeanings_element_29 rfl (lv_at hl 0 rfl) ?_
      refine of_get S hC (of_12_4 hI) in_Meanings rfl (by decide) qw_aa3d3bbcf9 dMeanings_element_30 ?_
      refine lv_iload_n hx hb dMeanings_element_33 rfl (lv_at hl 3 rfl) ?_
      refine pu_Vi (rest := [.int 0, .int 0, .int x1, .ref (γ.2.2.2 9)]) S hC (k9_Looks_isFixed l γ A κ x3) meLooks_isFixed qw_e1e43cfc73 ⟨Nat.le_of_ble_eq_true rfl, Nat.le_of_ble_eq_true rfl⟩ (rv_9 hC hI) hI rfl hl.1 rfl (Nat.le_of_ble_eq_true rfl) dMeanings_element_34 ⟨Nat.zero_le _, Nat.zero_le _⟩ (fun r31 hr31 => ?_)
      refine lv_if_eq (tgt := 44) hx hb dMeanings_element_37 (by decide) (fun c32 => ?_) (fun c32 => ?_)
      · exact J44 ls _ _ x1 x2 x3 0 0 x1 hI hS (lv_sub hl [0, 1, 2, 3] rfl)
      · refine lv_iconst (v := 1) hx hb dMeanings_element_40 (by decide) ?_
        refine lv_goto (tgt := 45) hx hb dMeanings_element_41 (by decide) ?_
        exact J45 ls _ _ x1 x2 x3 1 0 0 x1 hI hS (lv_sub hl [0, 1, 2, 3] rfl)
  · refine lv_iconst (v := 3) hx hb dMeanings_element_12 (by decide) ?_
    exact hE _ _ _ _ _ hS ⟨trivial, hI⟩ dMeanings_element_13

set_option maxHeartbeats 4000000 in
set_option maxRecDepth 100000 in
theorem k_Meanings_edge (l : Launch) (γ : gE) (A : Nat → Prop) (κ : Nat → Nat) (x1 : Int32) (x2 : Int32) : MU l yMeanings_edge bMeanings_edge 3 (some .int) 2 45 0 0 [.ref (γ.2.2.2 12), .int x1, .int x2] γ A (INV γ A κ) (mQi (fun r H => True ∧ INV γ A κ H) A) := by
  refine mu_openI (by decide) (Nat.le_of_ble_eq_true rfl) ?_
  intro p e s m args below meth c ls Q S hnm hC hA hI hE hl
  obtain ⟨hx, hb, hml, hown, hW⟩ := id S
  have hS : va_S A s.heap s.heap [] := va_S.rf
  have hl : lv_has ls 3 [(0, .ref (γ.2.2.2 12)), (1, .int x1), (2, .int x2)] := hl
  refine lv_aload_n hx hb dMeanings_edge_0 rfl (lv_at hl 0 rfl) ?_
  refine of_get S hC (of_12_0 hI) in_Meanings rfl (by decide) qw_c54cffb97e dMeanings_edge_1 ?_
  refine lv_iload_n hx hb dMeanings_edge_4 rfl (lv_at hl 2 rfl) ?_
  refine pu_Vi (rest := []) S hC (k1_Trees_kindOf l γ A κ x2) meTrees_kindOf qw_6dd2778f5c ⟨Nat.le_of_ble_eq_true rfl, Nat.le_of_ble_eq_true rfl⟩ (rv_1 hC hI) hI rfl hl.1 rfl (Nat.le_of_ble_eq_true rfl) dMeanings_edge_5 ⟨Nat.zero_le _, Nat.zero_le _⟩ (fun r9 hr9 => ?_)
  refine lv_iconst (v := 1) hx hb dMeanings_edge_8 (by decide) ?_
  refine lv_icmp_eq (tgt := 15) hx hb dMeanings_edge_9 (by decide) (fun c10 => ?_) (fun c10 => ?_)
  · refine lv_aload_n hx hb dMeanings_edge_15 rfl (lv_at hl 0 rfl) ?_
    refine of_get S hC (of_12_3 hI) in_Meanings rfl (by decide) qw_9bfdade5f5 dMeanings_edge_16 ?_
    refine lv_aload_n hx hb dMeanings_edge_19 rfl (lv_at hl 0 rfl) ?_
    refine of_get S hC (of_12_4 hI) in_Meanings rfl (by decide) qw_aa3d3bbcf9 dMeanings_edge_20 ?_
    refine lv_iload_n hx hb dMeanings_edge_23 rfl (lv_at hl 2 rfl) ?_
    refine pu_Vi (rest := [.ref (γ.2.2.2 4)]) S hC (k9_Looks_meaningOf l γ A κ x2) meLooks_meaningOf qw_9ed826734f ⟨Nat.le_of_ble_eq_true rfl, Nat.le_of_ble_eq_true rfl⟩ (rv_9 hC hI) hI rfl hl.1 rfl (Nat.le_of_ble_eq_true rfl) dMeanings_edge_24 ⟨Nat.zero_le _, Nat.zero_le _⟩ (fun r11 hr11 => ?_)
    refine pu_Vi (rest := []) S hC (k4_Objects_whatOf l γ A κ r11) meObjects_whatOf qw_2c7313498c ⟨Nat.le_of_ble_eq_true rfl, Nat.le_of_ble_eq_true rfl⟩ (rv_4 hC hI) hI rfl hl.1 rfl (Nat.le_of_ble_eq_true rfl) dMeanings_edge_27 ⟨Nat.zero_le _, Nat.zero_le _⟩ (fun r12 hr12 => ?_)
    refine lv_iconst (v := 1) hx hb dMeanings_edge_30 (by decide) ?_
    refine lv_icmp_eq (tgt := 36) hx hb dMeanings_edge_31 (by decide) (fun c13 => ?_) (fun c13 => ?_)
    · refine lv_aload_n hx hb dMeanings_edge_36 rfl (lv_at hl 0 rfl) ?_
      refine of_get S hC (of_12_4 hI) in_Meanings rfl (by decide) qw_aa3d3bbcf9 dMeanings_edge_37 ?_
      refine lv_iload_n hx hb dMeanings_edge_40 rfl (lv_at hl 2 rfl) ?_
      refine pu_Vi (rest := []) S hC (k9_Looks_classOf l γ A κ x2) meLooks_classOf qw_631ccf37b6 ⟨Nat.le_of_ble_eq_true rfl, Nat.le_of_ble_eq_true rfl⟩ (rv_9 hC hI) hI rfl hl.1 rfl (Nat.le_of_ble_eq_true rfl) dMeanings_edge_41 ⟨Nat.zero_le _, Nat.zero_le _⟩ (fun r14 hr14 => ?_)
      refine lv_if_eq (tgt := 49) hx hb dMeanings_edge_44 (by decide) (fun c15 => ?_) (fun c15 => ?_)
      · refine lv_aload_n hx hb dMeanings_edge_49 rfl (lv_at hl 0 rfl) ?_
        refine of_get S hC (of_12_4 hI) in_Meanings rfl (by decide) qw_aa3d3bbcf9 dMeanings_edge_50 ?_
        refine lv_iload_n hx hb dMeanings_edge_53 rfl (lv_at hl 1 rfl) ?_
        refine lv_iconst (v := 1) hx hb dMeanings_edge_54 (by decide) ?_
        refine lv_iconst (v := 0) hx hb dMeanings_edge_55 (by decide) ?_
        refine lv_iconst (v := 0) hx hb dMeanings_edge_56 (by decide) ?_
        refine mu_Vv (rest := []) S hC (fun q h => hA q (Nat.le_trans hS.1 h)) (fun q h => h) hS (k9_Looks_note l γ A κ x1 1 0 0) meLooks_note qw_454d4ae88d ⟨Nat.le_of_ble_eq_true rfl, Nat.le_of_ble_eq_true rfl⟩ (rv_9 hC hI) hI rfl hl.1 rfl (Nat.le_of_ble_eq_true rfl) dMeanings_edge_57 ⟨Nat.le_refl _, Nat.le_refl _⟩ (fun H locs hI hS _ _ => ?_)
        refine lv_iconst (v := 0) hx hb dMeanings_edge_60 (by decide) ?_
        exact hE _ _ _ _ _ hS ⟨trivial, hI⟩ dMeanings_edge_61
      · refine lv_iconst (v := 3) hx hb dMeanings_edge_47 (by decide) ?_
        exact hE _ _ _ _ _ hS ⟨trivial, hI⟩ dMeanings_edge_48
    · refine lv_iconst (v := 2) hx hb dMeanings_edge_34 (by decide) ?_
      exact hE _ _ _ _ _ hS ⟨trivial, hI⟩ dMeanings_edge_35
  · refine lv_bipush (v := 11) hx hb dMeanings_edge_12 (by decide) ?_
    exact hE _ _ _ _ _ hS ⟨trivial, hI⟩ dMeanings_edge_14

set_option maxHeartbeats 4000000 in
set_option maxRecDepth 100000 in
theorem k_Meanings_numberOfRow (l : Launch) (γ : gE) (A : Nat → Prop) (κ : Nat → Nat) (x1 : Int32) (x2 : Int32) : MU l yMeanings_numberOfRow bMeanings_numberOfRow 6 (some .int) 2 47 0 0 [.ref (γ.2.2.2 12), .int x1, .int x2] γ A (INV γ A κ) (mQi (fun r H => True ∧ INV γ A κ H) A) := by
  refine mu_openI (by decide) (Nat.le_of_ble_eq_true rfl) ?_
  intro p e s m args below meth c ls Q S hnm hC hA hI hE hl
  obtain ⟨hx, hb, hml, hown, hW⟩ := id S
  have hS : va_S A s.heap s.heap [] := va_S.rf
  have hl : lv_has ls 6 [(0, .ref (γ.2.2.2 12)), (1, .int x1), (2, .int x2)] := hl
  refine lv_aload_n hx hb dMeanings_numberOfRow_0 rfl (lv_at hl 0 rfl) ?_
  refine of_get S hC (of_12_4 hI) in_Meanings rfl (by decide) qw_aa3d3bbcf9 dMeanings_numberOfRow_1 ?_
  refine lv_iload_n hx hb dMeanings_numberOfRow_4 rfl (lv_at hl 2 rfl) ?_
  refine pu_Vi (rest := []) S hC (k9_Looks_classOf l γ A κ x2) meLooks_classOf qw_631ccf37b6 ⟨Nat.le_of_ble_eq_true rfl, Nat.le_of_ble_eq_true rfl⟩ (rv_9 hC hI) hI rfl hl.1 rfl (Nat.le_of_ble_eq_true rfl) dMeanings_numberOfRow_5 ⟨Nat.zero_le _, Nat.zero_le _⟩ (fun r17 hr17 => ?_)
  refine lv_iconst (v := 3) hx hb dMeanings_numberOfRow_8 (by decide) ?_
  refine lv_icmp_eq (tgt := 14) hx hb dMeanings_numberOfRow_9 (by decide) (fun c18 => ?_) (fun c18 => ?_)
  · refine lv_aload_n hx hb dMeanings_numberOfRow_14 rfl (lv_at hl 0 rfl) ?_
    refine of_get S hC (of_12_4 hI) in_Meanings rfl (by decide) qw_aa3d3bbcf9 dMeanings_numberOfRow_15 ?_
    refine lv_iload_n hx hb dMeanings_numberOfRow_18 rfl (lv_at hl 1 rfl) ?_
    refine lv_iconst (v := 2) hx hb dMeanings_numberOfRow_19 (by decide) ?_
    refine lv_iconst (v := 0) hx hb dMeanings_numberOfRow_20 (by decide) ?_
    refine lv_aload_n hx hb dMeanings_numberOfRow_21 rfl (lv_at hl 0 rfl) ?_
    refine of_get S hC (of_12_4 hI) in_Meanings rfl (by decide) qw_aa3d3bbcf9 dMeanings_numberOfRow_22 ?_
    refine lv_iload_n hx hb dMeanings_numberOfRow_25 rfl (lv_at hl 2 rfl) ?_
    refine pu_Vi (rest := [.int 0, .int 2, .int x1, .ref (γ.2.2.2 9)]) S hC (k9_Looks_isFixed l γ A κ x2) meLooks_isFixed qw_e1e43cfc73 ⟨Nat.le_of_ble_eq_true rfl, Nat.le_of_ble_eq_true rfl⟩ (rv_9 hC hI) hI rfl hl.1 rfl (Nat.le_of_ble_eq_true rfl) dMeanings_numberOfRow_26 ⟨Nat.zero_le _, Nat.zero_le _⟩ (fun r19 hr19 => ?_)
    refine mu_Vv (rest := []) S hC (fun q h => hA q (Nat.le_trans hS.1 h)) (fun q h => h) hS (k9_Looks_note l γ A κ x1 2 0 r19) meLooks_note qw_454d4ae88d ⟨Nat.le_of_ble_eq_true rfl, Nat.le_of_ble_eq_true rfl⟩ (rv_9 hC hI) hI rfl hl.1 rfl (Nat.le_of_ble_eq_true rfl) dMeanings_numberOfRow_29 ⟨Nat.le_refl _, Nat.le_refl _⟩ (fun H locs hI hS _ _ => ?_)
    refine lv_aload_n hx hb dMeanings_numberOfRow_32 rfl (lv_at hl 0 rfl) ?_
    refine of_get S hC (of_12_4 hI) in_Meanings rfl (by decide) qw_aa3d3bbcf9 dMeanings_numberOfRow_33 ?_
    refine lv_iload_n hx hb dMeanings_numberOfRow_36 rfl (lv_at hl 2 rfl) ?_
    refine pu_Vi (rest := []) S hC (k9_Looks_isFixed l γ A κ x2) meLooks_isFixed qw_e1e43cfc73 ⟨Nat.le_of_ble_eq_true rfl, Nat.le_of_ble_eq_true rfl⟩ (rv_9 hC hI) hI rfl hl.1 rfl (Nat.le_of_ble_eq_true rfl) dMeanings_numberOfRow_37 ⟨Nat.zero_le _, Nat.zero_le _⟩ (fun r21 hr21 => ?_)
    refine lv_if_ne (tgt := 45) hx hb dMeanings_numberOfRow_40 (by decide) (fun c22 => ?_) (fun c22 => ?_)
    · refine lv_aload_n hx hb dMeanings_numberOfRow_45 rfl (lv_at hl 0 rfl) ?_
      refine of_get S hC (of_12_4 hI) in_Meanings rfl (by decide) qw_aa3d3bbcf9 dMeanings_numberOfRow_46 ?_
      refine lv_iload_n hx hb dMeanings_numberOfRow_49 rfl (lv_at hl 2 rfl) ?_
      refine pu_Vi (rest := []) S hC (k9_Looks_extentOf l γ A κ x2) meLooks_extentOf qw_6a27f80c36 ⟨Nat.le_of_ble_eq_true rfl, Nat.le_of_ble_eq_true rfl⟩ (rv_9 hC hI) hI rfl hl.1 rfl (Nat.le_of_ble_eq_true rfl) dMeanings_numberOfRow_50 ⟨Nat.zero_le _, Nat.zero_le _⟩ (fun r23 hr23 => ?_)
      refine lv_istore_n (lv' := [(3, .int r23), (0, .ref (γ.2.2.2 12)), (1, .int x1), (2, .int x2)]) hx hb dMeanings_numberOfRow_53 rfl hl (by decide) rfl (fun ls hl => ?_)
      refine lv_aload_n hx hb dMeanings_numberOfRow_54 rfl (lv_at hl 1 rfl) ?_
      refine of_get S hC (of_12_4 hI) in_Meanings rfl (by decide) qw_aa3d3bbcf9 dMeanings_numberOfRow_55 ?_
      refine of_getN S hC (of_9_5 hI) in_Looks rfl (by decide) qn_3420aee8ba dMeanings_numberOfRow_58 ?_
      refine lv_iload_n hx hb dMeanings_numberOfRow_61 rfl (lv_at hl 3 rfl) ?_
      refine lv_iload_n hx hb dMeanings_numberOfRow_62 rfl (lv_at hl 0 rfl) ?_
      refine pu_Vl (rest := []) S hC (k10_Rows_bitsOf l γ A κ x2 r23) meRows_bitsOf qw_94e5b643f7 ⟨Nat.le_of_ble_eq_true rfl, Nat.le_of_ble_eq_true rfl⟩ (rv_10 hC hI) hI rfl hl.1 rfl (Nat.le_of_ble_eq_true rfl) dMeanings_numberOfRow_63 ⟨Nat.zero_le _, Nat.zero_le _⟩ (fun r24 hr24 => ?_)
      refine lv_lstore (lv' := [(4, .long r24), (3, .int r23), (0, .ref (γ.2.2.2 12)), (1, .int x1), (2, .int x2)]) hx hb dMeanings_numberOfRow_66 hl (by decide) rfl (fun ls hl => ?_)
      refine lv_aload_n hx hb dMeanings_numberOfRow_68 rfl (lv_at hl 2 rfl) ?_
      refine of_get S hC (of_12_4 hI) in_Meanings rfl (by decide) qw_aa3d3bbcf9 dMeanings_numberOfRow_69 ?_
      refine of_getN S hC (of_9_5 hI) in_Looks rfl (by decide) qn_3420aee8ba dMeanings_numberOfRow_72 ?_
      refine lv_iload_n hx hb dMeanings_numberOfRow_75 rfl (lv_at hl 4 rfl) ?_
      refine lv_iload_n hx hb dMeanings_numberOfRow_76 rfl (lv_at hl 1 rfl) ?_
      refine pu_Vi (rest := []) S hC (k10_Rows_isClear l γ A κ x2 r23) meRows_isClear qw_fd05335de5 ⟨Nat.le_of_ble_eq_true rfl, Nat.le_of_ble_eq_true rfl⟩ (rv_10 hC hI) hI rfl hl.1 rfl (Nat.le_of_ble_eq_true rfl) dMeanings_numberOfRow_77 ⟨Nat.zero_le _, Nat.zero_le _⟩ (fun r25 hr25 => ?_)
      refine lv_if_eq (tgt := 99) hx hb dMeanings_numberOfRow_80 (by decide) (fun c26 => ?_) (fun c26 => ?_)
      · refine lv_bipush (v := 9) hx hb dMeanings_numberOfRow_99 (by decide) ?_
        exact hE _ _ _ _ _ hS ⟨trivial, hI⟩ dMeanings_numberOfRow_101
      · refine lv_lload hx hb dMeanings_numberOfRow_83 (lv_at hl 0 rfl) ?_
        refine lv_lconst (v := 0) hx hb dMeanings_numberOfRow_85 (by decide) ?_
        refine W.lcmp hx hb dMeanings_numberOfRow_86 ?_
        refine lv_topi (fun v27 ev27 => ?_)
        refine lv_if_lt (tgt := 99) hx hb dMeanings_numberOfRow_87 (by decide) (fun c28 => ?_) (fun c28 => ?_)
        · refine lv_bipush (v := 9) hx hb dMeanings_numberOfRow_99 (by decide) ?_
          exact hE _ _ _ _ _ hS ⟨trivial, hI⟩ dMeanings_numberOfRow_101
        · refine lv_lload hx hb dMeanings_numberOfRow_90 (lv_at hl 0 rfl) ?_
          refine lv_ldc2 (v := 2147483647) hx hb hown (hW _ qw_02cd7db582) dMeanings_numberOfRow_92 ?_
          refine W.lcmp hx hb dMeanings_numberOfRow_95 ?_
          refine lv_topi (fun v29 ev29 => ?_)
          refine lv_if_le (tgt := 102) hx hb dMeanings_numberOfRow_96 (by decide) (fun c30 => ?_) (fun c30 => ?_)
          · refine lv_aload_n hx hb dMeanings_numberOfRow_102 rfl (lv_at hl 2 rfl) ?_
            refine of_get S hC (of_12_4 hI) in_Meanings rfl (by decide) qw_aa3d3bbcf9 dMeanings_numberOfRow_103 ?_
            refine lv_iload_n hx hb dMeanings_numberOfRow_106 rfl (lv_at hl 3 rfl) ?_
            refine lv_lload hx hb dMeanings_numberOfRow_107 (lv_at hl 0 rfl) ?_
            refine lv_l2i hx hb dMeanings_numberOfRow_109 rfl ?_
            refine lv_topi (fun v31 ev31 => ?_)
            refine mu_Vv (rest := []) S hC (fun q h => hA q (Nat.le_trans hS.1 h)) (fun q h => h) hS (k9_Looks_setNumber l γ A κ x1 v31) meLooks_setNumber qw_86190d2de0 ⟨Nat.le_of_ble_eq_true rfl, Nat.le_of_ble_eq_true rfl⟩ (rv_9 hC hI) hI rfl hl.1 rfl (Nat.le_of_ble_eq_true rfl) dMeanings_numberOfRow_110 ⟨Nat.le_refl _, Nat.le_refl _⟩ (fun H locs hI hS _ _ => ?_)
            refine lv_iconst (v := 0) hx hb dMeanings_numberOfRow_113 (by decide) ?_
            exact hE _ _ _ _ _ hS ⟨trivial, hI⟩ dMeanings_numberOfRow_114
          · refine lv_bipush (v := 9) hx hb dMeanings_numberOfRow_99 (by decide) ?_
            exact hE _ _ _ _ _ hS ⟨trivial, hI⟩ dMeanings_numberOfRow_101
    · refine lv_iconst (v := 0) hx hb dMeanings_numberOfRow_43 (by decide) ?_
      exact hE _ _ _ _ _ hS ⟨trivial, hI⟩ dMeanings_numberOfRow_44
  · refine lv_iconst (v := 3) hx hb dMeanings_numberOfRow_12 (by decide) ?_
    exact hE _ _ _ _ _ hS ⟨trivial, hI⟩ dMeanings_numberOfRow_13

set_option maxHeartbeats 4000000 in
set_option maxRecDepth 100000 in
theorem k_Meanings_bits (l : Launch) (γ : gE) (A : Nat → Prop) (κ : Nat → Nat) (x1 : Int32) (x2 : Int32) (x3 : Int32) : MU l yMeanings_bits bMeanings_bits 6 (some .int) 2 50 0 0 [.ref (γ.2.2.2 12), .int x1, .int x2, .int x3] γ A (INV γ A κ) (mQi (fun r H => True ∧ INV γ A κ H) A) := by
  refine mu_openI (by decide) (Nat.le_of_ble_eq_true rfl) ?_
  intro p e s m args below meth c ls Q S hnm hC hA hI hE hl
  obtain ⟨hx, hb, hml, hown, hW⟩ := id S
  have hS : va_S A s.heap s.heap [] := va_S.rf
  have hl : lv_has ls 6 [(0, .ref (γ.2.2.2 12)), (1, .int x1), (2, .int x2), (3, .int x3)] := hl
  have J84 : ∀ (ls : Array Slot) (H : Heap) (locs : List Loc) (i1 : Int32) (i2 : Int32) (i3 : Int32) (i4 : Int32) (i5 : Int32) (t0 : Int32) (t1 : Int32) (t2 : Int32), INV γ A κ H → va_S A s.heap H locs → lv_has ls 6 [(0, .ref (γ.2.2.2 12)), (1, .int i1), (2, .int i2), (3, .int i3), (4, .int i4), (5, .int i5)] → W p l e (bs_rm 2 0 0 50) s m args below meth c H locs 0 0 Q (F0 m 84 ls [.int t0, .int t1, .int t2, .ref (γ.2.2.2 9)]) := by
    intro ls H locs i1 i2 i3 i4 i5 t0 t1 t2 hI hS hl
    refine lv_aload_n hx hb dMeanings_bits_84 rfl (lv_at hl 0 rfl) ?_
    refine of_get S hC (of_12_4 hI) in_Meanings rfl (by decide) qw_aa3d3bbcf9 dMeanings_bits_85 ?_
    refine lv_iload_n hx hb dMeanings_bits_88 rfl (lv_at hl 2 rfl) ?_
    refine pu_Vi (rest := [.int t0, .int t1, .int t2, .ref (γ.2.2.2 9)]) S hC (k9_Looks_isFixed l γ A κ i2) meLooks_isFixed qw_e1e43cfc73 ⟨Nat.le_of_ble_eq_true rfl, Nat.le_of_ble_eq_true rfl⟩ (rv_9 hC hI) hI rfl hl.1 rfl (Nat.le_of_ble_eq_true rfl) dMeanings_bits_89 ⟨Nat.zero_le _, Nat.zero_le _⟩ (fun r19 hr19 => ?_)
    refine mu_Vv (rest := []) S hC (fun q h => hA q (Nat.le_trans hS.1 h)) (fun q h => h) hS (k9_Looks_note l γ A κ t2 t1 t0 r19) meLooks_note qw_454d4ae88d ⟨Nat.le_of_ble_eq_true rfl, Nat.le_of_ble_eq_true rfl⟩ (rv_9 hC hI) hI rfl hl.1 rfl (Nat.le_of_ble_eq_true rfl) dMeanings_bits_92 ⟨Nat.le_refl _, Nat.le_refl _⟩ (fun H locs hI hS _ _ => ?_)
    refine lv_iload hx hb dMeanings_bits_95 (lv_at hl 5 rfl) ?_
    refine lv_if_ne (tgt := 102) hx hb dMeanings_bits_97 (by decide) (fun c21 => ?_) (fun c21 => ?_)
    · refine lv_aload_n hx hb dMeanings_bits_102 rfl (lv_at hl 0 rfl) ?_
      refine of_get S hC (of_12_4 hI) in_Meanings rfl (by decide) qw_aa3d3bbcf9 dMeanings_bits_103 ?_
      refine lv_iload_n hx hb dMeanings_bits_106 rfl (lv_at hl 2 rfl) ?_
      refine pu_Vi (rest := []) S hC (k9_Looks_isFixed l γ A κ i2) meLooks_isFixed qw_e1e43cfc73 ⟨Nat.le_of_ble_eq_true rfl, Nat.le_of_ble_eq_true rfl⟩ (rv_9 hC hI) hI rfl hl.1 rfl (Nat.le_of_ble_eq_true rfl) dMeanings_bits_107 ⟨Nat.zero_le _, Nat.zero_le _⟩ (fun r22 hr22 => ?_)
      refine lv_if_eq (tgt := 135) hx hb dMeanings_bits_110 (by decide) (fun c23 => ?_) (fun c23 => ?_)
      · refine lv_iconst (v := 0) hx hb dMeanings_bits_135 (by decide) ?_
        exact hE _ _ _ _ _ hS ⟨trivial, hI⟩ dMeanings_bits_136
      · refine lv_aload_n hx hb dMeanings_bits_113 rfl (lv_at hl 0 rfl) ?_
        refine of_get S hC (of_12_4 hI) in_Meanings rfl (by decide) qw_aa3d3bbcf9 dMeanings_bits_114 ?_
        refine of_getN S hC (of_9_5 hI) in_Looks rfl (by decide) qn_3420aee8ba dMeanings_bits_117 ?_
        refine lv_iload_n hx hb dMeanings_bits_120 rfl (lv_at hl 1 rfl) ?_
        refine lv_iload hx hb dMeanings_bits_121 (lv_at hl 4 rfl) ?_
        refine lv_aload_n hx hb dMeanings_bits_123 rfl (lv_at hl 0 rfl) ?_
        refine of_get S hC (of_12_4 hI) in_Meanings rfl (by decide) qw_aa3d3bbcf9 dMeanings_bits_124 ?_
        refine lv_iload_n hx hb dMeanings_bits_127 rfl (lv_at hl 2 rfl) ?_
        refine pu_Vi (rest := [.int i4, .int i1, .ref (γ.2.2.2 10)]) S hC (k9_Looks_numberOf l γ A κ i2) meLooks_numberOf qw_58178e0f63 ⟨Nat.le_of_ble_eq_true rfl, Nat.le_of_ble_eq_true rfl⟩ (rv_9 hC hI) hI rfl hl.1 rfl (Nat.le_of_ble_eq_true rfl) dMeanings_bits_128 ⟨Nat.zero_le _, Nat.zero_le _⟩ (fun r24 hr24 => ?_)
        refine lv_i2l hx hb dMeanings_bits_131 rfl ?_
        refine lv_topl (fun v25 ev25 => ?_)
        refine mu_Vv (rest := []) S hC (fun q h => hA q (Nat.le_trans hS.1 h)) (fun q h => h) hS (k10_Rows_setBits l γ A κ i1 i4 v25) meRows_setBits qw_5a6c519f0e ⟨Nat.le_of_ble_eq_true rfl, Nat.le_of_ble_eq_true rfl⟩ (rv_10 hC hI) hI rfl hl.1 rfl (Nat.le_of_ble_eq_true rfl) dMeanings_bits_132 ⟨Nat.le_refl _, Nat.le_refl _⟩ (fun H locs hI hS _ _ => ?_)
        refine lv_iconst (v := 0) hx hb dMeanings_bits_135 (by decide) ?_
        exact hE _ _ _ _ _ hS ⟨trivial, hI⟩ dMeanings_bits_136
    · refine lv_iconst (v := 4) hx hb dMeanings_bits_100 (by decide) ?_
      exact hE _ _ _ _ _ hS ⟨trivial, hI⟩ dMeanings_bits_101
  have J65 : ∀ (ls : Array Slot) (H : Heap) (locs : List Loc) (i1 : Int32) (i2 : Int32) (i3 : Int32) (i4 : Int32) (t0 : Int32), INV γ A κ H → va_S A s.heap H locs → lv_has ls 6 [(0, .ref (γ.2.2.2 12)), (1, .int i1), (2, .int i2), (3, .int i3), (4, .int i4)] → W p l e (bs_rm 2 0 0 50) s m args below meth c H locs 0 0 Q (F0 m 65 ls [.int t0]) := by
    intro ls H locs i1 i2 i3 i4 t0 hI hS hl
    refine lv_istore (lv' := [(5, .int t0), (0, .ref (γ.2.2.2 12)), (1, .int i1), (2, .int i2), (3, .int i3), (4, .int i4)]) hx hb dMeanings_bits_65 hl (by decide) rfl (fun ls hl => ?_)
    refine lv_aload_n hx hb dMeanings_bits_67 rfl (lv_at hl 1 rfl) ?_
    refine of_get S hC (of_12_4 hI) in_Meanings rfl (by decide) qw_aa3d3bbcf9 dMeanings_bits_68 ?_
    refine lv_iload_n hx hb dMeanings_bits_71 rfl (lv_at hl 2 rfl) ?_
    refine lv_iconst (v := 3) hx hb dMeanings_bits_72 (by decide) ?_
    refine lv_iload hx hb dMeanings_bits_73 (lv_at hl 0 rfl) ?_
    refine lv_if_eq (tgt := 83) hx hb dMeanings_bits_75 (by decide) (fun c27 => ?_) (fun c27 => ?_)
    · refine lv_iconst (v := 0) hx hb dMeanings_bits_83 (by decide) ?_
      exact J84 ls _ _ i1 i2 i3 i4 t0 0 3 i1 hI hS (lv_sub hl [1, 2, 3, 4, 5, 0] rfl)
    · refine lv_iload hx hb dMeanings_bits_78 (lv_at hl 5 rfl) ?_
      refine lv_goto (tgt := 84) hx hb dMeanings_bits_80 (by decide) ?_
      exact J84 ls _ _ i1 i2 i3 i4 t0 i4 3 i1 hI hS (lv_sub hl [1, 2, 3, 4, 5, 0] rfl)
  have J64 : ∀ (ls : Array Slot) (H : Heap) (locs : List Loc) (i1 : Int32) (i2 : Int32) (i3 : Int32) (i4 : Int32), INV γ A κ H → va_S A s.heap H locs → lv_has ls 6 [(0, .ref (γ.2.2.2 12)), (1, .int i1), (2, .int i2), (3, .int i3), (4, .int i4)] → W p l e (bs_rm 2 0 0 50) s m args below meth c H locs 0 0 Q (F0 m 64 ls []) := by
    intro ls H locs i1 i2 i3 i4 hI hS hl
    refine lv_iconst (v := 0) hx hb dMeanings_bits_64 (by decide) ?_
    exact J65 ls _ _ i1 i2 i3 i4 0 hI hS (lv_sub hl [0, 1, 2, 3, 4] rfl)
  refine lv_aload_n hx hb dMeanings_bits_0 rfl (lv_at hl 0 rfl) ?_
  refine of_get S hC (of_12_4 hI) in_Meanings rfl (by decide) qw_aa3d3bbcf9 dMeanings_bits_1 ?_
  refine lv_iload_n hx hb dMeanings_bits_4 rfl (lv_at hl 2 rfl) ?_
  refine pu_Vi (rest := []) S hC (k9_Looks_classOf l γ A κ x2) meLooks_classOf qw_631ccf37b6 ⟨Nat.le_of_ble_eq_true rfl, Nat.le_of_ble_eq_true rfl⟩ (rv_9 hC hI) hI rfl hl.1 rfl (Nat.le_of_ble_eq_true rfl) dMeanings_bits_5 ⟨Nat.zero_le _, Nat.zero_le _⟩ (fun r28 hr28 => ?_)
  refine lv_iconst (v := 2) hx hb dMeanings_bits_8 (by decide) ?_
  refine lv_icmp_ne (tgt := 35) hx hb dMeanings_bits_9 (by decide) (fun c29 => ?_) (fun c29 => ?_)
  · refine lv_iconst (v := 3) hx hb dMeanings_bits_35 (by decide) ?_
    exact hE _ _ _ _ _ hS ⟨trivial, hI⟩ dMeanings_bits_36
  · refine lv_aload_n hx hb dMeanings_bits_12 rfl (lv_at hl 0 rfl) ?_
    refine of_get S hC (of_12_4 hI) in_Meanings rfl (by decide) qw_aa3d3bbcf9 dMeanings_bits_13 ?_
    refine lv_iload_n hx hb dMeanings_bits_16 rfl (lv_at hl 3 rfl) ?_
    refine pu_Vi (rest := []) S hC (k9_Looks_classOf l γ A κ x3) meLooks_classOf qw_631ccf37b6 ⟨Nat.le_of_ble_eq_true rfl, Nat.le_of_ble_eq_true rfl⟩ (rv_9 hC hI) hI rfl hl.1 rfl (Nat.le_of_ble_eq_true rfl) dMeanings_bits_17 ⟨Nat.zero_le _, Nat.zero_le _⟩ (fun r30 hr30 => ?_)
    refine lv_iconst (v := 2) hx hb dMeanings_bits_20 (by decide) ?_
    refine lv_icmp_ne (tgt := 35) hx hb dMeanings_bits_21 (by decide) (fun c31 => ?_) (fun c31 => ?_)
    · refine lv_iconst (v := 3) hx hb dMeanings_bits_35 (by decide) ?_
      exact hE _ _ _ _ _ hS ⟨trivial, hI⟩ dMeanings_bits_36
    · refine lv_aload_n hx hb dMeanings_bits_24 rfl (lv_at hl 0 rfl) ?_
      refine of_get S hC (of_12_4 hI) in_Meanings rfl (by decide) qw_aa3d3bbcf9 dMeanings_bits_25 ?_
      refine lv_iload_n hx hb dMeanings_bits_28 rfl (lv_at hl 3 rfl) ?_
      refine pu_Vi (rest := []) S hC (k9_Looks_isFixed l γ A κ x3) meLooks_isFixed qw_e1e43cfc73 ⟨Nat.le_of_ble_eq_true rfl, Nat.le_of_ble_eq_true rfl⟩ (rv_9 hC hI) hI rfl hl.1 rfl (Nat.le_of_ble_eq_true rfl) dMeanings_bits_29 ⟨Nat.zero_le _, Nat.zero_le _⟩ (fun r32 hr32 => ?_)
      refine lv_if_ne (tgt := 37) hx hb dMeanings_bits_32 (by decide) (fun c33 => ?_) (fun c33 => ?_)
      · refine lv_aload_n hx hb dMeanings_bits_37 rfl (lv_at hl 0 rfl) ?_
        refine of_get S hC (of_12_4 hI) in_Meanings rfl (by decide) qw_aa3d3bbcf9 dMeanings_bits_38 ?_
        refine lv_iload_n hx hb dMeanings_bits_41 rfl (lv_at hl 3 rfl) ?_
        refine pu_Vi (rest := []) S hC (k9_Looks_numberOf l γ A κ x3) meLooks_numberOf qw_58178e0f63 ⟨Nat.le_of_ble_eq_true rfl, Nat.le_of_ble_eq_true rfl⟩ (rv_9 hC hI) hI rfl hl.1 rfl (Nat.le_of_ble_eq_true rfl) dMeanings_bits_42 ⟨Nat.zero_le _, Nat.zero_le _⟩ (fun r34 hr34 => ?_)
        refine lv_istore (lv' := [(4, .int r34), (0, .ref (γ.2.2.2 12)), (1, .int x1), (2, .int x2), (3, .int x3)]) hx hb dMeanings_bits_45 hl (by decide) rfl (fun ls hl => ?_)
        refine lv_iload hx hb dMeanings_bits_47 (lv_at hl 0 rfl) ?_
        refine lv_iconst (v := 1) hx hb dMeanings_bits_49 (by decide) ?_
        refine lv_icmp_lt (tgt := 64) hx hb dMeanings_bits_50 (by decide) (fun c35 => ?_) (fun c35 => ?_)
        · exact J64 ls _ _ x1 x2 x3 r34 hI hS (lv_sub hl [1, 2, 3, 4, 0] rfl)
        · refine lv_iload hx hb dMeanings_bits_53 (lv_at hl 0 rfl) ?_
          refine lv_bipush (v := 64) hx hb dMeanings_bits_55 (by decide) ?_
          refine lv_icmp_gt (tgt := 64) hx hb dMeanings_bits_57 (by decide) (fun c36 => ?_) (fun c36 => ?_)
          · exact J64 ls _ _ x1 x2 x3 r34 hI hS (lv_sub hl [1, 2, 3, 4, 0] rfl)
          · refine lv_iconst (v := 1) hx hb dMeanings_bits_60 (by decide) ?_
            refine lv_goto (tgt := 65) hx hb dMeanings_bits_61 (by decide) ?_
            exact J65 ls _ _ x1 x2 x3 r34 1 hI hS (lv_sub hl [1, 2, 3, 4, 0] rfl)
      · refine lv_iconst (v := 3) hx hb dMeanings_bits_35 (by decide) ?_
        exact hE _ _ _ _ _ hS ⟨trivial, hI⟩ dMeanings_bits_36
theorem qw_98b2e6b46a : (Cond.methodLink R_Meanings 131 yMeanings_numberOfRow) ∈ bs_W0 := bs_in (in_tables_1_4 (List.mem_of_getElem? (i := 112) rfl)) rfl
theorem qw_8972b5ce5c : (Cond.methodLink R_Meanings 134 yTrees_leftOfTwo) ∈ bs_W0 := bs_in (in_tables_1_4 (List.mem_of_getElem? (i := 122) rfl)) rfl
theorem qw_041f192a6b : (Cond.methodLink R_Meanings 137 yMeanings_bits) ∈ bs_W0 := bs_in (in_tables_1_4 (List.mem_of_getElem? (i := 123) rfl)) rfl
theorem qw_f7151b70e2 : (Cond.methodLink R_Meanings 140 yMeanings_edge) ∈ bs_W0 := bs_in (in_tables_1_4 (List.mem_of_getElem? (i := 129) rfl)) rfl
theorem qw_1c1a520089 : (Cond.methodLink R_Meanings 110 yMeanings_objectAt) ∈ bs_W0 := bs_in (in_tables_1_4 (List.mem_of_getElem? (i := 138) rfl)) rfl
theorem qw_5342b138aa : (Cond.methodLink R_Meanings 113 yMeanings_isRow) ∈ bs_W0 := bs_in (in_tables_1_4 (List.mem_of_getElem? (i := 142) rfl)) rfl
theorem qw_e79345225d : (Cond.methodLink R_Meanings 116 yMeanings_element) ∈ bs_W0 := bs_in (in_tables_1_4 (List.mem_of_getElem? (i := 146) rfl)) rfl
theorem qw_11cbdab6fb : (Cond.methodLink R_Meanings 106 yMeanings_applyFunction) ∈ bs_W0 := bs_in (in_tables_1_4 (List.mem_of_getElem? (i := 108) rfl)) rfl
theorem qw_63bfba27f7 : (Cond.methodLink R_Meanings 171 yTypes_goesDown) ∈ bs_W0 := bs_in (in_tables_1_4 (List.mem_of_getElem? (i := 175) rfl)) rfl
theorem qw_b68edfa9a7 : (Cond.methodLink R_Meanings 174 yRows_set) ∈ bs_W0 := bs_in (in_tables_1_4 (List.mem_of_getElem? (i := 176) rfl)) rfl
theorem qw_88d34ce9ff : (Cond.methodLink R_Meanings 164 yMeanings_isUnknown) ∈ bs_W0 := bs_in (in_tables_1_4 (List.mem_of_getElem? (i := 167) rfl)) rfl
theorem qw_61f742eb08 : (Cond.methodLink R_Meanings 167 yMeanings_cut) ∈ bs_W0 := bs_in (in_tables_1_4 (List.mem_of_getElem? (i := 171) rfl)) rfl
theorem qw_d7f92bc95d : (Cond.methodLink R_Meanings 181 yMeanings_boundOf) ∈ bs_W0 := bs_in (in_tables_1_4 (List.mem_of_getElem? (i := 185) rfl)) rfl
theorem qw_ef57f773bb : (Cond.methodLink R_Meanings 178 yMeanings_noteAttribute) ∈ bs_W0 := bs_in (in_tables_1_4 (List.mem_of_getElem? (i := 181) rfl)) rfl
set_option maxHeartbeats 4000000 in
set_option maxRecDepth 100000 in
theorem k_Meanings_applyFunction (l : Launch) (γ : gE) (A : Nat → Prop) (κ : Nat → Nat) (x1 : Int32) (x2 : Int32) : MU l yMeanings_applyFunction bMeanings_applyFunction 3 (some .int) 3 75 0 0 [.ref (γ.2.2.2 12), .int x1, .int x2] γ A (INV γ A κ) (mQi (fun r H => True ∧ INV γ A κ H) A) := by
  refine mu_openI (by decide) (Nat.le_of_ble_eq_true rfl) ?_
  intro p e s m args below meth c ls Q S hnm hC hA hI hE hl
  obtain ⟨hx, hb, hml, hown, hW⟩ := id S
  have hS : va_S A s.heap s.heap [] := va_S.rf
  have hl : lv_has ls 3 [(0, .ref (γ.2.2.2 12)), (1, .int x1), (2, .int x2)] := hl
  have J30 : ∀ (ls : Array Slot) (H : Heap) (locs : List Loc) (i1 : Int32) (i2 : Int32) (t0 : Int32) (t1 : Int32), INV γ A κ H → va_S A s.heap H locs → lv_has ls 3 [(0, .ref (γ.2.2.2 12)), (1, .int i1), (2, .int i2)] → W p l e (bs_rm 3 0 0 75) s m args below meth c H locs 0 0 Q (F0 m 30 ls [.int t0, .int t1]) := by
    intro ls H locs i1 i2 t0 t1 hI hS hl
    refine lv_icmp_eq (tgt := 36) hx hb dMeanings_applyFunction_30 (by decide) (fun c14 => ?_) (fun c14 => ?_)
    · refine lv_iload_n hx hb dMeanings_applyFunction_36 rfl (lv_at hl 2 rfl) ?_
      by_cases k15 : i2 = 10
      · subst k15
        refine lv_lookup (tgt := 64) hx hb dMeanings_applyFunction_37 (by decide) rfl (by decide) ?_
        refine lv_aload_n hx hb dMeanings_applyFunction_64 rfl (lv_at hl 0 rfl) ?_
        refine lv_iload_n hx hb dMeanings_applyFunction_65 rfl (lv_at hl 1 rfl) ?_
        refine lv_iload_n hx hb dMeanings_applyFunction_66 rfl (lv_at hl 1 rfl) ?_
        refine lv_iconst (v := 1) hx hb dMeanings_applyFunction_67 (by decide) ?_
        refine lv_isub hx hb dMeanings_applyFunction_68 ?_
        refine lv_topi (fun v16 ev16 => ?_)
        refine mu_Vi (rest := []) S hC (fun q h => hA q (Nat.le_trans hS.1 h)) (fun q h => h) hS (k_Meanings_numberOfRow l γ A κ i1 v16) meMeanings_numberOfRow qw_98b2e6b46a ⟨Nat.le_of_ble_eq_true rfl, Nat.le_of_ble_eq_true rfl⟩ (rv_12 hC hI) hI rfl hl.1 rfl (Nat.le_of_ble_eq_true rfl) dMeanings_applyFunction_69 ⟨Nat.le_refl _, Nat.le_refl _⟩ (fun r17 H locs ⟨hr17, hI⟩ hS _ _ => ?_)
        exact hE _ _ _ _ _ hS ⟨trivial, hI⟩ dMeanings_applyFunction_72
      by_cases k18 : i2 = 11
      · subst k18
        refine lv_lookup (tgt := 73) hx hb dMeanings_applyFunction_37 (by decide) rfl (by decide) ?_
        refine lv_aload_n hx hb dMeanings_applyFunction_73 rfl (lv_at hl 0 rfl) ?_
        refine lv_iload_n hx hb dMeanings_applyFunction_74 rfl (lv_at hl 1 rfl) ?_
        refine lv_aload_n hx hb dMeanings_applyFunction_75 rfl (lv_at hl 0 rfl) ?_
        refine of_get S hC (of_12_0 hI) in_Meanings rfl (by decide) qw_c54cffb97e dMeanings_applyFunction_76 ?_
        refine lv_iload_n hx hb dMeanings_applyFunction_79 rfl (lv_at hl 1 rfl) ?_
        refine pu_Vi (rest := [.int i1, .ref (γ.2.2.2 12)]) S hC (k1_Trees_leftOfTwo l γ A κ i1) meTrees_leftOfTwo qw_8972b5ce5c ⟨Nat.le_of_ble_eq_true rfl, Nat.le_of_ble_eq_true rfl⟩ (rv_1 hC hI) hI rfl hl.1 rfl (Nat.le_of_ble_eq_true rfl) dMeanings_applyFunction_80 ⟨Nat.zero_le _, Nat.zero_le _⟩ (fun r19 hr19 => ?_)
        refine lv_iload_n hx hb dMeanings_applyFunction_83 rfl (lv_at hl 1 rfl) ?_
        refine lv_iconst (v := 1) hx hb dMeanings_applyFunction_84 (by decide) ?_
        refine lv_isub hx hb dMeanings_applyFunction_85 ?_
        refine lv_topi (fun v20 ev20 => ?_)
        refine mu_Vi (rest := []) S hC (fun q h => hA q (Nat.le_trans hS.1 h)) (fun q h => h) hS (k_Meanings_bits l γ A κ i1 r19 v20) meMeanings_bits qw_041f192a6b ⟨Nat.le_of_ble_eq_true rfl, Nat.le_of_ble_eq_true rfl⟩ (rv_12 hC hI) hI rfl hl.1 rfl (Nat.le_of_ble_eq_true rfl) dMeanings_applyFunction_86 ⟨Nat.le_refl _, Nat.le_refl _⟩ (fun r21 H locs ⟨hr21, hI⟩ hS _ _ => ?_)
        exact hE _ _ _ _ _ hS ⟨trivial, hI⟩ dMeanings_applyFunction_89
      refine lv_lookup (off := 53) (tgt := 90) hx hb dMeanings_applyFunction_37 (by decide) ((lv_osw k15 (by decide)).trans ((lv_osw k18 (by decide)).trans rfl)) (by decide) ?_
      refine lv_aload_n hx hb dMeanings_applyFunction_90 rfl (lv_at hl 0 rfl) ?_
      refine lv_iload_n hx hb dMeanings_applyFunction_91 rfl (lv_at hl 1 rfl) ?_
      refine lv_iload_n hx hb dMeanings_applyFunction_92 rfl (lv_at hl 1 rfl) ?_
      refine lv_iconst (v := 1) hx hb dMeanings_applyFunction_93 (by decide) ?_
      refine lv_isub hx hb dMeanings_applyFunction_94 ?_
      refine lv_topi (fun v22 ev22 => ?_)
      refine mu_Vi (rest := []) S hC (fun q h => hA q (Nat.le_trans hS.1 h)) (fun q h => h) hS (k_Meanings_edge l γ A κ i1 v22) meMeanings_edge qw_f7151b70e2 ⟨Nat.le_of_ble_eq_true rfl, Nat.le_of_ble_eq_true rfl⟩ (rv_12 hC hI) hI rfl hl.1 rfl (Nat.le_of_ble_eq_true rfl) dMeanings_applyFunction_95 ⟨Nat.le_refl _, Nat.le_refl _⟩ (fun r23 H locs ⟨hr23, hI⟩ hS _ _ => ?_)
      exact hE _ _ _ _ _ hS ⟨trivial, hI⟩ dMeanings_applyFunction_98
    · refine lv_bipush (v := 11) hx hb dMeanings_applyFunction_33 (by decide) ?_
      exact hE _ _ _ _ _ hS ⟨trivial, hI⟩ dMeanings_applyFunction_35
  refine lv_aload_n hx hb dMeanings_applyFunction_0 rfl (lv_at hl 0 rfl) ?_
  refine of_get S hC (of_12_4 hI) in_Meanings rfl (by decide) qw_aa3d3bbcf9 dMeanings_applyFunction_1 ?_
  refine lv_iload_n hx hb dMeanings_applyFunction_4 rfl (lv_at hl 1 rfl) ?_
  refine lv_sipush (v := 3000) hx hb dMeanings_applyFunction_5 (by decide) ?_
  refine mu_Vv (rest := []) S hC (fun q h => hA q (Nat.le_trans hS.1 h)) (fun q h => h) hS (k9_Looks_setMeaning l γ A κ x1 3000) meLooks_setMeaning qw_23315a9189 ⟨Nat.le_of_ble_eq_true rfl, Nat.le_of_ble_eq_true rfl⟩ (rv_9 hC hI) hI rfl hl.1 rfl (Nat.le_of_ble_eq_true rfl) dMeanings_applyFunction_8 ⟨Nat.le_refl _, Nat.le_refl _⟩ (fun H locs hI hS _ _ => ?_)
  refine lv_aload_n hx hb dMeanings_applyFunction_11 rfl (lv_at hl 0 rfl) ?_
  refine of_get S hC (of_12_0 hI) in_Meanings rfl (by decide) qw_c54cffb97e dMeanings_applyFunction_12 ?_
  refine lv_iload_n hx hb dMeanings_applyFunction_15 rfl (lv_at hl 1 rfl) ?_
  refine pu_Vi (rest := []) S hC (k1_Trees_countOf l γ A κ x1) meTrees_countOf qw_08981d77a7 ⟨Nat.le_of_ble_eq_true rfl, Nat.le_of_ble_eq_true rfl⟩ (rv_1 hC hI) hI rfl hl.1 rfl (Nat.le_of_ble_eq_true rfl) dMeanings_applyFunction_16 ⟨Nat.zero_le _, Nat.zero_le _⟩ (fun r25 hr25 => ?_)
  refine lv_iload_n hx hb dMeanings_applyFunction_19 rfl (lv_at hl 2 rfl) ?_
  refine lv_bipush (v := 11) hx hb dMeanings_applyFunction_20 (by decide) ?_
  refine lv_icmp_ne (tgt := 29) hx hb dMeanings_applyFunction_22 (by decide) (fun c26 => ?_) (fun c26 => ?_)
  · refine lv_iconst (v := 1) hx hb dMeanings_applyFunction_29 (by decide) ?_
    exact J30 ls _ _ x1 x2 1 r25 hI hS (lv_sub hl [0, 1, 2] rfl)
  · refine lv_iconst (v := 2) hx hb dMeanings_applyFunction_25 (by decide) ?_
    refine lv_goto (tgt := 30) hx hb dMeanings_applyFunction_26 (by decide) ?_
    exact J30 ls _ _ x1 x2 2 r25 hI hS (lv_sub hl [0, 1, 2] rfl)

set_option maxHeartbeats 4000000 in
set_option maxRecDepth 100000 in
theorem k_Meanings_apply (l : Launch) (γ : gE) (A : Nat → Prop) (κ : Nat → Nat) (x1 : Int32) : MU l yMeanings_apply bMeanings_apply 4 (some .int) 4 97 0 0 [.ref (γ.2.2.2 12), .int x1] γ A (INV γ A κ) (mQi (fun r H => True ∧ INV γ A κ H) A) := by
  refine mu_openI (by decide) (Nat.le_of_ble_eq_true rfl) ?_
  intro p e s m args below meth c ls Q S hnm hC hA hI hE hl
  obtain ⟨hx, hb, hml, hown, hW⟩ := id S
  have hS : va_S A s.heap s.heap [] := va_S.rf
  have hl : lv_has ls 4 [(0, .ref (γ.2.2.2 12)), (1, .int x1)] := hl
  refine lv_aload_n hx hb dMeanings_apply_0 rfl (lv_at hl 0 rfl) ?_
  refine of_get S hC (of_12_1 hI) in_Meanings rfl (by decide) qw_2a07109efc dMeanings_apply_1 ?_
  refine lv_aload_n hx hb dMeanings_apply_4 rfl (lv_at hl 0 rfl) ?_
  refine of_get S hC (of_12_0 hI) in_Meanings rfl (by decide) qw_c54cffb97e dMeanings_apply_5 ?_
  refine lv_iload_n hx hb dMeanings_apply_8 rfl (lv_at hl 1 rfl) ?_
  refine pu_Vi (rest := [.ref (γ.2.2.2 2)]) S hC (k1_Trees_valueOf l γ A κ x1) meTrees_valueOf qw_b5139988c8 ⟨Nat.le_of_ble_eq_true rfl, Nat.le_of_ble_eq_true rfl⟩ (rv_1 hC hI) hI rfl hl.1 rfl (Nat.le_of_ble_eq_true rfl) dMeanings_apply_9 ⟨Nat.zero_le _, Nat.zero_le _⟩ (fun r16 hr16 => ?_)
  refine pu_Vi (rest := []) S hC (k2_Names_find l γ A κ r16) meNames_find qw_941b68ccbe ⟨Nat.le_of_ble_eq_true rfl, Nat.le_of_ble_eq_true rfl⟩ (rv_2 hC hI) hI rfl hl.1 rfl (Nat.le_of_ble_eq_true rfl) dMeanings_apply_12 ⟨Nat.zero_le _, Nat.zero_le _⟩ (fun r17 hr17 => ?_)
  refine lv_istore_n (lv' := [(2, .int r17), (0, .ref (γ.2.2.2 12)), (1, .int x1)]) hx hb dMeanings_apply_15 rfl hl (by decide) rfl (fun ls hl => ?_)
  refine lv_iload_n hx hb dMeanings_apply_16 rfl (lv_at hl 0 rfl) ?_
  refine lv_iconst (v := (-1)) hx hb dMeanings_apply_17 (by decide) ?_
  refine lv_icmp_ne (tgt := 23) hx hb dMeanings_apply_18 (by decide) (fun c18 => ?_) (fun c18 => ?_)
  · refine lv_aload_n hx hb dMeanings_apply_23 rfl (lv_at hl 1 rfl) ?_
    refine of_get S hC (of_12_1 hI) in_Meanings rfl (by decide) qw_2a07109efc dMeanings_apply_24 ?_
    refine lv_iload_n hx hb dMeanings_apply_27 rfl (lv_at hl 0 rfl) ?_
    refine pu_Vi (rest := []) S hC (k2_Names_sortOf l γ A κ r17) meNames_sortOf qw_79c9b178a8 ⟨Nat.le_of_ble_eq_true rfl, Nat.le_of_ble_eq_true rfl⟩ (rv_2 hC hI) hI rfl hl.1 rfl (Nat.le_of_ble_eq_true rfl) dMeanings_apply_28 ⟨Nat.zero_le _, Nat.zero_le _⟩ (fun r19 hr19 => ?_)
    refine lv_iconst (v := 5) hx hb dMeanings_apply_31 (by decide) ?_
    refine lv_icmp_ne (tgt := 49) hx hb dMeanings_apply_32 (by decide) (fun c20 => ?_) (fun c20 => ?_)
    · refine lv_aload_n hx hb dMeanings_apply_49 rfl (lv_at hl 1 rfl) ?_
      refine lv_iload_n hx hb dMeanings_apply_50 rfl (lv_at hl 2 rfl) ?_
      refine pu_Vi (rest := []) S hC (k_Meanings_objectAt l γ A κ x1) meMeanings_objectAt qw_1c1a520089 ⟨Nat.le_of_ble_eq_true rfl, Nat.le_of_ble_eq_true rfl⟩ (rv_12 hC hI) hI rfl hl.1 rfl (Nat.le_of_ble_eq_true rfl) dMeanings_apply_51 ⟨Nat.zero_le _, Nat.zero_le _⟩ (fun r21 hr21 => ?_)
      refine lv_istore_n (lv' := [(3, .int r21), (2, .int r17), (0, .ref (γ.2.2.2 12)), (1, .int x1)]) hx hb dMeanings_apply_54 rfl hl (by decide) rfl (fun ls hl => ?_)
      refine lv_iload_n hx hb dMeanings_apply_55 rfl (lv_at hl 0 rfl) ?_
      refine lv_iconst (v := (-1)) hx hb dMeanings_apply_56 (by decide) ?_
      refine lv_icmp_eq (tgt := 68) hx hb dMeanings_apply_57 (by decide) (fun c22 => ?_) (fun c22 => ?_)
      · refine lv_iconst (v := 2) hx hb dMeanings_apply_68 (by decide) ?_
        exact hE _ _ _ _ _ hS ⟨trivial, hI⟩ dMeanings_apply_69
      · refine lv_aload_n hx hb dMeanings_apply_60 rfl (lv_at hl 2 rfl) ?_
        refine lv_iload_n hx hb dMeanings_apply_61 rfl (lv_at hl 0 rfl) ?_
        refine pu_Vi (rest := []) S hC (k_Meanings_isRow l γ A κ r21) meMeanings_isRow qw_5342b138aa ⟨Nat.le_of_ble_eq_true rfl, Nat.le_of_ble_eq_true rfl⟩ (rv_12 hC hI) hI rfl hl.1 rfl (Nat.le_of_ble_eq_true rfl) dMeanings_apply_62 ⟨Nat.zero_le _, Nat.zero_le _⟩ (fun r23 hr23 => ?_)
        refine lv_if_ne (tgt := 70) hx hb dMeanings_apply_65 (by decide) (fun c24 => ?_) (fun c24 => ?_)
        · refine lv_aload_n hx hb dMeanings_apply_70 rfl (lv_at hl 2 rfl) ?_
          refine of_get S hC (of_12_0 hI) in_Meanings rfl (by decide) qw_c54cffb97e dMeanings_apply_71 ?_
          refine lv_iload_n hx hb dMeanings_apply_74 rfl (lv_at hl 3 rfl) ?_
          refine pu_Vi (rest := []) S hC (k1_Trees_countOf l γ A κ x1) meTrees_countOf qw_08981d77a7 ⟨Nat.le_of_ble_eq_true rfl, Nat.le_of_ble_eq_true rfl⟩ (rv_1 hC hI) hI rfl hl.1 rfl (Nat.le_of_ble_eq_true rfl) dMeanings_apply_75 ⟨Nat.zero_le _, Nat.zero_le _⟩ (fun r25 hr25 => ?_)
          refine lv_iconst (v := 1) hx hb dMeanings_apply_78 (by decide) ?_
          refine lv_icmp_ne (tgt := 94) hx hb dMeanings_apply_79 (by decide) (fun c26 => ?_) (fun c26 => ?_)
          · refine lv_bipush (v := 11) hx hb dMeanings_apply_94 (by decide) ?_
            exact hE _ _ _ _ _ hS ⟨trivial, hI⟩ dMeanings_apply_96
          · refine lv_aload_n hx hb dMeanings_apply_82 rfl (lv_at hl 2 rfl) ?_
            refine lv_iload_n hx hb dMeanings_apply_83 rfl (lv_at hl 3 rfl) ?_
            refine lv_iload_n hx hb dMeanings_apply_84 rfl (lv_at hl 0 rfl) ?_
            refine lv_iload_n hx hb dMeanings_apply_85 rfl (lv_at hl 3 rfl) ?_
            refine lv_iconst (v := 1) hx hb dMeanings_apply_86 (by decide) ?_
            refine lv_isub hx hb dMeanings_apply_87 ?_
            refine lv_topi (fun v27 ev27 => ?_)
            refine mu_Vi (rest := []) S hC (fun q h => hA q (Nat.le_trans hS.1 h)) (fun q h => h) hS (k_Meanings_element l γ A κ x1 r21 v27) meMeanings_element qw_e79345225d ⟨Nat.le_of_ble_eq_true rfl, Nat.le_of_ble_eq_true rfl⟩ (rv_12 hC hI) hI rfl hl.1 rfl (Nat.le_of_ble_eq_true rfl) dMeanings_apply_88 ⟨Nat.le_refl _, Nat.le_refl _⟩ (fun r28 H locs ⟨hr28, hI⟩ hS _ _ => ?_)
            refine lv_goto (tgt := 96) hx hb dMeanings_apply_91 (by decide) ?_
            exact hE _ _ _ _ _ hS ⟨trivial, hI⟩ dMeanings_apply_96
        · refine lv_iconst (v := 2) hx hb dMeanings_apply_68 (by decide) ?_
          exact hE _ _ _ _ _ hS ⟨trivial, hI⟩ dMeanings_apply_69
    · refine lv_aload_n hx hb dMeanings_apply_35 rfl (lv_at hl 1 rfl) ?_
      refine lv_iload_n hx hb dMeanings_apply_36 rfl (lv_at hl 2 rfl) ?_
      refine lv_aload_n hx hb dMeanings_apply_37 rfl (lv_at hl 1 rfl) ?_
      refine of_get S hC (of_12_1 hI) in_Meanings rfl (by decide) qw_2a07109efc dMeanings_apply_38 ?_
      refine lv_iload_n hx hb dMeanings_apply_41 rfl (lv_at hl 0 rfl) ?_
      refine pu_Vi (rest := [.int x1, .ref (γ.2.2.2 12)]) S hC (k2_Names_numberOf l γ A κ r17) meNames_numberOf qw_f03e5d487b ⟨Nat.le_of_ble_eq_true rfl, Nat.le_of_ble_eq_true rfl⟩ (rv_2 hC hI) hI rfl hl.1 rfl (Nat.le_of_ble_eq_true rfl) dMeanings_apply_42 ⟨Nat.zero_le _, Nat.zero_le _⟩ (fun r29 hr29 => ?_)
      refine mu_Vi (rest := []) S hC (fun q h => hA q (Nat.le_trans hS.1 h)) (fun q h => h) hS (k_Meanings_applyFunction l γ A κ x1 r29) meMeanings_applyFunction qw_11cbdab6fb ⟨Nat.le_of_ble_eq_true rfl, Nat.le_of_ble_eq_true rfl⟩ (rv_12 hC hI) hI rfl hl.1 rfl (Nat.le_of_ble_eq_true rfl) dMeanings_apply_45 ⟨Nat.le_refl _, Nat.le_refl _⟩ (fun r30 H locs ⟨hr30, hI⟩ hS _ _ => ?_)
      exact hE _ _ _ _ _ hS ⟨trivial, hI⟩ dMeanings_apply_48
  · refine lv_iconst (v := 1) hx hb dMeanings_apply_21 (by decide) ?_
    exact hE _ _ _ _ _ hS ⟨trivial, hI⟩ dMeanings_apply_22

set_option maxHeartbeats 4000000 in
set_option maxRecDepth 100000 in
theorem k_Meanings_cut (l : Launch) (γ : gE) (A : Nat → Prop) (κ : Nat → Nat) (x1 : Int32) (x2 : Int32) (x3 : Int32) (x4 : Int32) : MU l yMeanings_cut bMeanings_cut 11 (some .int) 3 66 0 0 [.ref (γ.2.2.2 12), .int x1, .int x2, .int x3, .int x4] γ A (INV γ A κ) (mQi (fun r H => True ∧ INV γ A κ H) A) := by
  refine mu_openI (by decide) (Nat.le_of_ble_eq_true rfl) ?_
  intro p e s m args below meth c ls Q S hnm hC hA hI hE hl
  obtain ⟨hx, hb, hml, hown, hW⟩ := id S
  have hS : va_S A s.heap s.heap [] := va_S.rf
  have hl : lv_has ls 11 [(0, .ref (γ.2.2.2 12)), (1, .int x1), (2, .int x2), (3, .int x3), (4, .int x4)] := hl
  have J127 : ∀ (N127 : Nat) (ls : Array Slot) (H : Heap) (locs : List Loc) (i1 : Int32) (i2 : Int32) (i3 : Int32) (i4 : Int32) (i5 : Int32) (i6 : Int32) (i7 : Int32) (i8 : Int32) (i9 : Int32) (i10 : Int32), INV γ A κ H → va_S A s.heap H locs → (2147483647 - i10.toInt).toNat = N127 → lv_has ls 11 [(0, .ref (γ.2.2.2 12)), (1, .int i1), (2, .int i2), (3, .int i3), (4, .int i4), (5, .int i5), (6, .int i6), (7, .int i7), (8, .int i8), (9, .int i9), (10, .int i10)] → W p l e (bs_rm 3 0 0 66) s m args below meth c H locs 0 0 Q (F0 m 127 ls []) := by
    intro N127
    induction N127 using Nat.strongRecOn with
    | ind N127 ih127 =>
      intro ls H locs i1 i2 i3 i4 i5 i6 i7 i8 i9 i10 hI hS hm127 hl
      refine lv_iload hx hb dMeanings_cut_127 (lv_at hl 10 rfl) ?_
      refine lv_iload hx hb dMeanings_cut_129 (lv_at hl 9 rfl) ?_
      refine lv_icmp_ge (tgt := 169) hx hb dMeanings_cut_131 (by decide) (fun c21 => ?_) (fun c21 => ?_)
      · refine lv_iconst (v := 0) hx hb dMeanings_cut_169 (by decide) ?_
        exact hE _ _ _ _ _ hS ⟨trivial, hI⟩ dMeanings_cut_170
      · refine lv_aload_n hx hb dMeanings_cut_134 rfl (lv_at hl 0 rfl) ?_
        refine of_get S hC (of_12_4 hI) in_Meanings rfl (by decide) qw_aa3d3bbcf9 dMeanings_cut_135 ?_
        refine of_getN S hC (of_9_5 hI) in_Looks rfl (by decide) qn_3420aee8ba dMeanings_cut_138 ?_
        refine lv_iload_n hx hb dMeanings_cut_141 rfl (lv_at hl 1 rfl) ?_
        refine lv_iload hx hb dMeanings_cut_142 (lv_at hl 10 rfl) ?_
        refine lv_aload_n hx hb dMeanings_cut_144 rfl (lv_at hl 0 rfl) ?_
        refine of_get S hC (of_12_3 hI) in_Meanings rfl (by decide) qw_9bfdade5f5 dMeanings_cut_145 ?_
        refine of_getN S hC (of_4_3 hI) in_Objects rfl (by decide) qn_d1f72cec6f dMeanings_cut_148 ?_
        refine lv_iload_n hx hb dMeanings_cut_151 rfl (lv_at hl 2 rfl) ?_
        refine lv_iload hx hb dMeanings_cut_152 (lv_at hl 7 rfl) ?_
        refine lv_iload hx hb dMeanings_cut_154 (lv_at hl 10 rfl) ?_
        refine lv_iadd hx hb dMeanings_cut_156 ?_
        refine lv_topi (fun v22 ev22 => ?_)
        refine pu_Vi (rest := [.int i10, .int i1, .ref (γ.2.2.2 10)]) S hC (k5_Rows_get l γ A κ i2 v22) meRows_get qw_a0ada774ee ⟨Nat.le_of_ble_eq_true rfl, Nat.le_of_ble_eq_true rfl⟩ (rv_5 hC hI) hI rfl hl.1 rfl (Nat.le_of_ble_eq_true rfl) dMeanings_cut_157 ⟨Nat.zero_le _, Nat.zero_le _⟩ (fun r23 hr23 => ?_)
        refine mu_Vv (rest := []) S hC (fun q h => hA q (Nat.le_trans hS.1 h)) (fun q h => h) hS (k10_Rows_set l γ A κ i1 i10 r23) meRows_set qw_b68edfa9a7 ⟨Nat.le_of_ble_eq_true rfl, Nat.le_of_ble_eq_true rfl⟩ (rv_10 hC hI) hI rfl hl.1 rfl (Nat.le_of_ble_eq_true rfl) dMeanings_cut_160 ⟨Nat.le_refl _, Nat.le_refl _⟩ (fun H locs hI hS _ _ => ?_)
        obtain ⟨v25, ev25⟩ : ∃ y : Int32, y = i10 + 1 := ⟨_, rfl⟩
        refine lv_iinc (v := v25) (lv' := [(10, .int v25), (0, .ref (γ.2.2.2 12)), (1, .int i1), (2, .int i2), (3, .int i3), (4, .int i4), (5, .int i5), (6, .int i6), (7, .int i7), (8, .int i8), (9, .int i9)]) hx hb dMeanings_cut_163 hl (k := 10) rfl (by rw [ev25]; rfl) (by decide) rfl (fun ls hl => ?_)
        refine lv_goto (tgt := 127) hx hb dMeanings_cut_166 (by decide) ?_
        exact ih127 _ (by have q1 : i10.toInt < 2147483647 := (by first | exact (mu_up (k := i10) (by assumption)).2 | assumption); have q2 := mu_lt q1; rw [← ev25] at q2; omega) ls _ _ i1 i2 i3 i4 i5 i6 i7 i8 i9 v25 hI hS rfl (lv_sub hl [1, 2, 3, 4, 5, 6, 7, 8, 9, 10, 0] rfl)
  have J70 : ∀ (ls : Array Slot) (H : Heap) (locs : List Loc) (i1 : Int32) (i2 : Int32) (i3 : Int32) (i4 : Int32) (i5 : Int32) (i6 : Int32) (i7 : Int32) (t0 : Int32), INV γ A κ H → va_S A s.heap H locs → lv_has ls 11 [(0, .ref (γ.2.2.2 12)), (1, .int i1), (2, .int i2), (3, .int i3), (4, .int i4), (5, .int i5), (6, .int i6), (7, .int i7)] → W p l e (bs_rm 3 0 0 66) s m args below meth c H locs 0 0 Q (F0 m 70 ls [.int t0]) := by
    intro ls H locs i1 i2 i3 i4 i5 i6 i7 t0 hI hS hl
    refine lv_istore (lv' := [(8, .int t0), (0, .ref (γ.2.2.2 12)), (1, .int i1), (2, .int i2), (3, .int i3), (4, .int i4), (5, .int i5), (6, .int i6), (7, .int i7)]) hx hb dMeanings_cut_70 hl (by decide) rfl (fun ls hl => ?_)
    refine lv_iload hx hb dMeanings_cut_72 (lv_at hl 0 rfl) ?_
    refine lv_if_eq (tgt := 96) hx hb dMeanings_cut_74 (by decide) (fun c26 => ?_) (fun c26 => ?_)
    · refine lv_bipush (v := 6) hx hb dMeanings_cut_96 (by decide) ?_
      exact hE _ _ _ _ _ hS ⟨trivial, hI⟩ dMeanings_cut_98
    · refine lv_iload hx hb dMeanings_cut_77 (lv_at hl 7 rfl) ?_
      refine lv_iconst (v := (-1)) hx hb dMeanings_cut_79 (by decide) ?_
      refine lv_icmp_eq (tgt := 96) hx hb dMeanings_cut_80 (by decide) (fun c27 => ?_) (fun c27 => ?_)
      · refine lv_bipush (v := 6) hx hb dMeanings_cut_96 (by decide) ?_
        exact hE _ _ _ _ _ hS ⟨trivial, hI⟩ dMeanings_cut_98
      · refine lv_iload hx hb dMeanings_cut_83 (lv_at hl 8 rfl) ?_
        refine lv_iconst (v := (-1)) hx hb dMeanings_cut_85 (by decide) ?_
        refine lv_icmp_eq (tgt := 96) hx hb dMeanings_cut_86 (by decide) (fun c28 => ?_) (fun c28 => ?_)
        · refine lv_bipush (v := 6) hx hb dMeanings_cut_96 (by decide) ?_
          exact hE _ _ _ _ _ hS ⟨trivial, hI⟩ dMeanings_cut_98
        · refine lv_iload hx hb dMeanings_cut_89 (lv_at hl 7 rfl) ?_
          refine lv_iload hx hb dMeanings_cut_91 (lv_at hl 8 rfl) ?_
          refine lv_icmp_ge (tgt := 99) hx hb dMeanings_cut_93 (by decide) (fun c29 => ?_) (fun c29 => ?_)
          · refine lv_iload hx hb dMeanings_cut_99 (lv_at hl 7 rfl) ?_
            refine lv_iload hx hb dMeanings_cut_101 (lv_at hl 8 rfl) ?_
            refine lv_isub hx hb dMeanings_cut_103 ?_
            refine lv_topi (fun v30 ev30 => ?_)
            refine lv_iconst (v := 1) hx hb dMeanings_cut_104 (by decide) ?_
            refine lv_iadd hx hb dMeanings_cut_105 ?_
            refine lv_topi (fun v31 ev31 => ?_)
            refine lv_istore (lv' := [(9, .int v31), (8, .int t0), (0, .ref (γ.2.2.2 12)), (1, .int i1), (2, .int i2), (3, .int i3), (4, .int i4), (5, .int i5), (6, .int i6), (7, .int i7)]) hx hb dMeanings_cut_106 hl (by decide) rfl (fun ls hl => ?_)
            refine lv_aload_n hx hb dMeanings_cut_108 rfl (lv_at hl 2 rfl) ?_
            refine of_get S hC (of_12_4 hI) in_Meanings rfl (by decide) qw_aa3d3bbcf9 dMeanings_cut_109 ?_
            refine lv_iload_n hx hb dMeanings_cut_112 rfl (lv_at hl 3 rfl) ?_
            refine lv_iconst (v := 3) hx hb dMeanings_cut_113 (by decide) ?_
            refine lv_iload hx hb dMeanings_cut_114 (lv_at hl 0 rfl) ?_
            refine lv_aload_n hx hb dMeanings_cut_116 rfl (lv_at hl 2 rfl) ?_
            refine lv_iload_n hx hb dMeanings_cut_117 rfl (lv_at hl 4 rfl) ?_
            refine pu_Vi (rest := [.int v31, .int 3, .int i1, .ref (γ.2.2.2 9)]) S hC (k_Meanings_isConstant l γ A κ i2) meMeanings_isConstant qw_39c162a16b ⟨Nat.le_of_ble_eq_true rfl, Nat.le_of_ble_eq_true rfl⟩ (rv_12 hC hI) hI rfl hl.1 rfl (Nat.le_of_ble_eq_true rfl) dMeanings_cut_118 ⟨Nat.zero_le _, Nat.zero_le _⟩ (fun r32 hr32 => ?_)
            refine mu_Vv (rest := []) S hC (fun q h => hA q (Nat.le_trans hS.1 h)) (fun q h => h) hS (k9_Looks_note l γ A κ i1 3 v31 r32) meLooks_note qw_454d4ae88d ⟨Nat.le_of_ble_eq_true rfl, Nat.le_of_ble_eq_true rfl⟩ (rv_9 hC hI) hI rfl hl.1 rfl (Nat.le_of_ble_eq_true rfl) dMeanings_cut_121 ⟨Nat.le_refl _, Nat.le_refl _⟩ (fun H locs hI hS _ _ => ?_)
            refine lv_iconst (v := 0) hx hb dMeanings_cut_124 (by decide) ?_
            refine lv_istore (lv' := [(10, .int 0), (9, .int v31), (8, .int t0), (0, .ref (γ.2.2.2 12)), (1, .int i1), (2, .int i2), (3, .int i3), (4, .int i4), (5, .int i5), (6, .int i6), (7, .int i7)]) hx hb dMeanings_cut_125 hl (by decide) rfl (fun ls hl => ?_)
            exact J127 _ ls _ _ i1 i2 i3 i4 i5 i6 i7 t0 v31 0 hI hS rfl (lv_sub hl [3, 4, 5, 6, 7, 8, 9, 10, 2, 1, 0] rfl)
          · refine lv_bipush (v := 6) hx hb dMeanings_cut_96 (by decide) ?_
            exact hE _ _ _ _ _ hS ⟨trivial, hI⟩ dMeanings_cut_98
  have J62 : ∀ (ls : Array Slot) (H : Heap) (locs : List Loc) (i1 : Int32) (i2 : Int32) (i3 : Int32) (i4 : Int32) (i5 : Int32) (i6 : Int32) (i7 : Int32) (t0 : Int32) (t1 : Int32), INV γ A κ H → va_S A s.heap H locs → lv_has ls 11 [(0, .ref (γ.2.2.2 12)), (1, .int i1), (2, .int i2), (3, .int i3), (4, .int i4), (5, .int i5), (6, .int i6), (7, .int i7)] → W p l e (bs_rm 3 0 0 66) s m args below meth c H locs 0 0 Q (F0 m 62 ls [.int t0, .int t1]) := by
    intro ls H locs i1 i2 i3 i4 i5 i6 i7 t0 t1 hI hS hl
    refine lv_icmp_ne (tgt := 69) hx hb dMeanings_cut_62 (by decide) (fun c34 => ?_) (fun c34 => ?_)
    · refine lv_iconst (v := 0) hx hb dMeanings_cut_69 (by decide) ?_
      exact J70 ls _ _ i1 i2 i3 i4 i5 i6 i7 0 hI hS (lv_sub hl [0, 1, 2, 3, 4, 5, 6, 7] rfl)
    · refine lv_iconst (v := 1) hx hb dMeanings_cut_65 (by decide) ?_
      refine lv_goto (tgt := 70) hx hb dMeanings_cut_66 (by decide) ?_
      exact J70 ls _ _ i1 i2 i3 i4 i5 i6 i7 1 hI hS (lv_sub hl [0, 1, 2, 3, 4, 5, 6, 7] rfl)
  refine lv_aload_n hx hb dMeanings_cut_0 rfl (lv_at hl 0 rfl) ?_
  refine of_get S hC (of_12_3 hI) in_Meanings rfl (by decide) qw_9bfdade5f5 dMeanings_cut_1 ?_
  refine lv_iload_n hx hb dMeanings_cut_4 rfl (lv_at hl 2 rfl) ?_
  refine pu_Vi (rest := []) S hC (k4_Objects_typeOfObject l γ A κ x2) meObjects_typeOfObject qw_bc7306873f ⟨Nat.le_of_ble_eq_true rfl, Nat.le_of_ble_eq_true rfl⟩ (rv_4 hC hI) hI rfl hl.1 rfl (Nat.le_of_ble_eq_true rfl) dMeanings_cut_5 ⟨Nat.zero_le _, Nat.zero_le _⟩ (fun r35 hr35 => ?_)
  refine lv_istore (lv' := [(5, .int r35), (0, .ref (γ.2.2.2 12)), (1, .int x1), (2, .int x2), (3, .int x3), (4, .int x4)]) hx hb dMeanings_cut_8 hl (by decide) rfl (fun ls hl => ?_)
  refine lv_aload_n hx hb dMeanings_cut_10 rfl (lv_at hl 1 rfl) ?_
  refine of_get S hC (of_12_2 hI) in_Meanings rfl (by decide) qw_e2a2dba4a9 dMeanings_cut_11 ?_
  refine lv_iload hx hb dMeanings_cut_14 (lv_at hl 0 rfl) ?_
  refine lv_iload_n hx hb dMeanings_cut_16 rfl (lv_at hl 4 rfl) ?_
  refine pu_Vi (rest := []) S hC (k3_Types_fromRight l γ A κ r35 x3) meTypes_fromRight qw_de7e185c5e ⟨Nat.le_of_ble_eq_true rfl, Nat.le_of_ble_eq_true rfl⟩ (rv_3 hC hI) hI rfl hl.1 rfl (Nat.le_of_ble_eq_true rfl) dMeanings_cut_17 ⟨Nat.zero_le _, Nat.zero_le _⟩ (fun r36 hr36 => ?_)
  refine lv_istore (lv' := [(6, .int r36), (5, .int r35), (0, .ref (γ.2.2.2 12)), (1, .int x1), (2, .int x2), (3, .int x3), (4, .int x4)]) hx hb dMeanings_cut_20 hl (by decide) rfl (fun ls hl => ?_)
  refine lv_aload_n hx hb dMeanings_cut_22 rfl (lv_at hl 2 rfl) ?_
  refine of_get S hC (of_12_2 hI) in_Meanings rfl (by decide) qw_e2a2dba4a9 dMeanings_cut_23 ?_
  refine lv_iload hx hb dMeanings_cut_26 (lv_at hl 1 rfl) ?_
  refine lv_iload hx hb dMeanings_cut_28 (lv_at hl 6 rfl) ?_
  refine pu_Vi (rest := []) S hC (k3_Types_fromRight l γ A κ r35 x4) meTypes_fromRight qw_de7e185c5e ⟨Nat.le_of_ble_eq_true rfl, Nat.le_of_ble_eq_true rfl⟩ (rv_3 hC hI) hI rfl hl.1 rfl (Nat.le_of_ble_eq_true rfl) dMeanings_cut_30 ⟨Nat.zero_le _, Nat.zero_le _⟩ (fun r37 hr37 => ?_)
  refine lv_istore (lv' := [(7, .int r37), (6, .int r36), (5, .int r35), (0, .ref (γ.2.2.2 12)), (1, .int x1), (2, .int x2), (3, .int x3), (4, .int x4)]) hx hb dMeanings_cut_33 hl (by decide) rfl (fun ls hl => ?_)
  refine lv_aload_n hx hb dMeanings_cut_35 rfl (lv_at hl 3 rfl) ?_
  refine of_get S hC (of_12_2 hI) in_Meanings rfl (by decide) qw_e2a2dba4a9 dMeanings_cut_36 ?_
  refine lv_iload hx hb dMeanings_cut_39 (lv_at hl 2 rfl) ?_
  refine pu_Vi (rest := []) S hC (k3_Types_goesDown l γ A κ r35) meTypes_goesDown qw_63bfba27f7 ⟨Nat.le_of_ble_eq_true rfl, Nat.le_of_ble_eq_true rfl⟩ (rv_3 hC hI) hI rfl hl.1 rfl (Nat.le_of_ble_eq_true rfl) dMeanings_cut_41 ⟨Nat.zero_le _, Nat.zero_le _⟩ (fun r38 hr38 => ?_)
  refine lv_aload_n hx hb dMeanings_cut_44 rfl (lv_at hl 3 rfl) ?_
  refine of_get S hC (of_12_0 hI) in_Meanings rfl (by decide) qw_c54cffb97e dMeanings_cut_45 ?_
  refine lv_iload_n hx hb dMeanings_cut_48 rfl (lv_at hl 4 rfl) ?_
  refine pu_Vi (rest := [.int r38]) S hC (k1_Trees_kindOf l γ A κ x1) meTrees_kindOf qw_6dd2778f5c ⟨Nat.le_of_ble_eq_true rfl, Nat.le_of_ble_eq_true rfl⟩ (rv_1 hC hI) hI rfl hl.1 rfl (Nat.le_of_ble_eq_true rfl) dMeanings_cut_49 ⟨Nat.zero_le _, Nat.zero_le _⟩ (fun r39 hr39 => ?_)
  refine lv_bipush (v := 24) hx hb dMeanings_cut_52 (by decide) ?_
  refine lv_icmp_ne (tgt := 61) hx hb dMeanings_cut_54 (by decide) (fun c40 => ?_) (fun c40 => ?_)
  · refine lv_iconst (v := 0) hx hb dMeanings_cut_61 (by decide) ?_
    exact J62 ls _ _ x1 x2 x3 x4 r35 r36 r37 0 r38 hI hS (lv_sub hl [3, 4, 5, 6, 7, 2, 1, 0] rfl)
  · refine lv_iconst (v := 1) hx hb dMeanings_cut_57 (by decide) ?_
    refine lv_goto (tgt := 62) hx hb dMeanings_cut_58 (by decide) ?_
    exact J62 ls _ _ x1 x2 x3 x4 r35 r36 r37 1 r38 hI hS (lv_sub hl [3, 4, 5, 6, 7, 2, 1, 0] rfl)

set_option maxHeartbeats 4000000 in
set_option maxRecDepth 100000 in
theorem k_Meanings_slice (l : Launch) (γ : gE) (A : Nat → Prop) (κ : Nat → Nat) (x1 : Int32) : MU l yMeanings_slice bMeanings_slice 5 (some .int) 4 96 0 0 [.ref (γ.2.2.2 12), .int x1] γ A (INV γ A κ) (mQi (fun r H => True ∧ INV γ A κ H) A) := by
  refine mu_openI (by decide) (Nat.le_of_ble_eq_true rfl) ?_
  intro p e s m args below meth c ls Q S hnm hC hA hI hE hl
  obtain ⟨hx, hb, hml, hown, hW⟩ := id S
  have hS : va_S A s.heap s.heap [] := va_S.rf
  have hl : lv_has ls 5 [(0, .ref (γ.2.2.2 12)), (1, .int x1)] := hl
  have J130 : ∀ (ls : Array Slot) (H : Heap) (locs : List Loc) (i1 : Int32) (i2 : Int32) (i3 : Int32) (i4 : Int32) (t0 : Int32) (t1 : Int32) (t2 : Int32) (t3 : Int32), INV γ A κ H → va_S A s.heap H locs → lv_has ls 5 [(0, .ref (γ.2.2.2 12)), (1, .int i1), (2, .int i2), (3, .int i3), (4, .int i4)] → W p l e (bs_rm 4 0 0 96) s m args below meth c H locs 0 0 Q (F0 m 130 ls [.int t0, .int t1, .int t2, .int t3, .ref (γ.2.2.2 9)]) := by
    intro ls H locs i1 i2 i3 i4 t0 t1 t2 t3 hI hS hl
    refine mu_Vv (rest := []) S hC (fun q h => hA q (Nat.le_trans hS.1 h)) (fun q h => h) hS (k9_Looks_note l γ A κ t3 t2 t1 t0) meLooks_note qw_454d4ae88d ⟨Nat.le_of_ble_eq_true rfl, Nat.le_of_ble_eq_true rfl⟩ (rv_9 hC hI) hI rfl hl.1 rfl (Nat.le_of_ble_eq_true rfl) dMeanings_slice_130 ⟨Nat.le_refl _, Nat.le_refl _⟩ (fun H locs hI hS _ _ => ?_)
    refine lv_aload_n hx hb dMeanings_slice_133 rfl (lv_at hl 0 rfl) ?_
    refine of_get S hC (of_12_4 hI) in_Meanings rfl (by decide) qw_aa3d3bbcf9 dMeanings_slice_134 ?_
    refine lv_iload_n hx hb dMeanings_slice_137 rfl (lv_at hl 1 rfl) ?_
    refine lv_iload_n hx hb dMeanings_slice_138 rfl (lv_at hl 2 rfl) ?_
    refine mu_Vv (rest := []) S hC (fun q h => hA q (Nat.le_trans hS.1 h)) (fun q h => h) hS (k9_Looks_setMeaning l γ A κ i1 i2) meLooks_setMeaning qw_23315a9189 ⟨Nat.le_of_ble_eq_true rfl, Nat.le_of_ble_eq_true rfl⟩ (rv_9 hC hI) hI rfl hl.1 rfl (Nat.le_of_ble_eq_true rfl) dMeanings_slice_139 ⟨Nat.le_refl _, Nat.le_refl _⟩ (fun H locs hI hS _ _ => ?_)
    refine lv_aload_n hx hb dMeanings_slice_142 rfl (lv_at hl 0 rfl) ?_
    refine of_get S hC (of_12_4 hI) in_Meanings rfl (by decide) qw_aa3d3bbcf9 dMeanings_slice_143 ?_
    refine lv_iload hx hb dMeanings_slice_146 (lv_at hl 4 rfl) ?_
    refine pu_Vi (rest := []) S hC (k9_Looks_isFixed l γ A κ i4) meLooks_isFixed qw_e1e43cfc73 ⟨Nat.le_of_ble_eq_true rfl, Nat.le_of_ble_eq_true rfl⟩ (rv_9 hC hI) hI rfl hl.1 rfl (Nat.le_of_ble_eq_true rfl) dMeanings_slice_148 ⟨Nat.zero_le _, Nat.zero_le _⟩ (fun r32 hr32 => ?_)
    refine lv_if_eq (tgt := 165) hx hb dMeanings_slice_151 (by decide) (fun c33 => ?_) (fun c33 => ?_)
    · refine lv_iconst (v := 5) hx hb dMeanings_slice_165 (by decide) ?_
      exact hE _ _ _ _ _ hS ⟨trivial, hI⟩ dMeanings_slice_166
    · refine lv_aload_n hx hb dMeanings_slice_154 rfl (lv_at hl 0 rfl) ?_
      refine of_get S hC (of_12_4 hI) in_Meanings rfl (by decide) qw_aa3d3bbcf9 dMeanings_slice_155 ?_
      refine lv_iload_n hx hb dMeanings_slice_158 rfl (lv_at hl 3 rfl) ?_
      refine pu_Vi (rest := []) S hC (k9_Looks_isFixed l γ A κ i3) meLooks_isFixed qw_e1e43cfc73 ⟨Nat.le_of_ble_eq_true rfl, Nat.le_of_ble_eq_true rfl⟩ (rv_9 hC hI) hI rfl hl.1 rfl (Nat.le_of_ble_eq_true rfl) dMeanings_slice_159 ⟨Nat.zero_le _, Nat.zero_le _⟩ (fun r34 hr34 => ?_)
      refine lv_if_ne (tgt := 167) hx hb dMeanings_slice_162 (by decide) (fun c35 => ?_) (fun c35 => ?_)
      · refine lv_aload_n hx hb dMeanings_slice_167 rfl (lv_at hl 0 rfl) ?_
        refine lv_iload_n hx hb dMeanings_slice_168 rfl (lv_at hl 1 rfl) ?_
        refine lv_iload_n hx hb dMeanings_slice_169 rfl (lv_at hl 2 rfl) ?_
        refine lv_aload_n hx hb dMeanings_slice_170 rfl (lv_at hl 0 rfl) ?_
        refine of_get S hC (of_12_4 hI) in_Meanings rfl (by decide) qw_aa3d3bbcf9 dMeanings_slice_171 ?_
        refine lv_iload hx hb dMeanings_slice_174 (lv_at hl 4 rfl) ?_
        refine pu_Vi (rest := [.int i2, .int i1, .ref (γ.2.2.2 12)]) S hC (k9_Looks_numberOf l γ A κ i4) meLooks_numberOf qw_58178e0f63 ⟨Nat.le_of_ble_eq_true rfl, Nat.le_of_ble_eq_true rfl⟩ (rv_9 hC hI) hI rfl hl.1 rfl (Nat.le_of_ble_eq_true rfl) dMeanings_slice_176 ⟨Nat.zero_le _, Nat.zero_le _⟩ (fun r36 hr36 => ?_)
        refine lv_aload_n hx hb dMeanings_slice_179 rfl (lv_at hl 0 rfl) ?_
        refine of_get S hC (of_12_4 hI) in_Meanings rfl (by decide) qw_aa3d3bbcf9 dMeanings_slice_180 ?_
        refine lv_iload_n hx hb dMeanings_slice_183 rfl (lv_at hl 3 rfl) ?_
        refine pu_Vi (rest := [.int r36, .int i2, .int i1, .ref (γ.2.2.2 12)]) S hC (k9_Looks_numberOf l γ A κ i3) meLooks_numberOf qw_58178e0f63 ⟨Nat.le_of_ble_eq_true rfl, Nat.le_of_ble_eq_true rfl⟩ (rv_9 hC hI) hI rfl hl.1 rfl (Nat.le_of_ble_eq_true rfl) dMeanings_slice_184 ⟨Nat.zero_le _, Nat.zero_le _⟩ (fun r37 hr37 => ?_)
        refine mu_Vi (rest := []) S hC (fun q h => hA q (Nat.le_trans hS.1 h)) (fun q h => h) hS (k_Meanings_cut l γ A κ i1 i2 r36 r37) meMeanings_cut qw_61f742eb08 ⟨Nat.le_of_ble_eq_true rfl, Nat.le_of_ble_eq_true rfl⟩ (rv_12 hC hI) hI rfl hl.1 rfl (Nat.le_of_ble_eq_true rfl) dMeanings_slice_187 ⟨Nat.le_refl _, Nat.le_refl _⟩ (fun r38 H locs ⟨hr38, hI⟩ hS _ _ => ?_)
        exact hE _ _ _ _ _ hS ⟨trivial, hI⟩ dMeanings_slice_190
      · refine lv_iconst (v := 5) hx hb dMeanings_slice_165 (by decide) ?_
        exact hE _ _ _ _ _ hS ⟨trivial, hI⟩ dMeanings_slice_166
  have J129 : ∀ (ls : Array Slot) (H : Heap) (locs : List Loc) (i1 : Int32) (i2 : Int32) (i3 : Int32) (i4 : Int32) (t0 : Int32) (t1 : Int32) (t2 : Int32), INV γ A κ H → va_S A s.heap H locs → lv_has ls 5 [(0, .ref (γ.2.2.2 12)), (1, .int i1), (2, .int i2), (3, .int i3), (4, .int i4)] → W p l e (bs_rm 4 0 0 96) s m args below meth c H locs 0 0 Q (F0 m 129 ls [.int t0, .int t1, .int t2, .ref (γ.2.2.2 9)]) := by
    intro ls H locs i1 i2 i3 i4 t0 t1 t2 hI hS hl
    refine lv_iconst (v := 0) hx hb dMeanings_slice_129 (by decide) ?_
    exact J130 ls _ _ i1 i2 i3 i4 0 t0 t1 t2 hI hS (lv_sub hl [0, 1, 2, 3, 4] rfl)
  refine lv_aload_n hx hb dMeanings_slice_0 rfl (lv_at hl 0 rfl) ?_
  refine of_get S hC (of_12_0 hI) in_Meanings rfl (by decide) qw_c54cffb97e dMeanings_slice_1 ?_
  refine lv_iload_n hx hb dMeanings_slice_4 rfl (lv_at hl 1 rfl) ?_
  refine pu_Vi (rest := []) S hC (k1_Trees_countOf l γ A κ x1) meTrees_countOf qw_08981d77a7 ⟨Nat.le_of_ble_eq_true rfl, Nat.le_of_ble_eq_true rfl⟩ (rv_1 hC hI) hI rfl hl.1 rfl (Nat.le_of_ble_eq_true rfl) dMeanings_slice_5 ⟨Nat.zero_le _, Nat.zero_le _⟩ (fun r39 hr39 => ?_)
  refine lv_iconst (v := 2) hx hb dMeanings_slice_8 (by decide) ?_
  refine lv_icmp_eq (tgt := 15) hx hb dMeanings_slice_9 (by decide) (fun c40 => ?_) (fun c40 => ?_)
  · refine lv_aload_n hx hb dMeanings_slice_15 rfl (lv_at hl 0 rfl) ?_
    refine lv_iload_n hx hb dMeanings_slice_16 rfl (lv_at hl 1 rfl) ?_
    refine pu_Vi (rest := []) S hC (k_Meanings_isUnknown l γ A κ x1) meMeanings_isUnknown qw_88d34ce9ff ⟨Nat.le_of_ble_eq_true rfl, Nat.le_of_ble_eq_true rfl⟩ (rv_12 hC hI) hI rfl hl.1 rfl (Nat.le_of_ble_eq_true rfl) dMeanings_slice_17 ⟨Nat.zero_le _, Nat.zero_le _⟩ (fun r41 hr41 => ?_)
    refine lv_if_eq (tgt := 25) hx hb dMeanings_slice_20 (by decide) (fun c42 => ?_) (fun c42 => ?_)
    · refine lv_aload_n hx hb dMeanings_slice_25 rfl (lv_at hl 0 rfl) ?_
      refine lv_iload_n hx hb dMeanings_slice_26 rfl (lv_at hl 1 rfl) ?_
      refine pu_Vi (rest := []) S hC (k_Meanings_objectAt l γ A κ x1) meMeanings_objectAt qw_1c1a520089 ⟨Nat.le_of_ble_eq_true rfl, Nat.le_of_ble_eq_true rfl⟩ (rv_12 hC hI) hI rfl hl.1 rfl (Nat.le_of_ble_eq_true rfl) dMeanings_slice_27 ⟨Nat.zero_le _, Nat.zero_le _⟩ (fun r43 hr43 => ?_)
      refine lv_istore_n (lv' := [(2, .int r43), (0, .ref (γ.2.2.2 12)), (1, .int x1)]) hx hb dMeanings_slice_30 rfl hl (by decide) rfl (fun ls hl => ?_)
      refine lv_iload_n hx hb dMeanings_slice_31 rfl (lv_at hl 0 rfl) ?_
      refine lv_iconst (v := (-1)) hx hb dMeanings_slice_32 (by decide) ?_
      refine lv_icmp_eq (tgt := 44) hx hb dMeanings_slice_33 (by decide) (fun c44 => ?_) (fun c44 => ?_)
      · refine lv_iconst (v := 2) hx hb dMeanings_slice_44 (by decide) ?_
        exact hE _ _ _ _ _ hS ⟨trivial, hI⟩ dMeanings_slice_45
      · refine lv_aload_n hx hb dMeanings_slice_36 rfl (lv_at hl 1 rfl) ?_
        refine lv_iload_n hx hb dMeanings_slice_37 rfl (lv_at hl 0 rfl) ?_
        refine pu_Vi (rest := []) S hC (k_Meanings_isRow l γ A κ r43) meMeanings_isRow qw_5342b138aa ⟨Nat.le_of_ble_eq_true rfl, Nat.le_of_ble_eq_true rfl⟩ (rv_12 hC hI) hI rfl hl.1 rfl (Nat.le_of_ble_eq_true rfl) dMeanings_slice_38 ⟨Nat.zero_le _, Nat.zero_le _⟩ (fun r45 hr45 => ?_)
        refine lv_if_ne (tgt := 46) hx hb dMeanings_slice_41 (by decide) (fun c46 => ?_) (fun c46 => ?_)
        · refine lv_iload_n hx hb dMeanings_slice_46 rfl (lv_at hl 2 rfl) ?_
          refine lv_iconst (v := 1) hx hb dMeanings_slice_47 (by decide) ?_
          refine lv_isub hx hb dMeanings_slice_48 ?_
          refine lv_topi (fun v47 ev47 => ?_)
          refine lv_istore_n (lv' := [(3, .int v47), (2, .int r43), (0, .ref (γ.2.2.2 12)), (1, .int x1)]) hx hb dMeanings_slice_49 rfl hl (by decide) rfl (fun ls hl => ?_)
          refine lv_aload_n hx hb dMeanings_slice_50 rfl (lv_at hl 2 rfl) ?_
          refine of_get S hC (of_12_0 hI) in_Meanings rfl (by decide) qw_c54cffb97e dMeanings_slice_51 ?_
          refine lv_iload_n hx hb dMeanings_slice_54 rfl (lv_at hl 3 rfl) ?_
          refine pu_Vi (rest := []) S hC (k1_Trees_leftOfTwo l γ A κ x1) meTrees_leftOfTwo qw_8972b5ce5c ⟨Nat.le_of_ble_eq_true rfl, Nat.le_of_ble_eq_true rfl⟩ (rv_1 hC hI) hI rfl hl.1 rfl (Nat.le_of_ble_eq_true rfl) dMeanings_slice_55 ⟨Nat.zero_le _, Nat.zero_le _⟩ (fun r48 hr48 => ?_)
          refine lv_istore (lv' := [(4, .int r48), (3, .int v47), (2, .int r43), (0, .ref (γ.2.2.2 12)), (1, .int x1)]) hx hb dMeanings_slice_58 hl (by decide) rfl (fun ls hl => ?_)
          refine lv_aload_n hx hb dMeanings_slice_60 rfl (lv_at hl 3 rfl) ?_
          refine of_get S hC (of_12_4 hI) in_Meanings rfl (by decide) qw_aa3d3bbcf9 dMeanings_slice_61 ?_
          refine lv_iload hx hb dMeanings_slice_64 (lv_at hl 0 rfl) ?_
          refine pu_Vi (rest := []) S hC (k9_Looks_classOf l γ A κ r48) meLooks_classOf qw_631ccf37b6 ⟨Nat.le_of_ble_eq_true rfl, Nat.le_of_ble_eq_true rfl⟩ (rv_9 hC hI) hI rfl hl.1 rfl (Nat.le_of_ble_eq_true rfl) dMeanings_slice_66 ⟨Nat.zero_le _, Nat.zero_le _⟩ (fun r49 hr49 => ?_)
          refine lv_iconst (v := 2) hx hb dMeanings_slice_69 (by decide) ?_
          refine lv_icmp_ne (tgt := 85) hx hb dMeanings_slice_70 (by decide) (fun c50 => ?_) (fun c50 => ?_)
          · refine lv_iconst (v := 3) hx hb dMeanings_slice_85 (by decide) ?_
            exact hE _ _ _ _ _ hS ⟨trivial, hI⟩ dMeanings_slice_86
          · refine lv_aload_n hx hb dMeanings_slice_73 rfl (lv_at hl 3 rfl) ?_
            refine of_get S hC (of_12_4 hI) in_Meanings rfl (by decide) qw_aa3d3bbcf9 dMeanings_slice_74 ?_
            refine lv_iload_n hx hb dMeanings_slice_77 rfl (lv_at hl 1 rfl) ?_
            refine pu_Vi (rest := []) S hC (k9_Looks_classOf l γ A κ v47) meLooks_classOf qw_631ccf37b6 ⟨Nat.le_of_ble_eq_true rfl, Nat.le_of_ble_eq_true rfl⟩ (rv_9 hC hI) hI rfl hl.1 rfl (Nat.le_of_ble_eq_true rfl) dMeanings_slice_78 ⟨Nat.zero_le _, Nat.zero_le _⟩ (fun r51 hr51 => ?_)
            refine lv_iconst (v := 2) hx hb dMeanings_slice_81 (by decide) ?_
            refine lv_icmp_eq (tgt := 87) hx hb dMeanings_slice_82 (by decide) (fun c52 => ?_) (fun c52 => ?_)
            · refine lv_aload_n hx hb dMeanings_slice_87 rfl (lv_at hl 3 rfl) ?_
              refine of_get S hC (of_12_4 hI) in_Meanings rfl (by decide) qw_aa3d3bbcf9 dMeanings_slice_88 ?_
              refine lv_iload_n hx hb dMeanings_slice_91 rfl (lv_at hl 4 rfl) ?_
              refine lv_iconst (v := 3) hx hb dMeanings_slice_92 (by decide) ?_
              refine lv_iconst (v := 0) hx hb dMeanings_slice_93 (by decide) ?_
              refine lv_aload_n hx hb dMeanings_slice_94 rfl (lv_at hl 3 rfl) ?_
              refine lv_iload_n hx hb dMeanings_slice_95 rfl (lv_at hl 2 rfl) ?_
              refine pu_Vi (rest := [.int 0, .int 3, .int x1, .ref (γ.2.2.2 9)]) S hC (k_Meanings_isConstant l γ A κ r43) meMeanings_isConstant qw_39c162a16b ⟨Nat.le_of_ble_eq_true rfl, Nat.le_of_ble_eq_true rfl⟩ (rv_12 hC hI) hI rfl hl.1 rfl (Nat.le_of_ble_eq_true rfl) dMeanings_slice_96 ⟨Nat.zero_le _, Nat.zero_le _⟩ (fun r53 hr53 => ?_)
              refine lv_if_eq (tgt := 129) hx hb dMeanings_slice_99 (by decide) (fun c54 => ?_) (fun c54 => ?_)
              · exact J129 ls _ _ x1 r43 v47 r48 0 3 x1 hI hS (lv_sub hl [3, 4, 2, 1, 0] rfl)
              · refine lv_aload_n hx hb dMeanings_slice_102 rfl (lv_at hl 3 rfl) ?_
                refine of_get S hC (of_12_4 hI) in_Meanings rfl (by decide) qw_aa3d3bbcf9 dMeanings_slice_103 ?_
                refine lv_iload hx hb dMeanings_slice_106 (lv_at hl 0 rfl) ?_
                refine pu_Vi (rest := [.int 0, .int 3, .int x1, .ref (γ.2.2.2 9)]) S hC (k9_Looks_isFixed l γ A κ r48) meLooks_isFixed qw_e1e43cfc73 ⟨Nat.le_of_ble_eq_true rfl, Nat.le_of_ble_eq_true rfl⟩ (rv_9 hC hI) hI rfl hl.1 rfl (Nat.le_of_ble_eq_true rfl) dMeanings_slice_108 ⟨Nat.zero_le _, Nat.zero_le _⟩ (fun r55 hr55 => ?_)
                refine lv_if_eq (tgt := 129) hx hb dMeanings_slice_111 (by decide) (fun c56 => ?_) (fun c56 => ?_)
                · exact J129 ls _ _ x1 r43 v47 r48 0 3 x1 hI hS (lv_sub hl [3, 4, 2, 1, 0] rfl)
                · refine lv_aload_n hx hb dMeanings_slice_114 rfl (lv_at hl 3 rfl) ?_
                  refine of_get S hC (of_12_4 hI) in_Meanings rfl (by decide) qw_aa3d3bbcf9 dMeanings_slice_115 ?_
                  refine lv_iload_n hx hb dMeanings_slice_118 rfl (lv_at hl 1 rfl) ?_
                  refine pu_Vi (rest := [.int 0, .int 3, .int x1, .ref (γ.2.2.2 9)]) S hC (k9_Looks_isFixed l γ A κ v47) meLooks_isFixed qw_e1e43cfc73 ⟨Nat.le_of_ble_eq_true rfl, Nat.le_of_ble_eq_true rfl⟩ (rv_9 hC hI) hI rfl hl.1 rfl (Nat.le_of_ble_eq_true rfl) dMeanings_slice_119 ⟨Nat.zero_le _, Nat.zero_le _⟩ (fun r57 hr57 => ?_)
                  refine lv_if_eq (tgt := 129) hx hb dMeanings_slice_122 (by decide) (fun c58 => ?_) (fun c58 => ?_)
                  · exact J129 ls _ _ x1 r43 v47 r48 0 3 x1 hI hS (lv_sub hl [3, 4, 2, 1, 0] rfl)
                  · refine lv_iconst (v := 1) hx hb dMeanings_slice_125 (by decide) ?_
                    refine lv_goto (tgt := 130) hx hb dMeanings_slice_126 (by decide) ?_
                    exact J130 ls _ _ x1 r43 v47 r48 1 0 3 x1 hI hS (lv_sub hl [3, 4, 2, 1, 0] rfl)
            · refine lv_iconst (v := 3) hx hb dMeanings_slice_85 (by decide) ?_
              exact hE _ _ _ _ _ hS ⟨trivial, hI⟩ dMeanings_slice_86
        · refine lv_iconst (v := 2) hx hb dMeanings_slice_44 (by decide) ?_
          exact hE _ _ _ _ _ hS ⟨trivial, hI⟩ dMeanings_slice_45
    · refine lv_iconst (v := 1) hx hb dMeanings_slice_23 (by decide) ?_
      exact hE _ _ _ _ _ hS ⟨trivial, hI⟩ dMeanings_slice_24
  · refine lv_bipush (v := 11) hx hb dMeanings_slice_12 (by decide) ?_
    exact hE _ _ _ _ _ hS ⟨trivial, hI⟩ dMeanings_slice_14

set_option maxHeartbeats 4000000 in
set_option maxRecDepth 100000 in
theorem k_Meanings_noteAttribute (l : Launch) (γ : gE) (A : Nat → Prop) (κ : Nat → Nat) (x1 : Int32) (x2 : Int32) (x3 : Int32) : MU l yMeanings_noteAttribute bMeanings_noteAttribute 4 (none) 3 66 0 0 [.ref (γ.2.2.2 12), .int x1, .int x2, .int x3] γ A (INV γ A κ) (mQv (fun H => INV γ A κ H) A) := by
  refine mu_openV (by decide) (Nat.le_of_ble_eq_true rfl) ?_
  intro p e s m args below meth c ls Q S hnm hC hA hI hE hl
  obtain ⟨hx, hb, hml, hown, hW⟩ := id S
  have hS : va_S A s.heap s.heap [] := va_S.rf
  have hl : lv_has ls 4 [(0, .ref (γ.2.2.2 12)), (1, .int x1), (2, .int x2), (3, .int x3)] := hl
  refine lv_iload_n hx hb dMeanings_noteAttribute_0 rfl (lv_at hl 2 rfl) ?_
  refine lv_bipush (v := 18) hx hb dMeanings_noteAttribute_1 (by decide) ?_
  refine lv_icmp_lt (tgt := 34) hx hb dMeanings_noteAttribute_3 (by decide) (fun c10 => ?_) (fun c10 => ?_)
  · refine lv_iload_n hx hb dMeanings_noteAttribute_34 rfl (lv_at hl 2 rfl) ?_
    refine lv_bipush (v := 17) hx hb dMeanings_noteAttribute_35 (by decide) ?_
    refine lv_icmp_ne (tgt := 68) hx hb dMeanings_noteAttribute_37 (by decide) (fun c11 => ?_) (fun c11 => ?_)
    · refine lv_aload_n hx hb dMeanings_noteAttribute_68 rfl (lv_at hl 0 rfl) ?_
      refine of_get S hC (of_12_4 hI) in_Meanings rfl (by decide) qw_aa3d3bbcf9 dMeanings_noteAttribute_69 ?_
      refine lv_iload_n hx hb dMeanings_noteAttribute_72 rfl (lv_at hl 1 rfl) ?_
      refine lv_iconst (v := 1) hx hb dMeanings_noteAttribute_73 (by decide) ?_
      refine lv_iconst (v := 0) hx hb dMeanings_noteAttribute_74 (by decide) ?_
      refine lv_iconst (v := 0) hx hb dMeanings_noteAttribute_75 (by decide) ?_
      refine mu_Vv (rest := []) S hC (fun q h => hA q (Nat.le_trans hS.1 h)) (fun q h => h) hS (k9_Looks_note l γ A κ x1 1 0 0) meLooks_note qw_454d4ae88d ⟨Nat.le_of_ble_eq_true rfl, Nat.le_of_ble_eq_true rfl⟩ (rv_9 hC hI) hI rfl hl.1 rfl (Nat.le_of_ble_eq_true rfl) dMeanings_noteAttribute_76 ⟨Nat.le_refl _, Nat.le_refl _⟩ (fun H locs hI hS _ _ => ?_)
      exact hE _ _ _ _ hS hI dMeanings_noteAttribute_79
    · refine lv_aload_n hx hb dMeanings_noteAttribute_40 rfl (lv_at hl 0 rfl) ?_
      refine of_get S hC (of_12_4 hI) in_Meanings rfl (by decide) qw_aa3d3bbcf9 dMeanings_noteAttribute_41 ?_
      refine lv_iload_n hx hb dMeanings_noteAttribute_44 rfl (lv_at hl 1 rfl) ?_
      refine lv_aload_n hx hb dMeanings_noteAttribute_45 rfl (lv_at hl 0 rfl) ?_
      refine of_get S hC (of_12_2 hI) in_Meanings rfl (by decide) qw_e2a2dba4a9 dMeanings_noteAttribute_46 ?_
      refine lv_iload_n hx hb dMeanings_noteAttribute_49 rfl (lv_at hl 3 rfl) ?_
      refine pu_Vi (rest := [.int x1, .ref (γ.2.2.2 9)]) S hC (k3_Types_classOf l γ A κ x3) meTypes_classOf qw_ac19273b21 ⟨Nat.le_of_ble_eq_true rfl, Nat.le_of_ble_eq_true rfl⟩ (rv_3 hC hI) hI rfl hl.1 rfl (Nat.le_of_ble_eq_true rfl) dMeanings_noteAttribute_50 ⟨Nat.zero_le _, Nat.zero_le _⟩ (fun r13 hr13 => ?_)
      refine lv_aload_n hx hb dMeanings_noteAttribute_53 rfl (lv_at hl 0 rfl) ?_
      refine of_get S hC (of_12_2 hI) in_Meanings rfl (by decide) qw_e2a2dba4a9 dMeanings_noteAttribute_54 ?_
      refine lv_iload_n hx hb dMeanings_noteAttribute_57 rfl (lv_at hl 3 rfl) ?_
      refine pu_Vi (rest := [.int r13, .int x1, .ref (γ.2.2.2 9)]) S hC (k3_Types_extentOf l γ A κ x3) meTypes_extentOf qw_3b2c7270bb ⟨Nat.le_of_ble_eq_true rfl, Nat.le_of_ble_eq_true rfl⟩ (rv_3 hC hI) hI rfl hl.1 rfl (Nat.le_of_ble_eq_true rfl) dMeanings_noteAttribute_58 ⟨Nat.zero_le _, Nat.zero_le _⟩ (fun r14 hr14 => ?_)
      refine lv_iconst (v := 0) hx hb dMeanings_noteAttribute_61 (by decide) ?_
      refine mu_Vv (rest := []) S hC (fun q h => hA q (Nat.le_trans hS.1 h)) (fun q h => h) hS (k9_Looks_note l γ A κ x1 r13 r14 0) meLooks_note qw_454d4ae88d ⟨Nat.le_of_ble_eq_true rfl, Nat.le_of_ble_eq_true rfl⟩ (rv_9 hC hI) hI rfl hl.1 rfl (Nat.le_of_ble_eq_true rfl) dMeanings_noteAttribute_62 ⟨Nat.le_refl _, Nat.le_refl _⟩ (fun H locs hI hS _ _ => ?_)
      refine lv_goto (tgt := 79) hx hb dMeanings_noteAttribute_65 (by decide) ?_
      exact hE _ _ _ _ hS hI dMeanings_noteAttribute_79
  · refine lv_aload_n hx hb dMeanings_noteAttribute_6 rfl (lv_at hl 0 rfl) ?_
    refine of_get S hC (of_12_4 hI) in_Meanings rfl (by decide) qw_aa3d3bbcf9 dMeanings_noteAttribute_7 ?_
    refine lv_iload_n hx hb dMeanings_noteAttribute_10 rfl (lv_at hl 1 rfl) ?_
    refine lv_iconst (v := 2) hx hb dMeanings_noteAttribute_11 (by decide) ?_
    refine lv_iconst (v := 0) hx hb dMeanings_noteAttribute_12 (by decide) ?_
    refine lv_iconst (v := 1) hx hb dMeanings_noteAttribute_13 (by decide) ?_
    refine mu_Vv (rest := []) S hC (fun q h => hA q (Nat.le_trans hS.1 h)) (fun q h => h) hS (k9_Looks_note l γ A κ x1 2 0 1) meLooks_note qw_454d4ae88d ⟨Nat.le_of_ble_eq_true rfl, Nat.le_of_ble_eq_true rfl⟩ (rv_9 hC hI) hI rfl hl.1 rfl (Nat.le_of_ble_eq_true rfl) dMeanings_noteAttribute_14 ⟨Nat.le_refl _, Nat.le_refl _⟩ (fun H locs hI hS _ _ => ?_)
    refine lv_aload_n hx hb dMeanings_noteAttribute_17 rfl (lv_at hl 0 rfl) ?_
    refine of_get S hC (of_12_4 hI) in_Meanings rfl (by decide) qw_aa3d3bbcf9 dMeanings_noteAttribute_18 ?_
    refine lv_iload_n hx hb dMeanings_noteAttribute_21 rfl (lv_at hl 1 rfl) ?_
    refine lv_aload_n hx hb dMeanings_noteAttribute_22 rfl (lv_at hl 0 rfl) ?_
    refine lv_iload_n hx hb dMeanings_noteAttribute_23 rfl (lv_at hl 2 rfl) ?_
    refine lv_iload_n hx hb dMeanings_noteAttribute_24 rfl (lv_at hl 3 rfl) ?_
    refine pu_Vi (rest := [.int x1, .ref (γ.2.2.2 9)]) S hC (k_Meanings_boundOf l γ A κ x2 x3) meMeanings_boundOf qw_d7f92bc95d ⟨Nat.le_of_ble_eq_true rfl, Nat.le_of_ble_eq_true rfl⟩ (rv_12 hC hI) hI rfl hl.1 rfl (Nat.le_of_ble_eq_true rfl) dMeanings_noteAttribute_25 ⟨Nat.zero_le _, Nat.zero_le _⟩ (fun r17 hr17 => ?_)
    refine mu_Vv (rest := []) S hC (fun q h => hA q (Nat.le_trans hS.1 h)) (fun q h => h) hS (k9_Looks_setNumber l γ A κ x1 r17) meLooks_setNumber qw_86190d2de0 ⟨Nat.le_of_ble_eq_true rfl, Nat.le_of_ble_eq_true rfl⟩ (rv_9 hC hI) hI rfl hl.1 rfl (Nat.le_of_ble_eq_true rfl) dMeanings_noteAttribute_28 ⟨Nat.le_refl _, Nat.le_refl _⟩ (fun H locs hI hS _ _ => ?_)
    refine lv_goto (tgt := 79) hx hb dMeanings_noteAttribute_31 (by decide) ?_
    exact hE _ _ _ _ hS hI dMeanings_noteAttribute_79

set_option maxHeartbeats 4000000 in
set_option maxRecDepth 100000 in
theorem k_Meanings_attribute (l : Launch) (γ : gE) (A : Nat → Prop) (κ : Nat → Nat) (x1 : Int32) : MU l yMeanings_attribute bMeanings_attribute 5 (some .int) 4 89 0 0 [.ref (γ.2.2.2 12), .int x1] γ A (INV γ A κ) (mQi (fun r H => True ∧ INV γ A κ H) A) := by
  refine mu_openI (by decide) (Nat.le_of_ble_eq_true rfl) ?_
  intro p e s m args below meth c ls Q S hnm hC hA hI hE hl
  obtain ⟨hx, hb, hml, hown, hW⟩ := id S
  have hS : va_S A s.heap s.heap [] := va_S.rf
  have hl : lv_has ls 5 [(0, .ref (γ.2.2.2 12)), (1, .int x1)] := hl
  have J124 : ∀ (ls : Array Slot) (H : Heap) (locs : List Loc) (i1 : Int32) (i2 : Int32) (i3 : Int32) (i4 : Int32), INV γ A κ H → va_S A s.heap H locs → lv_has ls 5 [(0, .ref (γ.2.2.2 12)), (1, .int i1), (2, .int i2), (3, .int i3), (4, .int i4)] → W p l e (bs_rm 4 0 0 89) s m args below meth c H locs 0 0 Q (F0 m 124 ls []) := by
    intro ls H locs i1 i2 i3 i4 hI hS hl
    refine lv_aload_n hx hb dMeanings_attribute_124 rfl (lv_at hl 0 rfl) ?_
    refine lv_iload_n hx hb dMeanings_attribute_125 rfl (lv_at hl 1 rfl) ?_
    refine lv_iload_n hx hb dMeanings_attribute_126 rfl (lv_at hl 3 rfl) ?_
    refine lv_aload_n hx hb dMeanings_attribute_127 rfl (lv_at hl 0 rfl) ?_
    refine of_get S hC (of_12_3 hI) in_Meanings rfl (by decide) qw_9bfdade5f5 dMeanings_attribute_128 ?_
    refine lv_iload hx hb dMeanings_attribute_131 (lv_at hl 4 rfl) ?_
    refine pu_Vi (rest := [.int i3, .int i1, .ref (γ.2.2.2 12)]) S hC (k4_Objects_typeOfObject l γ A κ i4) meObjects_typeOfObject qw_bc7306873f ⟨Nat.le_of_ble_eq_true rfl, Nat.le_of_ble_eq_true rfl⟩ (rv_4 hC hI) hI rfl hl.1 rfl (Nat.le_of_ble_eq_true rfl) dMeanings_attribute_133 ⟨Nat.zero_le _, Nat.zero_le _⟩ (fun r24 hr24 => ?_)
    refine mu_Vv (rest := []) S hC (fun q h => hA q (Nat.le_trans hS.1 h)) (fun q h => h) hS (k_Meanings_noteAttribute l γ A κ i1 i3 r24) meMeanings_noteAttribute qw_ef57f773bb ⟨Nat.le_of_ble_eq_true rfl, Nat.le_of_ble_eq_true rfl⟩ (rv_12 hC hI) hI rfl hl.1 rfl (Nat.le_of_ble_eq_true rfl) dMeanings_attribute_136 ⟨Nat.le_refl _, Nat.le_refl _⟩ (fun H locs hI hS _ _ => ?_)
    refine lv_aload_n hx hb dMeanings_attribute_139 rfl (lv_at hl 0 rfl) ?_
    refine of_get S hC (of_12_4 hI) in_Meanings rfl (by decide) qw_aa3d3bbcf9 dMeanings_attribute_140 ?_
    refine lv_iload_n hx hb dMeanings_attribute_143 rfl (lv_at hl 1 rfl) ?_
    refine lv_iload hx hb dMeanings_attribute_144 (lv_at hl 4 rfl) ?_
    refine mu_Vv (rest := []) S hC (fun q h => hA q (Nat.le_trans hS.1 h)) (fun q h => h) hS (k9_Looks_setMeaning l γ A κ i1 i4) meLooks_setMeaning qw_23315a9189 ⟨Nat.le_of_ble_eq_true rfl, Nat.le_of_ble_eq_true rfl⟩ (rv_9 hC hI) hI rfl hl.1 rfl (Nat.le_of_ble_eq_true rfl) dMeanings_attribute_146 ⟨Nat.le_refl _, Nat.le_refl _⟩ (fun H locs hI hS _ _ => ?_)
    refine lv_iconst (v := 0) hx hb dMeanings_attribute_149 (by decide) ?_
    exact hE _ _ _ _ _ hS ⟨trivial, hI⟩ dMeanings_attribute_150
  have J107 : ∀ (ls : Array Slot) (H : Heap) (locs : List Loc) (i1 : Int32) (i2 : Int32) (i3 : Int32) (i4 : Int32), INV γ A κ H → va_S A s.heap H locs → lv_has ls 5 [(0, .ref (γ.2.2.2 12)), (1, .int i1), (2, .int i2), (3, .int i3), (4, .int i4)] → W p l e (bs_rm 4 0 0 89) s m args below meth c H locs 0 0 Q (F0 m 107 ls []) := by
    intro ls H locs i1 i2 i3 i4 hI hS hl
    refine lv_iload_n hx hb dMeanings_attribute_107 rfl (lv_at hl 3 rfl) ?_
    refine lv_bipush (v := 18) hx hb dMeanings_attribute_108 (by decide) ?_
    refine lv_icmp_lt (tgt := 124) hx hb dMeanings_attribute_110 (by decide) (fun c27 => ?_) (fun c27 => ?_)
    · exact J124 ls _ _ i1 i2 i3 i4 hI hS (lv_sub hl [0, 1, 2, 3, 4] rfl)
    · refine lv_aload_n hx hb dMeanings_attribute_113 rfl (lv_at hl 0 rfl) ?_
      refine lv_iload hx hb dMeanings_attribute_114 (lv_at hl 4 rfl) ?_
      refine pu_Vi (rest := []) S hC (k_Meanings_isRow l γ A κ i4) meMeanings_isRow qw_5342b138aa ⟨Nat.le_of_ble_eq_true rfl, Nat.le_of_ble_eq_true rfl⟩ (rv_12 hC hI) hI rfl hl.1 rfl (Nat.le_of_ble_eq_true rfl) dMeanings_attribute_116 ⟨Nat.zero_le _, Nat.zero_le _⟩ (fun r28 hr28 => ?_)
      refine lv_if_ne (tgt := 124) hx hb dMeanings_attribute_119 (by decide) (fun c29 => ?_) (fun c29 => ?_)
      · exact J124 ls _ _ i1 i2 i3 i4 hI hS (lv_sub hl [0, 1, 2, 3, 4] rfl)
      · refine lv_iconst (v := 3) hx hb dMeanings_attribute_122 (by decide) ?_
        exact hE _ _ _ _ _ hS ⟨trivial, hI⟩ dMeanings_attribute_123
  refine lv_iload_n hx hb dMeanings_attribute_0 rfl (lv_at hl 1 rfl) ?_
  refine lv_iconst (v := 1) hx hb dMeanings_attribute_1 (by decide) ?_
  refine lv_isub hx hb dMeanings_attribute_2 ?_
  refine lv_topi (fun v30 ev30 => ?_)
  refine lv_istore_n (lv' := [(2, .int v30), (0, .ref (γ.2.2.2 12)), (1, .int x1)]) hx hb dMeanings_attribute_3 rfl hl (by decide) rfl (fun ls hl => ?_)
  refine lv_aload_n hx hb dMeanings_attribute_4 rfl (lv_at hl 1 rfl) ?_
  refine of_get S hC (of_12_0 hI) in_Meanings rfl (by decide) qw_c54cffb97e dMeanings_attribute_5 ?_
  refine lv_iload_n hx hb dMeanings_attribute_8 rfl (lv_at hl 0 rfl) ?_
  refine pu_Vi (rest := []) S hC (k1_Trees_valueOf l γ A κ v30) meTrees_valueOf qw_b5139988c8 ⟨Nat.le_of_ble_eq_true rfl, Nat.le_of_ble_eq_true rfl⟩ (rv_1 hC hI) hI rfl hl.1 rfl (Nat.le_of_ble_eq_true rfl) dMeanings_attribute_9 ⟨Nat.zero_le _, Nat.zero_le _⟩ (fun r31 hr31 => ?_)
  refine lv_istore_n (lv' := [(3, .int r31), (2, .int v30), (0, .ref (γ.2.2.2 12)), (1, .int x1)]) hx hb dMeanings_attribute_12 rfl hl (by decide) rfl (fun ls hl => ?_)
  refine lv_aload_n hx hb dMeanings_attribute_13 rfl (lv_at hl 2 rfl) ?_
  refine of_get S hC (of_12_0 hI) in_Meanings rfl (by decide) qw_c54cffb97e dMeanings_attribute_14 ?_
  refine lv_iload_n hx hb dMeanings_attribute_17 rfl (lv_at hl 3 rfl) ?_
  refine pu_Vi (rest := []) S hC (k1_Trees_countOf l γ A κ x1) meTrees_countOf qw_08981d77a7 ⟨Nat.le_of_ble_eq_true rfl, Nat.le_of_ble_eq_true rfl⟩ (rv_1 hC hI) hI rfl hl.1 rfl (Nat.le_of_ble_eq_true rfl) dMeanings_attribute_18 ⟨Nat.zero_le _, Nat.zero_le _⟩ (fun r32 hr32 => ?_)
  refine lv_iconst (v := 1) hx hb dMeanings_attribute_21 (by decide) ?_
  refine lv_icmp_ne (tgt := 60) hx hb dMeanings_attribute_22 (by decide) (fun c33 => ?_) (fun c33 => ?_)
  · refine lv_bipush (v := 11) hx hb dMeanings_attribute_60 (by decide) ?_
    exact hE _ _ _ _ _ hS ⟨trivial, hI⟩ dMeanings_attribute_62
  · refine lv_aload_n hx hb dMeanings_attribute_25 rfl (lv_at hl 2 rfl) ?_
    refine of_get S hC (of_12_0 hI) in_Meanings rfl (by decide) qw_c54cffb97e dMeanings_attribute_26 ?_
    refine lv_iload_n hx hb dMeanings_attribute_29 rfl (lv_at hl 1 rfl) ?_
    refine pu_Vi (rest := []) S hC (k1_Trees_kindOf l γ A κ v30) meTrees_kindOf qw_6dd2778f5c ⟨Nat.le_of_ble_eq_true rfl, Nat.le_of_ble_eq_true rfl⟩ (rv_1 hC hI) hI rfl hl.1 rfl (Nat.le_of_ble_eq_true rfl) dMeanings_attribute_30 ⟨Nat.zero_le _, Nat.zero_le _⟩ (fun r34 hr34 => ?_)
    refine lv_iconst (v := 1) hx hb dMeanings_attribute_33 (by decide) ?_
    refine lv_icmp_ne (tgt := 60) hx hb dMeanings_attribute_34 (by decide) (fun c35 => ?_) (fun c35 => ?_)
    · refine lv_bipush (v := 11) hx hb dMeanings_attribute_60 (by decide) ?_
      exact hE _ _ _ _ _ hS ⟨trivial, hI⟩ dMeanings_attribute_62
    · refine lv_aload_n hx hb dMeanings_attribute_37 rfl (lv_at hl 2 rfl) ?_
      refine of_get S hC (of_12_0 hI) in_Meanings rfl (by decide) qw_c54cffb97e dMeanings_attribute_38 ?_
      refine lv_iload_n hx hb dMeanings_attribute_41 rfl (lv_at hl 1 rfl) ?_
      refine pu_Vi (rest := []) S hC (k1_Trees_countOf l γ A κ v30) meTrees_countOf qw_08981d77a7 ⟨Nat.le_of_ble_eq_true rfl, Nat.le_of_ble_eq_true rfl⟩ (rv_1 hC hI) hI rfl hl.1 rfl (Nat.le_of_ble_eq_true rfl) dMeanings_attribute_42 ⟨Nat.zero_le _, Nat.zero_le _⟩ (fun r36 hr36 => ?_)
      refine lv_if_ne (tgt := 60) hx hb dMeanings_attribute_45 (by decide) (fun c37 => ?_) (fun c37 => ?_)
      · refine lv_bipush (v := 11) hx hb dMeanings_attribute_60 (by decide) ?_
        exact hE _ _ _ _ _ hS ⟨trivial, hI⟩ dMeanings_attribute_62
      · refine lv_iload_n hx hb dMeanings_attribute_48 rfl (lv_at hl 0 rfl) ?_
        refine lv_bipush (v := 15) hx hb dMeanings_attribute_49 (by decide) ?_
        refine lv_icmp_lt (tgt := 60) hx hb dMeanings_attribute_51 (by decide) (fun c38 => ?_) (fun c38 => ?_)
        · refine lv_bipush (v := 11) hx hb dMeanings_attribute_60 (by decide) ?_
          exact hE _ _ _ _ _ hS ⟨trivial, hI⟩ dMeanings_attribute_62
        · refine lv_iload_n hx hb dMeanings_attribute_54 rfl (lv_at hl 0 rfl) ?_
          refine lv_bipush (v := 22) hx hb dMeanings_attribute_55 (by decide) ?_
          refine lv_icmp_le (tgt := 63) hx hb dMeanings_attribute_57 (by decide) (fun c39 => ?_) (fun c39 => ?_)
          · refine lv_aload_n hx hb dMeanings_attribute_63 rfl (lv_at hl 2 rfl) ?_
            refine lv_iload_n hx hb dMeanings_attribute_64 rfl (lv_at hl 3 rfl) ?_
            refine pu_Vi (rest := []) S hC (k_Meanings_isUnknown l γ A κ x1) meMeanings_isUnknown qw_88d34ce9ff ⟨Nat.le_of_ble_eq_true rfl, Nat.le_of_ble_eq_true rfl⟩ (rv_12 hC hI) hI rfl hl.1 rfl (Nat.le_of_ble_eq_true rfl) dMeanings_attribute_65 ⟨Nat.zero_le _, Nat.zero_le _⟩ (fun r40 hr40 => ?_)
            refine lv_if_eq (tgt := 73) hx hb dMeanings_attribute_68 (by decide) (fun c41 => ?_) (fun c41 => ?_)
            · refine lv_aload_n hx hb dMeanings_attribute_73 rfl (lv_at hl 2 rfl) ?_
              refine lv_iload_n hx hb dMeanings_attribute_74 rfl (lv_at hl 3 rfl) ?_
              refine pu_Vi (rest := []) S hC (k_Meanings_objectAt l γ A κ x1) meMeanings_objectAt qw_1c1a520089 ⟨Nat.le_of_ble_eq_true rfl, Nat.le_of_ble_eq_true rfl⟩ (rv_12 hC hI) hI rfl hl.1 rfl (Nat.le_of_ble_eq_true rfl) dMeanings_attribute_75 ⟨Nat.zero_le _, Nat.zero_le _⟩ (fun r42 hr42 => ?_)
              refine lv_istore (lv' := [(4, .int r42), (3, .int r31), (2, .int v30), (0, .ref (γ.2.2.2 12)), (1, .int x1)]) hx hb dMeanings_attribute_78 hl (by decide) rfl (fun ls hl => ?_)
              refine lv_iload hx hb dMeanings_attribute_80 (lv_at hl 0 rfl) ?_
              refine lv_iconst (v := (-1)) hx hb dMeanings_attribute_82 (by decide) ?_
              refine lv_icmp_eq (tgt := 105) hx hb dMeanings_attribute_83 (by decide) (fun c43 => ?_) (fun c43 => ?_)
              · refine lv_iconst (v := 2) hx hb dMeanings_attribute_105 (by decide) ?_
                exact hE _ _ _ _ _ hS ⟨trivial, hI⟩ dMeanings_attribute_106
              · refine lv_iload_n hx hb dMeanings_attribute_86 rfl (lv_at hl 1 rfl) ?_
                refine lv_bipush (v := 17) hx hb dMeanings_attribute_87 (by decide) ?_
                refine lv_icmp_gt (tgt := 107) hx hb dMeanings_attribute_89 (by decide) (fun c44 => ?_) (fun c44 => ?_)
                · exact J107 ls _ _ x1 v30 r31 r42 hI hS (lv_sub hl [3, 4, 2, 1, 0] rfl)
                · refine lv_aload_n hx hb dMeanings_attribute_92 rfl (lv_at hl 3 rfl) ?_
                  refine of_get S hC (of_12_3 hI) in_Meanings rfl (by decide) qw_9bfdade5f5 dMeanings_attribute_93 ?_
                  refine lv_iload hx hb dMeanings_attribute_96 (lv_at hl 0 rfl) ?_
                  refine pu_Vi (rest := []) S hC (k4_Objects_whatOf l γ A κ r42) meObjects_whatOf qw_2c7313498c ⟨Nat.le_of_ble_eq_true rfl, Nat.le_of_ble_eq_true rfl⟩ (rv_4 hC hI) hI rfl hl.1 rfl (Nat.le_of_ble_eq_true rfl) dMeanings_attribute_98 ⟨Nat.zero_le _, Nat.zero_le _⟩ (fun r45 hr45 => ?_)
                  refine lv_iconst (v := 1) hx hb dMeanings_attribute_101 (by decide) ?_
                  refine lv_icmp_eq (tgt := 107) hx hb dMeanings_attribute_102 (by decide) (fun c46 => ?_) (fun c46 => ?_)
                  · exact J107 ls _ _ x1 v30 r31 r42 hI hS (lv_sub hl [3, 4, 2, 1, 0] rfl)
                  · refine lv_iconst (v := 2) hx hb dMeanings_attribute_105 (by decide) ?_
                    exact hE _ _ _ _ _ hS ⟨trivial, hI⟩ dMeanings_attribute_106
            · refine lv_iconst (v := 1) hx hb dMeanings_attribute_71 (by decide) ?_
              exact hE _ _ _ _ _ hS ⟨trivial, hI⟩ dMeanings_attribute_72
          · refine lv_bipush (v := 11) hx hb dMeanings_attribute_60 (by decide) ?_
            exact hE _ _ _ _ _ hS ⟨trivial, hI⟩ dMeanings_attribute_62
